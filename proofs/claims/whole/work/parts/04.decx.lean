theorem dX0_init_0 : decode cX0_init 0 = .ok (.aload_n 0, 1) := by decide +kernel
theorem dX0_init_1 : decode cX0_init 1 = .ok (.invokespecial 1, 3) := by decide +kernel
theorem dX0_init_4 : decode cX0_init 4 = .ok (.aload_n 0, 1) := by decide +kernel
theorem dX0_init_5 : decode cX0_init 5 = .ok (.new 7, 3) := by decide +kernel
theorem dX0_init_8 : decode cX0_init 8 = .ok (.dup, 1) := by decide +kernel
theorem dX0_init_9 : decode cX0_init 9 = .ok (.invokespecial 9, 3) := by decide +kernel
theorem dX0_init_12 : decode cX0_init 12 = .ok (.putfield 10, 3) := by decide +kernel
theorem dX0_init_15 : decode cX0_init 15 = .ok (.aload_n 0, 1) := by decide +kernel
theorem dX0_init_16 : decode cX0_init 16 = .ok (.new 16, 3) := by decide +kernel
theorem dX0_init_19 : decode cX0_init 19 = .ok (.dup, 1) := by decide +kernel
theorem dX0_init_20 : decode cX0_init 20 = .ok (.invokespecial 18, 3) := by decide +kernel
theorem dX0_init_23 : decode cX0_init 23 = .ok (.putfield 19, 3) := by decide +kernel
theorem dX0_init_26 : decode cX0_init 26 = .ok (.return_, 1) := by decide +kernel
theorem dX1_init_0 : decode cX1_init 0 = .ok (.aload_n 0, 1) := by decide +kernel
theorem dX1_init_1 : decode cX1_init 1 = .ok (.invokespecial 3, 3) := by decide +kernel
theorem dX1_init_4 : decode cX1_init 4 = .ok (.aload_n 0, 1) := by decide +kernel
theorem dX1_init_5 : decode cX1_init 5 = .ok (.bipush 60, 2) := by decide +kernel
theorem dX1_init_7 : decode cX1_init 7 = .ok (.newarray .int, 2) := by decide +kernel
theorem dX1_init_9 : decode cX1_init 9 = .ok (.putfield 9, 3) := by decide +kernel
theorem dX1_init_12 : decode cX1_init 12 = .ok (.return_, 1) := by decide +kernel
theorem dX1_add_0 : decode cX1_add 0 = .ok (.aload_n 0, 1) := by decide +kernel
theorem dX1_add_1 : decode cX1_add 1 = .ok (.getfield 15, 3) := by decide +kernel
theorem dX1_add_4 : decode cX1_add 4 = .ok (.bipush 60, 2) := by decide +kernel
theorem dX1_add_6 : decode cX1_add 6 = .ok (.if_icmp .ge 23, 3) := by decide +kernel
theorem dX1_add_9 : decode cX1_add 9 = .ok (.aload_n 0, 1) := by decide +kernel
theorem dX1_add_10 : decode cX1_add 10 = .ok (.getfield 9, 3) := by decide +kernel
theorem dX1_add_13 : decode cX1_add 13 = .ok (.aload_n 0, 1) := by decide +kernel
theorem dX1_add_14 : decode cX1_add 14 = .ok (.getfield 15, 3) := by decide +kernel
theorem dX1_add_17 : decode cX1_add 17 = .ok (.iload_n 1, 1) := by decide +kernel
theorem dX1_add_18 : decode cX1_add 18 = .ok (.iastore, 1) := by decide +kernel
theorem dX1_add_19 : decode cX1_add 19 = .ok (.aload_n 0, 1) := by decide +kernel
theorem dX1_add_20 : decode cX1_add 20 = .ok (.dup, 1) := by decide +kernel
theorem dX1_add_21 : decode cX1_add 21 = .ok (.getfield 15, 3) := by decide +kernel
theorem dX1_add_24 : decode cX1_add 24 = .ok (.iconst 1, 1) := by decide +kernel
theorem dX1_add_25 : decode cX1_add 25 = .ok (.iadd, 1) := by decide +kernel
theorem dX1_add_26 : decode cX1_add 26 = .ok (.putfield 15, 3) := by decide +kernel
theorem dX1_add_29 : decode cX1_add 29 = .ok (.return_, 1) := by decide +kernel
theorem dX1_signAt_0 : decode cX1_signAt 0 = .ok (.iload_n 1, 1) := by decide +kernel
theorem dX1_signAt_1 : decode cX1_signAt 1 = .ok (.ifCond .lt 20, 3) := by decide +kernel
theorem dX1_signAt_4 : decode cX1_signAt 4 = .ok (.iload_n 1, 1) := by decide +kernel
theorem dX1_signAt_5 : decode cX1_signAt 5 = .ok (.aload_n 0, 1) := by decide +kernel
theorem dX1_signAt_6 : decode cX1_signAt 6 = .ok (.getfield 15, 3) := by decide +kernel
theorem dX1_signAt_9 : decode cX1_signAt 9 = .ok (.if_icmp .ge 12, 3) := by decide +kernel
theorem dX1_signAt_12 : decode cX1_signAt 12 = .ok (.aload_n 0, 1) := by decide +kernel
theorem dX1_signAt_13 : decode cX1_signAt 13 = .ok (.getfield 9, 3) := by decide +kernel
theorem dX1_signAt_16 : decode cX1_signAt 16 = .ok (.iload_n 1, 1) := by decide +kernel
theorem dX1_signAt_17 : decode cX1_signAt 17 = .ok (.iaload, 1) := by decide +kernel
theorem dX1_signAt_18 : decode cX1_signAt 18 = .ok (.goto 4, 3) := by decide +kernel
theorem dX1_signAt_21 : decode cX1_signAt 21 = .ok (.iconst 0, 1) := by decide +kernel
theorem dX1_signAt_22 : decode cX1_signAt 22 = .ok (.ireturn, 1) := by decide +kernel
theorem dX1_faultPlace_0 : decode cX1_faultPlace 0 = .ok (.iconst 0, 1) := by decide +kernel
theorem dX1_faultPlace_1 : decode cX1_faultPlace 1 = .ok (.istore_n 1, 1) := by decide +kernel
theorem dX1_faultPlace_2 : decode cX1_faultPlace 2 = .ok (.iconst 0, 1) := by decide +kernel
theorem dX1_faultPlace_3 : decode cX1_faultPlace 3 = .ok (.istore_n 2, 1) := by decide +kernel
theorem dX1_faultPlace_4 : decode cX1_faultPlace 4 = .ok (.iload_n 2, 1) := by decide +kernel
theorem dX1_faultPlace_5 : decode cX1_faultPlace 5 = .ok (.aload_n 0, 1) := by decide +kernel
theorem dX1_faultPlace_6 : decode cX1_faultPlace 6 = .ok (.getfield 15, 3) := by decide +kernel
theorem dX1_faultPlace_9 : decode cX1_faultPlace 9 = .ok (.if_icmp .ge 28, 3) := by decide +kernel
theorem dX1_faultPlace_12 : decode cX1_faultPlace 12 = .ok (.iload_n 1, 1) := by decide +kernel
theorem dX1_faultPlace_13 : decode cX1_faultPlace 13 = .ok (.aload_n 0, 1) := by decide +kernel
theorem dX1_faultPlace_14 : decode cX1_faultPlace 14 = .ok (.getfield 9, 3) := by decide +kernel
theorem dX1_faultPlace_17 : decode cX1_faultPlace 17 = .ok (.iload_n 2, 1) := by decide +kernel
theorem dX1_faultPlace_18 : decode cX1_faultPlace 18 = .ok (.iaload, 1) := by decide +kernel
theorem dX1_faultPlace_19 : decode cX1_faultPlace 19 = .ok (.invokestatic 19, 3) := by decide +kernel
theorem dX1_faultPlace_22 : decode cX1_faultPlace 22 = .ok (.istore_n 1, 1) := by decide +kernel
theorem dX1_faultPlace_23 : decode cX1_faultPlace 23 = .ok (.iload_n 1, 1) := by decide +kernel
theorem dX1_faultPlace_24 : decode cX1_faultPlace 24 = .ok (.bipush 6, 2) := by decide +kernel
theorem dX1_faultPlace_26 : decode cX1_faultPlace 26 = .ok (.if_icmp .ne 5, 3) := by decide +kernel
theorem dX1_faultPlace_29 : decode cX1_faultPlace 29 = .ok (.iload_n 2, 1) := by decide +kernel
theorem dX1_faultPlace_30 : decode cX1_faultPlace 30 = .ok (.ireturn, 1) := by decide +kernel
theorem dX1_faultPlace_31 : decode cX1_faultPlace 31 = .ok (.iinc 2 1, 3) := by decide +kernel
theorem dX1_faultPlace_34 : decode cX1_faultPlace 34 = .ok (.goto (-30), 3) := by decide +kernel
theorem dX1_faultPlace_37 : decode cX1_faultPlace 37 = .ok (.iload_n 1, 1) := by decide +kernel
theorem dX1_faultPlace_38 : decode cX1_faultPlace 38 = .ok (.ifCond .ne 8, 3) := by decide +kernel
theorem dX1_faultPlace_41 : decode cX1_faultPlace 41 = .ok (.bipush (-6), 2) := by decide +kernel
theorem dX1_faultPlace_43 : decode cX1_faultPlace 43 = .ok (.goto 7, 3) := by decide +kernel
theorem dX1_faultPlace_46 : decode cX1_faultPlace 46 = .ok (.aload_n 0, 1) := by decide +kernel
theorem dX1_faultPlace_47 : decode cX1_faultPlace 47 = .ok (.getfield 15, 3) := by decide +kernel
theorem dX1_faultPlace_50 : decode cX1_faultPlace 50 = .ok (.ireturn, 1) := by decide +kernel
theorem dX1_nextBehind_0 : decode cX1_nextBehind 0 = .ok (.iload_n 0, 1) := by decide +kernel
theorem dX1_nextBehind_1 : decode cX1_nextBehind 1 = .ok (.tableswitch 95 0 4 #[35, 40, 58, 72, 77], 35) := by decide +kernel
theorem dX1_nextBehind_36 : decode cX1_nextBehind 36 = .ok (.iload_n 1, 1) := by decide +kernel
theorem dX1_nextBehind_37 : decode cX1_nextBehind 37 = .ok (.invokestatic 23, 3) := by decide +kernel
theorem dX1_nextBehind_40 : decode cX1_nextBehind 40 = .ok (.ireturn, 1) := by decide +kernel
theorem dX1_nextBehind_41 : decode cX1_nextBehind 41 = .ok (.iload_n 1, 1) := by decide +kernel
theorem dX1_nextBehind_42 : decode cX1_nextBehind 42 = .ok (.bipush 49, 2) := by decide +kernel
theorem dX1_nextBehind_44 : decode cX1_nextBehind 44 = .ok (.bipush 57, 2) := by decide +kernel
theorem dX1_nextBehind_46 : decode cX1_nextBehind 46 = .ok (.invokestatic 27, 3) := by decide +kernel
theorem dX1_nextBehind_49 : decode cX1_nextBehind 49 = .ok (.ifCond .eq 7, 3) := by decide +kernel
theorem dX1_nextBehind_52 : decode cX1_nextBehind 52 = .ok (.iconst 0, 1) := by decide +kernel
theorem dX1_nextBehind_53 : decode cX1_nextBehind 53 = .ok (.goto 5, 3) := by decide +kernel
theorem dX1_nextBehind_56 : decode cX1_nextBehind 56 = .ok (.bipush 6, 2) := by decide +kernel
theorem dX1_nextBehind_58 : decode cX1_nextBehind 58 = .ok (.ireturn, 1) := by decide +kernel
theorem dX1_nextBehind_59 : decode cX1_nextBehind 59 = .ok (.iload_n 1, 1) := by decide +kernel
theorem dX1_nextBehind_60 : decode cX1_nextBehind 60 = .ok (.invokestatic 31, 3) := by decide +kernel
theorem dX1_nextBehind_63 : decode cX1_nextBehind 63 = .ok (.ifCond .eq 7, 3) := by decide +kernel
theorem dX1_nextBehind_66 : decode cX1_nextBehind 66 = .ok (.iconst 1, 1) := by decide +kernel
theorem dX1_nextBehind_67 : decode cX1_nextBehind 67 = .ok (.goto 5, 3) := by decide +kernel
theorem dX1_nextBehind_70 : decode cX1_nextBehind 70 = .ok (.bipush 6, 2) := by decide +kernel
theorem dX1_nextBehind_72 : decode cX1_nextBehind 72 = .ok (.ireturn, 1) := by decide +kernel
theorem dX1_nextBehind_73 : decode cX1_nextBehind 73 = .ok (.iload_n 1, 1) := by decide +kernel
theorem dX1_nextBehind_74 : decode cX1_nextBehind 74 = .ok (.invokestatic 35, 3) := by decide +kernel
theorem dX1_nextBehind_77 : decode cX1_nextBehind 77 = .ok (.ireturn, 1) := by decide +kernel
theorem dX1_nextBehind_78 : decode cX1_nextBehind 78 = .ok (.iload_n 1, 1) := by decide +kernel
theorem dX1_nextBehind_79 : decode cX1_nextBehind 79 = .ok (.bipush 48, 2) := by decide +kernel
theorem dX1_nextBehind_81 : decode cX1_nextBehind 81 = .ok (.bipush 55, 2) := by decide +kernel
theorem dX1_nextBehind_83 : decode cX1_nextBehind 83 = .ok (.invokestatic 27, 3) := by decide +kernel
theorem dX1_nextBehind_86 : decode cX1_nextBehind 86 = .ok (.ifCond .eq 7, 3) := by decide +kernel
theorem dX1_nextBehind_89 : decode cX1_nextBehind 89 = .ok (.iconst 0, 1) := by decide +kernel
theorem dX1_nextBehind_90 : decode cX1_nextBehind 90 = .ok (.goto 5, 3) := by decide +kernel
theorem dX1_nextBehind_93 : decode cX1_nextBehind 93 = .ok (.bipush 6, 2) := by decide +kernel
theorem dX1_nextBehind_95 : decode cX1_nextBehind 95 = .ok (.ireturn, 1) := by decide +kernel
theorem dX1_nextBehind_96 : decode cX1_nextBehind 96 = .ok (.iload_n 1, 1) := by decide +kernel
theorem dX1_nextBehind_97 : decode cX1_nextBehind 97 = .ok (.invokestatic 31, 3) := by decide +kernel
theorem dX1_nextBehind_100 : decode cX1_nextBehind 100 = .ok (.ifCond .eq 7, 3) := by decide +kernel
theorem dX1_nextBehind_103 : decode cX1_nextBehind 103 = .ok (.iconst 0, 1) := by decide +kernel
theorem dX1_nextBehind_104 : decode cX1_nextBehind 104 = .ok (.goto 5, 3) := by decide +kernel
theorem dX1_nextBehind_107 : decode cX1_nextBehind 107 = .ok (.bipush 6, 2) := by decide +kernel
theorem dX1_nextBehind_109 : decode cX1_nextBehind 109 = .ok (.ireturn, 1) := by decide +kernel
theorem dX1_nextBehindFirst_0 : decode cX1_nextBehindFirst 0 = .ok (.iload_n 0, 1) := by decide +kernel
theorem dX1_nextBehindFirst_1 : decode cX1_nextBehindFirst 1 = .ok (.lookupswitch 41 #[(33, 39), (43, 37), (46, 35)], 35) := by decide +kernel
theorem dX1_nextBehindFirst_36 : decode cX1_nextBehindFirst 36 = .ok (.iconst 0, 1) := by decide +kernel
theorem dX1_nextBehindFirst_37 : decode cX1_nextBehindFirst 37 = .ok (.ireturn, 1) := by decide +kernel
theorem dX1_nextBehindFirst_38 : decode cX1_nextBehindFirst 38 = .ok (.iconst 1, 1) := by decide +kernel
theorem dX1_nextBehindFirst_39 : decode cX1_nextBehindFirst 39 = .ok (.ireturn, 1) := by decide +kernel
theorem dX1_nextBehindFirst_40 : decode cX1_nextBehindFirst 40 = .ok (.iconst 2, 1) := by decide +kernel
theorem dX1_nextBehindFirst_41 : decode cX1_nextBehindFirst 41 = .ok (.ireturn, 1) := by decide +kernel
theorem dX1_nextBehindFirst_42 : decode cX1_nextBehindFirst 42 = .ok (.iload_n 0, 1) := by decide +kernel
theorem dX1_nextBehindFirst_43 : decode cX1_nextBehindFirst 43 = .ok (.invokestatic 31, 3) := by decide +kernel
theorem dX1_nextBehindFirst_46 : decode cX1_nextBehindFirst 46 = .ok (.ifCond .eq 7, 3) := by decide +kernel
theorem dX1_nextBehindFirst_49 : decode cX1_nextBehindFirst 49 = .ok (.iconst 3, 1) := by decide +kernel
theorem dX1_nextBehindFirst_50 : decode cX1_nextBehindFirst 50 = .ok (.goto 5, 3) := by decide +kernel
theorem dX1_nextBehindFirst_53 : decode cX1_nextBehindFirst 53 = .ok (.bipush 6, 2) := by decide +kernel
theorem dX1_nextBehindFirst_55 : decode cX1_nextBehindFirst 55 = .ok (.ireturn, 1) := by decide +kernel
theorem dX1_nextBehindDeed_0 : decode cX1_nextBehindDeed 0 = .ok (.iload_n 0, 1) := by decide +kernel
theorem dX1_nextBehindDeed_1 : decode cX1_nextBehindDeed 1 = .ok (.lookupswitch 49 #[(36, 43), (47, 47), (62, 45), (64, 47)], 43) := by decide +kernel
theorem dX1_nextBehindDeed_44 : decode cX1_nextBehindDeed 44 = .ok (.iconst 4, 1) := by decide +kernel
theorem dX1_nextBehindDeed_45 : decode cX1_nextBehindDeed 45 = .ok (.ireturn, 1) := by decide +kernel
theorem dX1_nextBehindDeed_46 : decode cX1_nextBehindDeed 46 = .ok (.iconst 5, 1) := by decide +kernel
theorem dX1_nextBehindDeed_47 : decode cX1_nextBehindDeed 47 = .ok (.ireturn, 1) := by decide +kernel
theorem dX1_nextBehindDeed_48 : decode cX1_nextBehindDeed 48 = .ok (.iconst 1, 1) := by decide +kernel
theorem dX1_nextBehindDeed_49 : decode cX1_nextBehindDeed 49 = .ok (.ireturn, 1) := by decide +kernel
theorem dX1_nextBehindDeed_50 : decode cX1_nextBehindDeed 50 = .ok (.bipush 6, 2) := by decide +kernel
theorem dX1_nextBehindDeed_52 : decode cX1_nextBehindDeed 52 = .ok (.ireturn, 1) := by decide +kernel
theorem dX1_isLetter_0 : decode cX1_isLetter 0 = .ok (.iload_n 0, 1) := by decide +kernel
theorem dX1_isLetter_1 : decode cX1_isLetter 1 = .ok (.bipush 65, 2) := by decide +kernel
theorem dX1_isLetter_3 : decode cX1_isLetter 3 = .ok (.bipush 70, 2) := by decide +kernel
theorem dX1_isLetter_5 : decode cX1_isLetter 5 = .ok (.invokestatic 27, 3) := by decide +kernel
theorem dX1_isLetter_8 : decode cX1_isLetter 8 = .ok (.ireturn, 1) := by decide +kernel
theorem dX2_init_0 : decode cX2_init 0 = .ok (.aload_n 0, 1) := by decide +kernel
theorem dX2_init_1 : decode cX2_init 1 = .ok (.invokespecial 3, 3) := by decide +kernel
theorem dX2_init_4 : decode cX2_init 4 = .ok (.aload_n 0, 1) := by decide +kernel
theorem dX2_init_5 : decode cX2_init 5 = .ok (.bipush 6, 2) := by decide +kernel
theorem dX2_init_7 : decode cX2_init 7 = .ok (.newarray .int, 2) := by decide +kernel
theorem dX2_init_9 : decode cX2_init 9 = .ok (.putfield 9, 3) := by decide +kernel
theorem dX2_init_12 : decode cX2_init 12 = .ok (.aload_n 0, 1) := by decide +kernel
theorem dX2_init_13 : decode cX2_init 13 = .ok (.bipush 6, 2) := by decide +kernel
theorem dX2_init_15 : decode cX2_init 15 = .ok (.newarray .int, 2) := by decide +kernel
theorem dX2_init_17 : decode cX2_init 17 = .ok (.putfield 15, 3) := by decide +kernel
theorem dX2_init_20 : decode cX2_init 20 = .ok (.aload_n 0, 1) := by decide +kernel
theorem dX2_init_21 : decode cX2_init 21 = .ok (.bipush 6, 2) := by decide +kernel
theorem dX2_init_23 : decode cX2_init 23 = .ok (.bipush 6, 2) := by decide +kernel
theorem dX2_init_25 : decode cX2_init 25 = .ok (.multianewarray 18 2, 4) := by decide +kernel
theorem dX2_init_29 : decode cX2_init 29 = .ok (.putfield 20, 3) := by decide +kernel
theorem dX2_init_32 : decode cX2_init 32 = .ok (.aload_n 0, 1) := by decide +kernel
theorem dX2_init_33 : decode cX2_init 33 = .ok (.bipush 8, 2) := by decide +kernel
theorem dX2_init_35 : decode cX2_init 35 = .ok (.newarray .int, 2) := by decide +kernel
theorem dX2_init_37 : decode cX2_init 37 = .ok (.putfield 23, 3) := by decide +kernel
theorem dX2_init_40 : decode cX2_init 40 = .ok (.aload_n 0, 1) := by decide +kernel
theorem dX2_init_41 : decode cX2_init 41 = .ok (.bipush 8, 2) := by decide +kernel
theorem dX2_init_43 : decode cX2_init 43 = .ok (.newarray .int, 2) := by decide +kernel
theorem dX2_init_45 : decode cX2_init 45 = .ok (.putfield 26, 3) := by decide +kernel
theorem dX2_init_48 : decode cX2_init 48 = .ok (.iconst 0, 1) := by decide +kernel
theorem dX2_init_49 : decode cX2_init 49 = .ok (.istore_n 1, 1) := by decide +kernel
theorem dX2_init_50 : decode cX2_init 50 = .ok (.iload_n 1, 1) := by decide +kernel
theorem dX2_init_51 : decode cX2_init 51 = .ok (.bipush 6, 2) := by decide +kernel
theorem dX2_init_53 : decode cX2_init 53 = .ok (.if_icmp .ge 25, 3) := by decide +kernel
theorem dX2_init_56 : decode cX2_init 56 = .ok (.aload_n 0, 1) := by decide +kernel
theorem dX2_init_57 : decode cX2_init 57 = .ok (.getfield 9, 3) := by decide +kernel
theorem dX2_init_60 : decode cX2_init 60 = .ok (.iload_n 1, 1) := by decide +kernel
theorem dX2_init_61 : decode cX2_init 61 = .ok (.bipush 100, 2) := by decide +kernel
theorem dX2_init_63 : decode cX2_init 63 = .ok (.iastore, 1) := by decide +kernel
theorem dX2_init_64 : decode cX2_init 64 = .ok (.aload_n 0, 1) := by decide +kernel
theorem dX2_init_65 : decode cX2_init 65 = .ok (.getfield 15, 3) := by decide +kernel
theorem dX2_init_68 : decode cX2_init 68 = .ok (.iload_n 1, 1) := by decide +kernel
theorem dX2_init_69 : decode cX2_init 69 = .ok (.bipush 100, 2) := by decide +kernel
theorem dX2_init_71 : decode cX2_init 71 = .ok (.iastore, 1) := by decide +kernel
theorem dX2_init_72 : decode cX2_init 72 = .ok (.iinc 1 1, 3) := by decide +kernel
theorem dX2_init_75 : decode cX2_init 75 = .ok (.goto (-25), 3) := by decide +kernel
theorem dX2_init_78 : decode cX2_init 78 = .ok (.iconst 0, 1) := by decide +kernel
theorem dX2_init_79 : decode cX2_init 79 = .ok (.istore_n 1, 1) := by decide +kernel
theorem dX2_init_80 : decode cX2_init 80 = .ok (.iload_n 1, 1) := by decide +kernel
theorem dX2_init_81 : decode cX2_init 81 = .ok (.bipush 8, 2) := by decide +kernel
theorem dX2_init_83 : decode cX2_init 83 = .ok (.if_icmp .ge 24, 3) := by decide +kernel
theorem dX2_init_86 : decode cX2_init 86 = .ok (.aload_n 0, 1) := by decide +kernel
theorem dX2_init_87 : decode cX2_init 87 = .ok (.getfield 23, 3) := by decide +kernel
theorem dX2_init_90 : decode cX2_init 90 = .ok (.iload_n 1, 1) := by decide +kernel
theorem dX2_init_91 : decode cX2_init 91 = .ok (.bipush 100, 2) := by decide +kernel
theorem dX2_init_93 : decode cX2_init 93 = .ok (.iastore, 1) := by decide +kernel
theorem dX2_init_94 : decode cX2_init 94 = .ok (.aload_n 0, 1) := by decide +kernel
theorem dX2_init_95 : decode cX2_init 95 = .ok (.getfield 26, 3) := by decide +kernel
theorem dX2_init_98 : decode cX2_init 98 = .ok (.iload_n 1, 1) := by decide +kernel
theorem dX2_init_99 : decode cX2_init 99 = .ok (.iconst (-1), 1) := by decide +kernel
theorem dX2_init_100 : decode cX2_init 100 = .ok (.iastore, 1) := by decide +kernel
theorem dX2_init_101 : decode cX2_init 101 = .ok (.iinc 1 1, 3) := by decide +kernel
theorem dX2_init_104 : decode cX2_init 104 = .ok (.goto (-24), 3) := by decide +kernel
theorem dX2_init_107 : decode cX2_init 107 = .ok (.return_, 1) := by decide +kernel
theorem dX2_copyFrom_0 : decode cX2_copyFrom 0 = .ok (.aload_n 1, 1) := by decide +kernel
theorem dX2_copyFrom_1 : decode cX2_copyFrom 1 = .ok (.getfield 9, 3) := by decide +kernel
theorem dX2_copyFrom_4 : decode cX2_copyFrom 4 = .ok (.iconst 0, 1) := by decide +kernel
theorem dX2_copyFrom_5 : decode cX2_copyFrom 5 = .ok (.aload_n 0, 1) := by decide +kernel
theorem dX2_copyFrom_6 : decode cX2_copyFrom 6 = .ok (.getfield 9, 3) := by decide +kernel
theorem dX2_copyFrom_9 : decode cX2_copyFrom 9 = .ok (.iconst 0, 1) := by decide +kernel
theorem dX2_copyFrom_10 : decode cX2_copyFrom 10 = .ok (.bipush 6, 2) := by decide +kernel
theorem dX2_copyFrom_12 : decode cX2_copyFrom 12 = .ok (.invokestatic 29, 3) := by decide +kernel
theorem dX2_copyFrom_15 : decode cX2_copyFrom 15 = .ok (.aload_n 1, 1) := by decide +kernel
theorem dX2_copyFrom_16 : decode cX2_copyFrom 16 = .ok (.getfield 15, 3) := by decide +kernel
theorem dX2_copyFrom_19 : decode cX2_copyFrom 19 = .ok (.iconst 0, 1) := by decide +kernel
theorem dX2_copyFrom_20 : decode cX2_copyFrom 20 = .ok (.aload_n 0, 1) := by decide +kernel
theorem dX2_copyFrom_21 : decode cX2_copyFrom 21 = .ok (.getfield 15, 3) := by decide +kernel
theorem dX2_copyFrom_24 : decode cX2_copyFrom 24 = .ok (.iconst 0, 1) := by decide +kernel
theorem dX2_copyFrom_25 : decode cX2_copyFrom 25 = .ok (.bipush 6, 2) := by decide +kernel
theorem dX2_copyFrom_27 : decode cX2_copyFrom 27 = .ok (.invokestatic 29, 3) := by decide +kernel
theorem dX2_copyFrom_30 : decode cX2_copyFrom 30 = .ok (.iconst 0, 1) := by decide +kernel
theorem dX2_copyFrom_31 : decode cX2_copyFrom 31 = .ok (.istore_n 2, 1) := by decide +kernel
theorem dX2_copyFrom_32 : decode cX2_copyFrom 32 = .ok (.iload_n 2, 1) := by decide +kernel
theorem dX2_copyFrom_33 : decode cX2_copyFrom 33 = .ok (.bipush 6, 2) := by decide +kernel
theorem dX2_copyFrom_35 : decode cX2_copyFrom 35 = .ok (.if_icmp .ge 28, 3) := by decide +kernel
theorem dX2_copyFrom_38 : decode cX2_copyFrom 38 = .ok (.aload_n 1, 1) := by decide +kernel
theorem dX2_copyFrom_39 : decode cX2_copyFrom 39 = .ok (.getfield 20, 3) := by decide +kernel
theorem dX2_copyFrom_42 : decode cX2_copyFrom 42 = .ok (.iload_n 2, 1) := by decide +kernel
theorem dX2_copyFrom_43 : decode cX2_copyFrom 43 = .ok (.aaload, 1) := by decide +kernel
theorem dX2_copyFrom_44 : decode cX2_copyFrom 44 = .ok (.iconst 0, 1) := by decide +kernel
theorem dX2_copyFrom_45 : decode cX2_copyFrom 45 = .ok (.aload_n 0, 1) := by decide +kernel
theorem dX2_copyFrom_46 : decode cX2_copyFrom 46 = .ok (.getfield 20, 3) := by decide +kernel
theorem dX2_copyFrom_49 : decode cX2_copyFrom 49 = .ok (.iload_n 2, 1) := by decide +kernel
theorem dX2_copyFrom_50 : decode cX2_copyFrom 50 = .ok (.aaload, 1) := by decide +kernel
theorem dX2_copyFrom_51 : decode cX2_copyFrom 51 = .ok (.iconst 0, 1) := by decide +kernel
theorem dX2_copyFrom_52 : decode cX2_copyFrom 52 = .ok (.bipush 6, 2) := by decide +kernel
theorem dX2_copyFrom_54 : decode cX2_copyFrom 54 = .ok (.invokestatic 29, 3) := by decide +kernel
theorem dX2_copyFrom_57 : decode cX2_copyFrom 57 = .ok (.iinc 2 1, 3) := by decide +kernel
theorem dX2_copyFrom_60 : decode cX2_copyFrom 60 = .ok (.goto (-28), 3) := by decide +kernel
theorem dX2_copyFrom_63 : decode cX2_copyFrom 63 = .ok (.aload_n 1, 1) := by decide +kernel
theorem dX2_copyFrom_64 : decode cX2_copyFrom 64 = .ok (.getfield 23, 3) := by decide +kernel
theorem dX2_copyFrom_67 : decode cX2_copyFrom 67 = .ok (.iconst 0, 1) := by decide +kernel
theorem dX2_copyFrom_68 : decode cX2_copyFrom 68 = .ok (.aload_n 0, 1) := by decide +kernel
theorem dX2_copyFrom_69 : decode cX2_copyFrom 69 = .ok (.getfield 23, 3) := by decide +kernel
theorem dX2_copyFrom_72 : decode cX2_copyFrom 72 = .ok (.iconst 0, 1) := by decide +kernel
theorem dX2_copyFrom_73 : decode cX2_copyFrom 73 = .ok (.bipush 8, 2) := by decide +kernel
theorem dX2_copyFrom_75 : decode cX2_copyFrom 75 = .ok (.invokestatic 29, 3) := by decide +kernel
theorem dX2_copyFrom_78 : decode cX2_copyFrom 78 = .ok (.aload_n 1, 1) := by decide +kernel
theorem dX2_copyFrom_79 : decode cX2_copyFrom 79 = .ok (.getfield 26, 3) := by decide +kernel
theorem dX2_copyFrom_82 : decode cX2_copyFrom 82 = .ok (.iconst 0, 1) := by decide +kernel
theorem dX2_copyFrom_83 : decode cX2_copyFrom 83 = .ok (.aload_n 0, 1) := by decide +kernel
theorem dX2_copyFrom_84 : decode cX2_copyFrom 84 = .ok (.getfield 26, 3) := by decide +kernel
theorem dX2_copyFrom_87 : decode cX2_copyFrom 87 = .ok (.iconst 0, 1) := by decide +kernel
theorem dX2_copyFrom_88 : decode cX2_copyFrom 88 = .ok (.bipush 8, 2) := by decide +kernel
theorem dX2_copyFrom_90 : decode cX2_copyFrom 90 = .ok (.invokestatic 29, 3) := by decide +kernel
theorem dX2_copyFrom_93 : decode cX2_copyFrom 93 = .ok (.aload_n 0, 1) := by decide +kernel
theorem dX2_copyFrom_94 : decode cX2_copyFrom 94 = .ok (.aload_n 1, 1) := by decide +kernel
theorem dX2_copyFrom_95 : decode cX2_copyFrom 95 = .ok (.getfield 35, 3) := by decide +kernel
theorem dX2_copyFrom_98 : decode cX2_copyFrom 98 = .ok (.putfield 35, 3) := by decide +kernel
theorem dX2_copyFrom_101 : decode cX2_copyFrom 101 = .ok (.aload_n 0, 1) := by decide +kernel
theorem dX2_copyFrom_102 : decode cX2_copyFrom 102 = .ok (.aload_n 1, 1) := by decide +kernel
theorem dX2_copyFrom_103 : decode cX2_copyFrom 103 = .ok (.getfield 39, 3) := by decide +kernel
theorem dX2_copyFrom_106 : decode cX2_copyFrom 106 = .ok (.putfield 39, 3) := by decide +kernel
theorem dX2_copyFrom_109 : decode cX2_copyFrom 109 = .ok (.aload_n 0, 1) := by decide +kernel
theorem dX2_copyFrom_110 : decode cX2_copyFrom 110 = .ok (.aload_n 1, 1) := by decide +kernel
theorem dX2_copyFrom_111 : decode cX2_copyFrom 111 = .ok (.getfield 42, 3) := by decide +kernel
theorem dX2_copyFrom_114 : decode cX2_copyFrom 114 = .ok (.putfield 42, 3) := by decide +kernel
theorem dX2_copyFrom_117 : decode cX2_copyFrom 117 = .ok (.aload_n 0, 1) := by decide +kernel
theorem dX2_copyFrom_118 : decode cX2_copyFrom 118 = .ok (.aload_n 1, 1) := by decide +kernel
theorem dX2_copyFrom_119 : decode cX2_copyFrom 119 = .ok (.getfield 45, 3) := by decide +kernel
theorem dX2_copyFrom_122 : decode cX2_copyFrom 122 = .ok (.putfield 45, 3) := by decide +kernel
theorem dX2_copyFrom_125 : decode cX2_copyFrom 125 = .ok (.return_, 1) := by decide +kernel
theorem dX2_notes_0 : decode cX2_notes 0 = .ok (.aload_n 0, 1) := by decide +kernel
theorem dX2_notes_1 : decode cX2_notes 1 = .ok (.getfield 35, 3) := by decide +kernel
theorem dX2_notes_4 : decode cX2_notes 4 = .ok (.istore_n 1, 1) := by decide +kernel
theorem dX2_notes_5 : decode cX2_notes 5 = .ok (.iconst 0, 1) := by decide +kernel
theorem dX2_notes_6 : decode cX2_notes 6 = .ok (.istore_n 2, 1) := by decide +kernel
theorem dX2_notes_7 : decode cX2_notes 7 = .ok (.iload_n 2, 1) := by decide +kernel
theorem dX2_notes_8 : decode cX2_notes 8 = .ok (.bipush 6, 2) := by decide +kernel
theorem dX2_notes_10 : decode cX2_notes 10 = .ok (.if_icmp .ge 18, 3) := by decide +kernel
theorem dX2_notes_13 : decode cX2_notes 13 = .ok (.iload_n 1, 1) := by decide +kernel
theorem dX2_notes_14 : decode cX2_notes 14 = .ok (.aload_n 0, 1) := by decide +kernel
theorem dX2_notes_15 : decode cX2_notes 15 = .ok (.getfield 9, 3) := by decide +kernel
theorem dX2_notes_18 : decode cX2_notes 18 = .ok (.iload_n 2, 1) := by decide +kernel
theorem dX2_notes_19 : decode cX2_notes 19 = .ok (.iaload, 1) := by decide +kernel
theorem dX2_notes_20 : decode cX2_notes 20 = .ok (.iadd, 1) := by decide +kernel
theorem dX2_notes_21 : decode cX2_notes 21 = .ok (.istore_n 1, 1) := by decide +kernel
theorem dX2_notes_22 : decode cX2_notes 22 = .ok (.iinc 2 1, 3) := by decide +kernel
theorem dX2_notes_25 : decode cX2_notes 25 = .ok (.goto (-18), 3) := by decide +kernel
theorem dX2_notes_28 : decode cX2_notes 28 = .ok (.iload_n 1, 1) := by decide +kernel
theorem dX2_notes_29 : decode cX2_notes 29 = .ok (.ireturn, 1) := by decide +kernel
theorem dX2_land_0 : decode cX2_land 0 = .ok (.iconst 0, 1) := by decide +kernel
theorem dX2_land_1 : decode cX2_land 1 = .ok (.istore_n 1, 1) := by decide +kernel
theorem dX2_land_2 : decode cX2_land 2 = .ok (.iconst 0, 1) := by decide +kernel
theorem dX2_land_3 : decode cX2_land 3 = .ok (.istore_n 2, 1) := by decide +kernel
theorem dX2_land_4 : decode cX2_land 4 = .ok (.iload_n 2, 1) := by decide +kernel
theorem dX2_land_5 : decode cX2_land 5 = .ok (.bipush 8, 2) := by decide +kernel
theorem dX2_land_7 : decode cX2_land 7 = .ok (.if_icmp .ge 28, 3) := by decide +kernel
theorem dX2_land_10 : decode cX2_land 10 = .ok (.aload_n 0, 1) := by decide +kernel
theorem dX2_land_11 : decode cX2_land 11 = .ok (.getfield 26, 3) := by decide +kernel
theorem dX2_land_14 : decode cX2_land 14 = .ok (.iload_n 2, 1) := by decide +kernel
theorem dX2_land_15 : decode cX2_land 15 = .ok (.iaload, 1) := by decide +kernel
theorem dX2_land_16 : decode cX2_land 16 = .ok (.iconst (-1), 1) := by decide +kernel
theorem dX2_land_17 : decode cX2_land 17 = .ok (.if_icmp .ne 12, 3) := by decide +kernel
theorem dX2_land_20 : decode cX2_land 20 = .ok (.iload_n 1, 1) := by decide +kernel
theorem dX2_land_21 : decode cX2_land 21 = .ok (.aload_n 0, 1) := by decide +kernel
theorem dX2_land_22 : decode cX2_land 22 = .ok (.getfield 23, 3) := by decide +kernel
theorem dX2_land_25 : decode cX2_land 25 = .ok (.iload_n 2, 1) := by decide +kernel
theorem dX2_land_26 : decode cX2_land 26 = .ok (.iaload, 1) := by decide +kernel
theorem dX2_land_27 : decode cX2_land 27 = .ok (.iadd, 1) := by decide +kernel
theorem dX2_land_28 : decode cX2_land 28 = .ok (.istore_n 1, 1) := by decide +kernel
theorem dX2_land_29 : decode cX2_land 29 = .ok (.iinc 2 1, 3) := by decide +kernel
theorem dX2_land_32 : decode cX2_land 32 = .ok (.goto (-28), 3) := by decide +kernel
theorem dX2_land_35 : decode cX2_land 35 = .ok (.iload_n 1, 1) := by decide +kernel
theorem dX2_land_36 : decode cX2_land 36 = .ok (.ireturn, 1) := by decide +kernel
theorem dX2_rate_0 : decode cX2_rate 0 = .ok (.aload_n 0, 1) := by decide +kernel
theorem dX2_rate_1 : decode cX2_rate 1 = .ok (.invokevirtual 48, 3) := by decide +kernel
theorem dX2_rate_4 : decode cX2_rate 4 = .ok (.aload_n 0, 1) := by decide +kernel
theorem dX2_rate_5 : decode cX2_rate 5 = .ok (.invokevirtual 52, 3) := by decide +kernel
theorem dX2_rate_8 : decode cX2_rate 8 = .ok (.invokestatic 55, 3) := by decide +kernel
theorem dX2_rate_11 : decode cX2_rate 11 = .ok (.ireturn, 1) := by decide +kernel
theorem dX2_priceOf_0 : decode cX2_priceOf 0 = .ok (.iconst 0, 1) := by decide +kernel
theorem dX2_priceOf_1 : decode cX2_priceOf 1 = .ok (.istore_n 2, 1) := by decide +kernel
theorem dX2_priceOf_2 : decode cX2_priceOf 2 = .ok (.iconst 0, 1) := by decide +kernel
theorem dX2_priceOf_3 : decode cX2_priceOf 3 = .ok (.istore_n 3, 1) := by decide +kernel
theorem dX2_priceOf_4 : decode cX2_priceOf 4 = .ok (.iload_n 3, 1) := by decide +kernel
theorem dX2_priceOf_5 : decode cX2_priceOf 5 = .ok (.bipush 8, 2) := by decide +kernel
theorem dX2_priceOf_7 : decode cX2_priceOf 7 = .ok (.if_icmp .ge 27, 3) := by decide +kernel
theorem dX2_priceOf_10 : decode cX2_priceOf 10 = .ok (.iload_n 1, 1) := by decide +kernel
theorem dX2_priceOf_11 : decode cX2_priceOf 11 = .ok (.iload_n 3, 1) := by decide +kernel
theorem dX2_priceOf_12 : decode cX2_priceOf 12 = .ok (.ishr, 1) := by decide +kernel
theorem dX2_priceOf_13 : decode cX2_priceOf 13 = .ok (.iconst 1, 1) := by decide +kernel
theorem dX2_priceOf_14 : decode cX2_priceOf 14 = .ok (.iand, 1) := by decide +kernel
theorem dX2_priceOf_15 : decode cX2_priceOf 15 = .ok (.iconst 1, 1) := by decide +kernel
theorem dX2_priceOf_16 : decode cX2_priceOf 16 = .ok (.if_icmp .ne 12, 3) := by decide +kernel
theorem dX2_priceOf_19 : decode cX2_priceOf 19 = .ok (.iload_n 2, 1) := by decide +kernel
theorem dX2_priceOf_20 : decode cX2_priceOf 20 = .ok (.aload_n 0, 1) := by decide +kernel
theorem dX2_priceOf_21 : decode cX2_priceOf 21 = .ok (.getfield 23, 3) := by decide +kernel
theorem dX2_priceOf_24 : decode cX2_priceOf 24 = .ok (.iload_n 3, 1) := by decide +kernel
theorem dX2_priceOf_25 : decode cX2_priceOf 25 = .ok (.iaload, 1) := by decide +kernel
theorem dX2_priceOf_26 : decode cX2_priceOf 26 = .ok (.iadd, 1) := by decide +kernel
theorem dX2_priceOf_27 : decode cX2_priceOf 27 = .ok (.istore_n 2, 1) := by decide +kernel
theorem dX2_priceOf_28 : decode cX2_priceOf 28 = .ok (.iinc 3 1, 3) := by decide +kernel
theorem dX2_priceOf_31 : decode cX2_priceOf 31 = .ok (.goto (-27), 3) := by decide +kernel
theorem dX2_priceOf_34 : decode cX2_priceOf 34 = .ok (.iload_n 2, 1) := by decide +kernel
theorem dX2_priceOf_35 : decode cX2_priceOf 35 = .ok (.ireturn, 1) := by decide +kernel
theorem dX2_lotsOf_0 : decode cX2_lotsOf 0 = .ok (.iconst 0, 1) := by decide +kernel
theorem dX2_lotsOf_1 : decode cX2_lotsOf 1 = .ok (.istore_n 2, 1) := by decide +kernel
theorem dX2_lotsOf_2 : decode cX2_lotsOf 2 = .ok (.iconst 0, 1) := by decide +kernel
theorem dX2_lotsOf_3 : decode cX2_lotsOf 3 = .ok (.istore_n 3, 1) := by decide +kernel
theorem dX2_lotsOf_4 : decode cX2_lotsOf 4 = .ok (.iload_n 3, 1) := by decide +kernel
theorem dX2_lotsOf_5 : decode cX2_lotsOf 5 = .ok (.bipush 8, 2) := by decide +kernel
theorem dX2_lotsOf_7 : decode cX2_lotsOf 7 = .ok (.if_icmp .ge 25, 3) := by decide +kernel
theorem dX2_lotsOf_10 : decode cX2_lotsOf 10 = .ok (.aload_n 0, 1) := by decide +kernel
theorem dX2_lotsOf_11 : decode cX2_lotsOf 11 = .ok (.getfield 26, 3) := by decide +kernel
theorem dX2_lotsOf_14 : decode cX2_lotsOf 14 = .ok (.iload_n 3, 1) := by decide +kernel
theorem dX2_lotsOf_15 : decode cX2_lotsOf 15 = .ok (.iaload, 1) := by decide +kernel
theorem dX2_lotsOf_16 : decode cX2_lotsOf 16 = .ok (.iload_n 1, 1) := by decide +kernel
theorem dX2_lotsOf_17 : decode cX2_lotsOf 17 = .ok (.if_icmp .ne 9, 3) := by decide +kernel
theorem dX2_lotsOf_20 : decode cX2_lotsOf 20 = .ok (.iload_n 2, 1) := by decide +kernel
theorem dX2_lotsOf_21 : decode cX2_lotsOf 21 = .ok (.iconst 1, 1) := by decide +kernel
theorem dX2_lotsOf_22 : decode cX2_lotsOf 22 = .ok (.iload_n 3, 1) := by decide +kernel
theorem dX2_lotsOf_23 : decode cX2_lotsOf 23 = .ok (.ishl, 1) := by decide +kernel
theorem dX2_lotsOf_24 : decode cX2_lotsOf 24 = .ok (.ior, 1) := by decide +kernel
theorem dX2_lotsOf_25 : decode cX2_lotsOf 25 = .ok (.istore_n 2, 1) := by decide +kernel
theorem dX2_lotsOf_26 : decode cX2_lotsOf 26 = .ok (.iinc 3 1, 3) := by decide +kernel
theorem dX2_lotsOf_29 : decode cX2_lotsOf 29 = .ok (.goto (-25), 3) := by decide +kernel
theorem dX2_lotsOf_32 : decode cX2_lotsOf 32 = .ok (.iload_n 2, 1) := by decide +kernel
theorem dX2_lotsOf_33 : decode cX2_lotsOf 33 = .ok (.ireturn, 1) := by decide +kernel
theorem dX2_owesInAll_0 : decode cX2_owesInAll 0 = .ok (.iconst 0, 1) := by decide +kernel
theorem dX2_owesInAll_1 : decode cX2_owesInAll 1 = .ok (.istore_n 2, 1) := by decide +kernel
theorem dX2_owesInAll_2 : decode cX2_owesInAll 2 = .ok (.iconst 0, 1) := by decide +kernel
theorem dX2_owesInAll_3 : decode cX2_owesInAll 3 = .ok (.istore_n 3, 1) := by decide +kernel
theorem dX2_owesInAll_4 : decode cX2_owesInAll 4 = .ok (.iload_n 3, 1) := by decide +kernel
theorem dX2_owesInAll_5 : decode cX2_owesInAll 5 = .ok (.bipush 6, 2) := by decide +kernel
theorem dX2_owesInAll_7 : decode cX2_owesInAll 7 = .ok (.if_icmp .ge 20, 3) := by decide +kernel
theorem dX2_owesInAll_10 : decode cX2_owesInAll 10 = .ok (.iload_n 2, 1) := by decide +kernel
theorem dX2_owesInAll_11 : decode cX2_owesInAll 11 = .ok (.aload_n 0, 1) := by decide +kernel
theorem dX2_owesInAll_12 : decode cX2_owesInAll 12 = .ok (.getfield 20, 3) := by decide +kernel
theorem dX2_owesInAll_15 : decode cX2_owesInAll 15 = .ok (.iload_n 1, 1) := by decide +kernel
theorem dX2_owesInAll_16 : decode cX2_owesInAll 16 = .ok (.aaload, 1) := by decide +kernel
theorem dX2_owesInAll_17 : decode cX2_owesInAll 17 = .ok (.iload_n 3, 1) := by decide +kernel
theorem dX2_owesInAll_18 : decode cX2_owesInAll 18 = .ok (.iaload, 1) := by decide +kernel
theorem dX2_owesInAll_19 : decode cX2_owesInAll 19 = .ok (.iadd, 1) := by decide +kernel
theorem dX2_owesInAll_20 : decode cX2_owesInAll 20 = .ok (.istore_n 2, 1) := by decide +kernel
theorem dX2_owesInAll_21 : decode cX2_owesInAll 21 = .ok (.iinc 3 1, 3) := by decide +kernel
theorem dX2_owesInAll_24 : decode cX2_owesInAll 24 = .ok (.goto (-20), 3) := by decide +kernel
theorem dX2_owesInAll_27 : decode cX2_owesInAll 27 = .ok (.iload_n 2, 1) := by decide +kernel
theorem dX2_owesInAll_28 : decode cX2_owesInAll 28 = .ok (.ireturn, 1) := by decide +kernel
theorem dX2_ofOne_0 : decode cX2_ofOne 0 = .ok (.iload_n 2, 1) := by decide +kernel
theorem dX2_ofOne_1 : decode cX2_ofOne 1 = .ok (.tableswitch 47 0 2 #[27, 34, 41], 27) := by decide +kernel
theorem dX2_ofOne_28 : decode cX2_ofOne 28 = .ok (.aload_n 0, 1) := by decide +kernel
theorem dX2_ofOne_29 : decode cX2_ofOne 29 = .ok (.getfield 9, 3) := by decide +kernel
theorem dX2_ofOne_32 : decode cX2_ofOne 32 = .ok (.iload_n 1, 1) := by decide +kernel
theorem dX2_ofOne_33 : decode cX2_ofOne 33 = .ok (.iaload, 1) := by decide +kernel
theorem dX2_ofOne_34 : decode cX2_ofOne 34 = .ok (.ireturn, 1) := by decide +kernel
theorem dX2_ofOne_35 : decode cX2_ofOne 35 = .ok (.aload_n 0, 1) := by decide +kernel
theorem dX2_ofOne_36 : decode cX2_ofOne 36 = .ok (.getfield 15, 3) := by decide +kernel
theorem dX2_ofOne_39 : decode cX2_ofOne 39 = .ok (.iload_n 1, 1) := by decide +kernel
theorem dX2_ofOne_40 : decode cX2_ofOne 40 = .ok (.iaload, 1) := by decide +kernel
theorem dX2_ofOne_41 : decode cX2_ofOne 41 = .ok (.ireturn, 1) := by decide +kernel
theorem dX2_ofOne_42 : decode cX2_ofOne 42 = .ok (.aload_n 0, 1) := by decide +kernel
theorem dX2_ofOne_43 : decode cX2_ofOne 43 = .ok (.iload_n 1, 1) := by decide +kernel
theorem dX2_ofOne_44 : decode cX2_ofOne 44 = .ok (.invokevirtual 59, 3) := by decide +kernel
theorem dX2_ofOne_47 : decode cX2_ofOne 47 = .ok (.ireturn, 1) := by decide +kernel
theorem dX2_ofOne_48 : decode cX2_ofOne 48 = .ok (.aload_n 0, 1) := by decide +kernel
theorem dX2_ofOne_49 : decode cX2_ofOne 49 = .ok (.iload_n 1, 1) := by decide +kernel
theorem dX2_ofOne_50 : decode cX2_ofOne 50 = .ok (.invokevirtual 63, 3) := by decide +kernel
theorem dX2_ofOne_53 : decode cX2_ofOne 53 = .ok (.ireturn, 1) := by decide +kernel
theorem dX2_act_0 : decode cX2_act 0 = .ok (.iload_n 1, 1) := by decide +kernel
theorem dX2_act_1 : decode cX2_act 1 = .ok (.tableswitch 96 0 6 #[43, 52, 62, 62, 69, 79, 86], 43) := by decide +kernel
theorem dX2_act_44 : decode cX2_act 44 = .ok (.aload_n 0, 1) := by decide +kernel
theorem dX2_act_45 : decode cX2_act 45 = .ok (.bipush 100, 2) := by decide +kernel
theorem dX2_act_47 : decode cX2_act 47 = .ok (.iload_n 3, 1) := by decide +kernel
theorem dX2_act_48 : decode cX2_act 48 = .ok (.imul, 1) := by decide +kernel
theorem dX2_act_49 : decode cX2_act 49 = .ok (.invokevirtual 66, 3) := by decide +kernel
theorem dX2_act_52 : decode cX2_act 52 = .ok (.ireturn, 1) := by decide +kernel
theorem dX2_act_53 : decode cX2_act 53 = .ok (.aload_n 0, 1) := by decide +kernel
theorem dX2_act_54 : decode cX2_act 54 = .ok (.iload_n 2, 1) := by decide +kernel
theorem dX2_act_55 : decode cX2_act 55 = .ok (.bipush 100, 2) := by decide +kernel
theorem dX2_act_57 : decode cX2_act 57 = .ok (.iload_n 3, 1) := by decide +kernel
theorem dX2_act_58 : decode cX2_act 58 = .ok (.imul, 1) := by decide +kernel
theorem dX2_act_59 : decode cX2_act 59 = .ok (.invokevirtual 69, 3) := by decide +kernel
theorem dX2_act_62 : decode cX2_act 62 = .ok (.ireturn, 1) := by decide +kernel
theorem dX2_act_63 : decode cX2_act 63 = .ok (.aload_n 0, 1) := by decide +kernel
theorem dX2_act_64 : decode cX2_act 64 = .ok (.iload_n 2, 1) := by decide +kernel
theorem dX2_act_65 : decode cX2_act 65 = .ok (.iload_n 3, 1) := by decide +kernel
theorem dX2_act_66 : decode cX2_act 66 = .ok (.invokevirtual 72, 3) := by decide +kernel
theorem dX2_act_69 : decode cX2_act 69 = .ok (.ireturn, 1) := by decide +kernel
theorem dX2_act_70 : decode cX2_act 70 = .ok (.aload_n 0, 1) := by decide +kernel
theorem dX2_act_71 : decode cX2_act 71 = .ok (.iload_n 2, 1) := by decide +kernel
theorem dX2_act_72 : decode cX2_act 72 = .ok (.bipush 10, 2) := by decide +kernel
theorem dX2_act_74 : decode cX2_act 74 = .ok (.iload_n 3, 1) := by decide +kernel
theorem dX2_act_75 : decode cX2_act 75 = .ok (.imul, 1) := by decide +kernel
theorem dX2_act_76 : decode cX2_act 76 = .ok (.invokevirtual 75, 3) := by decide +kernel
theorem dX2_act_79 : decode cX2_act 79 = .ok (.ireturn, 1) := by decide +kernel
theorem dX2_act_80 : decode cX2_act 80 = .ok (.aload_n 0, 1) := by decide +kernel
theorem dX2_act_81 : decode cX2_act 81 = .ok (.iload_n 2, 1) := by decide +kernel
theorem dX2_act_82 : decode cX2_act 82 = .ok (.iload_n 3, 1) := by decide +kernel
theorem dX2_act_83 : decode cX2_act 83 = .ok (.invokevirtual 78, 3) := by decide +kernel
theorem dX2_act_86 : decode cX2_act 86 = .ok (.ireturn, 1) := by decide +kernel
theorem dX2_act_87 : decode cX2_act 87 = .ok (.aload_n 0, 1) := by decide +kernel
theorem dX2_act_88 : decode cX2_act 88 = .ok (.iload_n 2, 1) := by decide +kernel
theorem dX2_act_89 : decode cX2_act 89 = .ok (.bipush 100, 2) := by decide +kernel
theorem dX2_act_91 : decode cX2_act 91 = .ok (.iload_n 3, 1) := by decide +kernel
theorem dX2_act_92 : decode cX2_act 92 = .ok (.imul, 1) := by decide +kernel
theorem dX2_act_93 : decode cX2_act 93 = .ok (.invokevirtual 81, 3) := by decide +kernel
theorem dX2_act_96 : decode cX2_act 96 = .ok (.ireturn, 1) := by decide +kernel
theorem dX2_act_97 : decode cX2_act 97 = .ok (.aload_n 0, 1) := by decide +kernel
theorem dX2_act_98 : decode cX2_act 98 = .ok (.invokevirtual 84, 3) := by decide +kernel
theorem dX2_act_101 : decode cX2_act 101 = .ok (.ireturn, 1) := by decide +kernel
theorem dX2_printed_0 : decode cX2_printed 0 = .ok (.aload_n 0, 1) := by decide +kernel
theorem dX2_printed_1 : decode cX2_printed 1 = .ok (.getfield 35, 3) := by decide +kernel
theorem dX2_printed_4 : decode cX2_printed 4 = .ok (.iload_n 1, 1) := by decide +kernel
theorem dX2_printed_5 : decode cX2_printed 5 = .ok (.iadd, 1) := by decide +kernel
theorem dX2_printed_6 : decode cX2_printed 6 = .ok (.ldc 87, 2) := by decide +kernel
theorem dX2_printed_8 : decode cX2_printed 8 = .ok (.if_icmp .le 5, 3) := by decide +kernel
theorem dX2_printed_11 : decode cX2_printed 11 = .ok (.iconst 5, 1) := by decide +kernel
theorem dX2_printed_12 : decode cX2_printed 12 = .ok (.ireturn, 1) := by decide +kernel
theorem dX2_printed_13 : decode cX2_printed 13 = .ok (.aload_n 0, 1) := by decide +kernel
theorem dX2_printed_14 : decode cX2_printed 14 = .ok (.dup, 1) := by decide +kernel
theorem dX2_printed_15 : decode cX2_printed 15 = .ok (.getfield 35, 3) := by decide +kernel
theorem dX2_printed_18 : decode cX2_printed 18 = .ok (.iload_n 1, 1) := by decide +kernel
theorem dX2_printed_19 : decode cX2_printed 19 = .ok (.iadd, 1) := by decide +kernel
theorem dX2_printed_20 : decode cX2_printed 20 = .ok (.putfield 35, 3) := by decide +kernel
theorem dX2_printed_23 : decode cX2_printed 23 = .ok (.iconst 0, 1) := by decide +kernel
theorem dX2_printed_24 : decode cX2_printed 24 = .ok (.ireturn, 1) := by decide +kernel
theorem dX2_paidByState_0 : decode cX2_paidByState 0 = .ok (.aload_n 0, 1) := by decide +kernel
theorem dX2_paidByState_1 : decode cX2_paidByState 1 = .ok (.getfield 35, 3) := by decide +kernel
theorem dX2_paidByState_4 : decode cX2_paidByState 4 = .ok (.iload_n 2, 1) := by decide +kernel
theorem dX2_paidByState_5 : decode cX2_paidByState 5 = .ok (.if_icmp .ge 5, 3) := by decide +kernel
theorem dX2_paidByState_8 : decode cX2_paidByState 8 = .ok (.iconst 3, 1) := by decide +kernel
theorem dX2_paidByState_9 : decode cX2_paidByState 9 = .ok (.ireturn, 1) := by decide +kernel
theorem dX2_paidByState_10 : decode cX2_paidByState 10 = .ok (.aload_n 0, 1) := by decide +kernel
theorem dX2_paidByState_11 : decode cX2_paidByState 11 = .ok (.getfield 9, 3) := by decide +kernel
theorem dX2_paidByState_14 : decode cX2_paidByState 14 = .ok (.iload_n 1, 1) := by decide +kernel
theorem dX2_paidByState_15 : decode cX2_paidByState 15 = .ok (.iaload, 1) := by decide +kernel
theorem dX2_paidByState_16 : decode cX2_paidByState 16 = .ok (.iload_n 2, 1) := by decide +kernel
theorem dX2_paidByState_17 : decode cX2_paidByState 17 = .ok (.iadd, 1) := by decide +kernel
theorem dX2_paidByState_18 : decode cX2_paidByState 18 = .ok (.sipush 9999, 3) := by decide +kernel
theorem dX2_paidByState_21 : decode cX2_paidByState 21 = .ok (.if_icmp .le 5, 3) := by decide +kernel
theorem dX2_paidByState_24 : decode cX2_paidByState 24 = .ok (.iconst 5, 1) := by decide +kernel
theorem dX2_paidByState_25 : decode cX2_paidByState 25 = .ok (.ireturn, 1) := by decide +kernel
theorem dX2_paidByState_26 : decode cX2_paidByState 26 = .ok (.aload_n 0, 1) := by decide +kernel
theorem dX2_paidByState_27 : decode cX2_paidByState 27 = .ok (.dup, 1) := by decide +kernel
theorem dX2_paidByState_28 : decode cX2_paidByState 28 = .ok (.getfield 35, 3) := by decide +kernel
theorem dX2_paidByState_31 : decode cX2_paidByState 31 = .ok (.iload_n 2, 1) := by decide +kernel
theorem dX2_paidByState_32 : decode cX2_paidByState 32 = .ok (.isub, 1) := by decide +kernel
theorem dX2_paidByState_33 : decode cX2_paidByState 33 = .ok (.putfield 35, 3) := by decide +kernel
theorem dX2_paidByState_36 : decode cX2_paidByState 36 = .ok (.aload_n 0, 1) := by decide +kernel
theorem dX2_paidByState_37 : decode cX2_paidByState 37 = .ok (.getfield 9, 3) := by decide +kernel
theorem dX2_paidByState_40 : decode cX2_paidByState 40 = .ok (.iload_n 1, 1) := by decide +kernel
theorem dX2_paidByState_41 : decode cX2_paidByState 41 = .ok (.dup2, 1) := by decide +kernel
theorem dX2_paidByState_42 : decode cX2_paidByState 42 = .ok (.iaload, 1) := by decide +kernel
theorem dX2_paidByState_43 : decode cX2_paidByState 43 = .ok (.iload_n 2, 1) := by decide +kernel
theorem dX2_paidByState_44 : decode cX2_paidByState 44 = .ok (.iadd, 1) := by decide +kernel
theorem dX2_paidByState_45 : decode cX2_paidByState 45 = .ok (.iastore, 1) := by decide +kernel
theorem dX2_paidByState_46 : decode cX2_paidByState 46 = .ok (.iconst 0, 1) := by decide +kernel
theorem dX2_paidByState_47 : decode cX2_paidByState 47 = .ok (.ireturn, 1) := by decide +kernel
theorem dX2_bought_0 : decode cX2_bought 0 = .ok (.aload_n 0, 1) := by decide +kernel
theorem dX2_bought_1 : decode cX2_bought 1 = .ok (.getfield 26, 3) := by decide +kernel
theorem dX2_bought_4 : decode cX2_bought 4 = .ok (.iload_n 2, 1) := by decide +kernel
theorem dX2_bought_5 : decode cX2_bought 5 = .ok (.iaload, 1) := by decide +kernel
theorem dX2_bought_6 : decode cX2_bought 6 = .ok (.iconst (-1), 1) := by decide +kernel
theorem dX2_bought_7 : decode cX2_bought 7 = .ok (.if_icmp .eq 5, 3) := by decide +kernel
theorem dX2_bought_10 : decode cX2_bought 10 = .ok (.iconst 2, 1) := by decide +kernel
theorem dX2_bought_11 : decode cX2_bought 11 = .ok (.ireturn, 1) := by decide +kernel
theorem dX2_bought_12 : decode cX2_bought 12 = .ok (.aload_n 0, 1) := by decide +kernel
theorem dX2_bought_13 : decode cX2_bought 13 = .ok (.getfield 9, 3) := by decide +kernel
theorem dX2_bought_16 : decode cX2_bought 16 = .ok (.iload_n 1, 1) := by decide +kernel
theorem dX2_bought_17 : decode cX2_bought 17 = .ok (.iaload, 1) := by decide +kernel
theorem dX2_bought_18 : decode cX2_bought 18 = .ok (.aload_n 0, 1) := by decide +kernel
theorem dX2_bought_19 : decode cX2_bought 19 = .ok (.getfield 23, 3) := by decide +kernel
theorem dX2_bought_22 : decode cX2_bought 22 = .ok (.iload_n 2, 1) := by decide +kernel
theorem dX2_bought_23 : decode cX2_bought 23 = .ok (.iaload, 1) := by decide +kernel
theorem dX2_bought_24 : decode cX2_bought 24 = .ok (.if_icmp .ge 5, 3) := by decide +kernel
theorem dX2_bought_27 : decode cX2_bought 27 = .ok (.iconst 3, 1) := by decide +kernel
theorem dX2_bought_28 : decode cX2_bought 28 = .ok (.ireturn, 1) := by decide +kernel
theorem dX2_bought_29 : decode cX2_bought 29 = .ok (.aload_n 0, 1) := by decide +kernel
theorem dX2_bought_30 : decode cX2_bought 30 = .ok (.getfield 9, 3) := by decide +kernel
theorem dX2_bought_33 : decode cX2_bought 33 = .ok (.iload_n 1, 1) := by decide +kernel
theorem dX2_bought_34 : decode cX2_bought 34 = .ok (.dup2, 1) := by decide +kernel
theorem dX2_bought_35 : decode cX2_bought 35 = .ok (.iaload, 1) := by decide +kernel
theorem dX2_bought_36 : decode cX2_bought 36 = .ok (.aload_n 0, 1) := by decide +kernel
theorem dX2_bought_37 : decode cX2_bought 37 = .ok (.getfield 23, 3) := by decide +kernel
theorem dX2_bought_40 : decode cX2_bought 40 = .ok (.iload_n 2, 1) := by decide +kernel
theorem dX2_bought_41 : decode cX2_bought 41 = .ok (.iaload, 1) := by decide +kernel
theorem dX2_bought_42 : decode cX2_bought 42 = .ok (.isub, 1) := by decide +kernel
theorem dX2_bought_43 : decode cX2_bought 43 = .ok (.iastore, 1) := by decide +kernel
theorem dX2_bought_44 : decode cX2_bought 44 = .ok (.aload_n 0, 1) := by decide +kernel
theorem dX2_bought_45 : decode cX2_bought 45 = .ok (.dup, 1) := by decide +kernel
theorem dX2_bought_46 : decode cX2_bought 46 = .ok (.getfield 42, 3) := by decide +kernel
theorem dX2_bought_49 : decode cX2_bought 49 = .ok (.aload_n 0, 1) := by decide +kernel
theorem dX2_bought_50 : decode cX2_bought 50 = .ok (.getfield 23, 3) := by decide +kernel
theorem dX2_bought_53 : decode cX2_bought 53 = .ok (.iload_n 2, 1) := by decide +kernel
theorem dX2_bought_54 : decode cX2_bought 54 = .ok (.iaload, 1) := by decide +kernel
theorem dX2_bought_55 : decode cX2_bought 55 = .ok (.iadd, 1) := by decide +kernel
theorem dX2_bought_56 : decode cX2_bought 56 = .ok (.putfield 42, 3) := by decide +kernel
theorem dX2_bought_59 : decode cX2_bought 59 = .ok (.aload_n 0, 1) := by decide +kernel
theorem dX2_bought_60 : decode cX2_bought 60 = .ok (.getfield 26, 3) := by decide +kernel
theorem dX2_bought_63 : decode cX2_bought 63 = .ok (.iload_n 2, 1) := by decide +kernel
theorem dX2_bought_64 : decode cX2_bought 64 = .ok (.iload_n 1, 1) := by decide +kernel
theorem dX2_bought_65 : decode cX2_bought 65 = .ok (.iastore, 1) := by decide +kernel
theorem dX2_bought_66 : decode cX2_bought 66 = .ok (.iconst 0, 1) := by decide +kernel
theorem dX2_bought_67 : decode cX2_bought 67 = .ok (.ireturn, 1) := by decide +kernel
theorem dX2_exchanged_0 : decode cX2_exchanged 0 = .ok (.aload_n 0, 1) := by decide +kernel
theorem dX2_exchanged_1 : decode cX2_exchanged 1 = .ok (.getfield 9, 3) := by decide +kernel
theorem dX2_exchanged_4 : decode cX2_exchanged 4 = .ok (.iload_n 1, 1) := by decide +kernel
theorem dX2_exchanged_5 : decode cX2_exchanged 5 = .ok (.iaload, 1) := by decide +kernel
theorem dX2_exchanged_6 : decode cX2_exchanged 6 = .ok (.iload_n 2, 1) := by decide +kernel
theorem dX2_exchanged_7 : decode cX2_exchanged 7 = .ok (.if_icmp .ge 5, 3) := by decide +kernel
theorem dX2_exchanged_10 : decode cX2_exchanged 10 = .ok (.iconst 3, 1) := by decide +kernel
theorem dX2_exchanged_11 : decode cX2_exchanged 11 = .ok (.ireturn, 1) := by decide +kernel
theorem dX2_exchanged_12 : decode cX2_exchanged 12 = .ok (.iload_n 2, 1) := by decide +kernel
theorem dX2_exchanged_13 : decode cX2_exchanged 13 = .ok (.aload_n 0, 1) := by decide +kernel
theorem dX2_exchanged_14 : decode cX2_exchanged 14 = .ok (.invokevirtual 88, 3) := by decide +kernel
theorem dX2_exchanged_17 : decode cX2_exchanged 17 = .ok (.imul, 1) := by decide +kernel
theorem dX2_exchanged_18 : decode cX2_exchanged 18 = .ok (.bipush 100, 2) := by decide +kernel
theorem dX2_exchanged_20 : decode cX2_exchanged 20 = .ok (.idiv, 1) := by decide +kernel
theorem dX2_exchanged_21 : decode cX2_exchanged 21 = .ok (.istore_n 3, 1) := by decide +kernel
theorem dX2_exchanged_22 : decode cX2_exchanged 22 = .ok (.aload_n 0, 1) := by decide +kernel
theorem dX2_exchanged_23 : decode cX2_exchanged 23 = .ok (.getfield 35, 3) := by decide +kernel
theorem dX2_exchanged_26 : decode cX2_exchanged 26 = .ok (.iload_n 2, 1) := by decide +kernel
theorem dX2_exchanged_27 : decode cX2_exchanged 27 = .ok (.iadd, 1) := by decide +kernel
theorem dX2_exchanged_28 : decode cX2_exchanged 28 = .ok (.ldc 87, 2) := by decide +kernel
theorem dX2_exchanged_30 : decode cX2_exchanged 30 = .ok (.if_icmp .gt 17, 3) := by decide +kernel
theorem dX2_exchanged_33 : decode cX2_exchanged 33 = .ok (.aload_n 0, 1) := by decide +kernel
theorem dX2_exchanged_34 : decode cX2_exchanged 34 = .ok (.getfield 15, 3) := by decide +kernel
theorem dX2_exchanged_37 : decode cX2_exchanged 37 = .ok (.iload_n 1, 1) := by decide +kernel
theorem dX2_exchanged_38 : decode cX2_exchanged 38 = .ok (.iaload, 1) := by decide +kernel
theorem dX2_exchanged_39 : decode cX2_exchanged 39 = .ok (.iload_n 3, 1) := by decide +kernel
theorem dX2_exchanged_40 : decode cX2_exchanged 40 = .ok (.iadd, 1) := by decide +kernel
theorem dX2_exchanged_41 : decode cX2_exchanged 41 = .ok (.sipush 9999, 3) := by decide +kernel
theorem dX2_exchanged_44 : decode cX2_exchanged 44 = .ok (.if_icmp .le 5, 3) := by decide +kernel
theorem dX2_exchanged_47 : decode cX2_exchanged 47 = .ok (.iconst 5, 1) := by decide +kernel
theorem dX2_exchanged_48 : decode cX2_exchanged 48 = .ok (.ireturn, 1) := by decide +kernel
theorem dX2_exchanged_49 : decode cX2_exchanged 49 = .ok (.aload_n 0, 1) := by decide +kernel
theorem dX2_exchanged_50 : decode cX2_exchanged 50 = .ok (.getfield 9, 3) := by decide +kernel
theorem dX2_exchanged_53 : decode cX2_exchanged 53 = .ok (.iload_n 1, 1) := by decide +kernel
theorem dX2_exchanged_54 : decode cX2_exchanged 54 = .ok (.dup2, 1) := by decide +kernel
theorem dX2_exchanged_55 : decode cX2_exchanged 55 = .ok (.iaload, 1) := by decide +kernel
theorem dX2_exchanged_56 : decode cX2_exchanged 56 = .ok (.iload_n 2, 1) := by decide +kernel
theorem dX2_exchanged_57 : decode cX2_exchanged 57 = .ok (.isub, 1) := by decide +kernel
theorem dX2_exchanged_58 : decode cX2_exchanged 58 = .ok (.iastore, 1) := by decide +kernel
theorem dX2_exchanged_59 : decode cX2_exchanged 59 = .ok (.aload_n 0, 1) := by decide +kernel
theorem dX2_exchanged_60 : decode cX2_exchanged 60 = .ok (.dup, 1) := by decide +kernel
theorem dX2_exchanged_61 : decode cX2_exchanged 61 = .ok (.getfield 35, 3) := by decide +kernel
theorem dX2_exchanged_64 : decode cX2_exchanged 64 = .ok (.iload_n 2, 1) := by decide +kernel
theorem dX2_exchanged_65 : decode cX2_exchanged 65 = .ok (.iadd, 1) := by decide +kernel
theorem dX2_exchanged_66 : decode cX2_exchanged 66 = .ok (.putfield 35, 3) := by decide +kernel
theorem dX2_exchanged_69 : decode cX2_exchanged 69 = .ok (.aload_n 0, 1) := by decide +kernel
theorem dX2_exchanged_70 : decode cX2_exchanged 70 = .ok (.getfield 15, 3) := by decide +kernel
theorem dX2_exchanged_73 : decode cX2_exchanged 73 = .ok (.iload_n 1, 1) := by decide +kernel
theorem dX2_exchanged_74 : decode cX2_exchanged 74 = .ok (.dup2, 1) := by decide +kernel
theorem dX2_exchanged_75 : decode cX2_exchanged 75 = .ok (.iaload, 1) := by decide +kernel
theorem dX2_exchanged_76 : decode cX2_exchanged 76 = .ok (.iload_n 3, 1) := by decide +kernel
theorem dX2_exchanged_77 : decode cX2_exchanged 77 = .ok (.iadd, 1) := by decide +kernel
theorem dX2_exchanged_78 : decode cX2_exchanged 78 = .ok (.iastore, 1) := by decide +kernel
theorem dX2_exchanged_79 : decode cX2_exchanged 79 = .ok (.iconst 0, 1) := by decide +kernel
theorem dX2_exchanged_80 : decode cX2_exchanged 80 = .ok (.ireturn, 1) := by decide +kernel
theorem dX2_settled_0 : decode cX2_settled 0 = .ok (.iload_n 1, 1) := by decide +kernel
theorem dX2_settled_1 : decode cX2_settled 1 = .ok (.iload_n 2, 1) := by decide +kernel
theorem dX2_settled_2 : decode cX2_settled 2 = .ok (.if_icmp .ne 5, 3) := by decide +kernel
theorem dX2_settled_5 : decode cX2_settled 5 = .ok (.iconst 1, 1) := by decide +kernel
theorem dX2_settled_6 : decode cX2_settled 6 = .ok (.ireturn, 1) := by decide +kernel
theorem dX2_settled_7 : decode cX2_settled 7 = .ok (.aload_n 0, 1) := by decide +kernel
theorem dX2_settled_8 : decode cX2_settled 8 = .ok (.getfield 20, 3) := by decide +kernel
theorem dX2_settled_11 : decode cX2_settled 11 = .ok (.iload_n 1, 1) := by decide +kernel
theorem dX2_settled_12 : decode cX2_settled 12 = .ok (.aaload, 1) := by decide +kernel
theorem dX2_settled_13 : decode cX2_settled 13 = .ok (.iload_n 2, 1) := by decide +kernel
theorem dX2_settled_14 : decode cX2_settled 14 = .ok (.iaload, 1) := by decide +kernel
theorem dX2_settled_15 : decode cX2_settled 15 = .ok (.aload_n 0, 1) := by decide +kernel
theorem dX2_settled_16 : decode cX2_settled 16 = .ok (.getfield 9, 3) := by decide +kernel
theorem dX2_settled_19 : decode cX2_settled 19 = .ok (.iload_n 1, 1) := by decide +kernel
theorem dX2_settled_20 : decode cX2_settled 20 = .ok (.iaload, 1) := by decide +kernel
theorem dX2_settled_21 : decode cX2_settled 21 = .ok (.invokestatic 91, 3) := by decide +kernel
theorem dX2_settled_24 : decode cX2_settled 24 = .ok (.istore_n 3, 1) := by decide +kernel
theorem dX2_settled_25 : decode cX2_settled 25 = .ok (.iload_n 3, 1) := by decide +kernel
theorem dX2_settled_26 : decode cX2_settled 26 = .ok (.ifCond .ne 5, 3) := by decide +kernel
theorem dX2_settled_29 : decode cX2_settled 29 = .ok (.iconst 4, 1) := by decide +kernel
theorem dX2_settled_30 : decode cX2_settled 30 = .ok (.ireturn, 1) := by decide +kernel
theorem dX2_settled_31 : decode cX2_settled 31 = .ok (.aload_n 0, 1) := by decide +kernel
theorem dX2_settled_32 : decode cX2_settled 32 = .ok (.getfield 9, 3) := by decide +kernel
theorem dX2_settled_35 : decode cX2_settled 35 = .ok (.iload_n 2, 1) := by decide +kernel
theorem dX2_settled_36 : decode cX2_settled 36 = .ok (.iaload, 1) := by decide +kernel
theorem dX2_settled_37 : decode cX2_settled 37 = .ok (.iload_n 3, 1) := by decide +kernel
theorem dX2_settled_38 : decode cX2_settled 38 = .ok (.iadd, 1) := by decide +kernel
theorem dX2_settled_39 : decode cX2_settled 39 = .ok (.sipush 9999, 3) := by decide +kernel
theorem dX2_settled_42 : decode cX2_settled 42 = .ok (.if_icmp .le 5, 3) := by decide +kernel
theorem dX2_settled_45 : decode cX2_settled 45 = .ok (.iconst 5, 1) := by decide +kernel
theorem dX2_settled_46 : decode cX2_settled 46 = .ok (.ireturn, 1) := by decide +kernel
theorem dX2_settled_47 : decode cX2_settled 47 = .ok (.aload_n 0, 1) := by decide +kernel
theorem dX2_settled_48 : decode cX2_settled 48 = .ok (.getfield 20, 3) := by decide +kernel
theorem dX2_settled_51 : decode cX2_settled 51 = .ok (.iload_n 1, 1) := by decide +kernel
theorem dX2_settled_52 : decode cX2_settled 52 = .ok (.aaload, 1) := by decide +kernel
theorem dX2_settled_53 : decode cX2_settled 53 = .ok (.iload_n 2, 1) := by decide +kernel
theorem dX2_settled_54 : decode cX2_settled 54 = .ok (.dup2, 1) := by decide +kernel
theorem dX2_settled_55 : decode cX2_settled 55 = .ok (.iaload, 1) := by decide +kernel
theorem dX2_settled_56 : decode cX2_settled 56 = .ok (.iload_n 3, 1) := by decide +kernel
theorem dX2_settled_57 : decode cX2_settled 57 = .ok (.isub, 1) := by decide +kernel
theorem dX2_settled_58 : decode cX2_settled 58 = .ok (.iastore, 1) := by decide +kernel
theorem dX2_settled_59 : decode cX2_settled 59 = .ok (.aload_n 0, 1) := by decide +kernel
theorem dX2_settled_60 : decode cX2_settled 60 = .ok (.getfield 9, 3) := by decide +kernel
theorem dX2_settled_63 : decode cX2_settled 63 = .ok (.iload_n 1, 1) := by decide +kernel
theorem dX2_settled_64 : decode cX2_settled 64 = .ok (.dup2, 1) := by decide +kernel
theorem dX2_settled_65 : decode cX2_settled 65 = .ok (.iaload, 1) := by decide +kernel
theorem dX2_settled_66 : decode cX2_settled 66 = .ok (.iload_n 3, 1) := by decide +kernel
theorem dX2_settled_67 : decode cX2_settled 67 = .ok (.isub, 1) := by decide +kernel
theorem dX2_settled_68 : decode cX2_settled 68 = .ok (.iastore, 1) := by decide +kernel
theorem dX2_settled_69 : decode cX2_settled 69 = .ok (.aload_n 0, 1) := by decide +kernel
theorem dX2_settled_70 : decode cX2_settled 70 = .ok (.getfield 9, 3) := by decide +kernel
theorem dX2_settled_73 : decode cX2_settled 73 = .ok (.iload_n 2, 1) := by decide +kernel
theorem dX2_settled_74 : decode cX2_settled 74 = .ok (.dup2, 1) := by decide +kernel
theorem dX2_settled_75 : decode cX2_settled 75 = .ok (.iaload, 1) := by decide +kernel
theorem dX2_settled_76 : decode cX2_settled 76 = .ok (.iload_n 3, 1) := by decide +kernel
theorem dX2_settled_77 : decode cX2_settled 77 = .ok (.iadd, 1) := by decide +kernel
theorem dX2_settled_78 : decode cX2_settled 78 = .ok (.iastore, 1) := by decide +kernel
theorem dX2_settled_79 : decode cX2_settled 79 = .ok (.iconst 0, 1) := by decide +kernel
theorem dX2_settled_80 : decode cX2_settled 80 = .ok (.ireturn, 1) := by decide +kernel
theorem dX2_forgedFor_0 : decode cX2_forgedFor 0 = .ok (.aload_n 0, 1) := by decide +kernel
theorem dX2_forgedFor_1 : decode cX2_forgedFor 1 = .ok (.getfield 9, 3) := by decide +kernel
theorem dX2_forgedFor_4 : decode cX2_forgedFor 4 = .ok (.iload_n 1, 1) := by decide +kernel
theorem dX2_forgedFor_5 : decode cX2_forgedFor 5 = .ok (.iaload, 1) := by decide +kernel
theorem dX2_forgedFor_6 : decode cX2_forgedFor 6 = .ok (.iload_n 2, 1) := by decide +kernel
theorem dX2_forgedFor_7 : decode cX2_forgedFor 7 = .ok (.iadd, 1) := by decide +kernel
theorem dX2_forgedFor_8 : decode cX2_forgedFor 8 = .ok (.sipush 9999, 3) := by decide +kernel
theorem dX2_forgedFor_11 : decode cX2_forgedFor 11 = .ok (.if_icmp .gt 14, 3) := by decide +kernel
theorem dX2_forgedFor_14 : decode cX2_forgedFor 14 = .ok (.aload_n 0, 1) := by decide +kernel
theorem dX2_forgedFor_15 : decode cX2_forgedFor 15 = .ok (.getfield 39, 3) := by decide +kernel
theorem dX2_forgedFor_18 : decode cX2_forgedFor 18 = .ok (.iload_n 2, 1) := by decide +kernel
theorem dX2_forgedFor_19 : decode cX2_forgedFor 19 = .ok (.iadd, 1) := by decide +kernel
theorem dX2_forgedFor_20 : decode cX2_forgedFor 20 = .ok (.ldc 87, 2) := by decide +kernel
theorem dX2_forgedFor_22 : decode cX2_forgedFor 22 = .ok (.if_icmp .le 5, 3) := by decide +kernel
theorem dX2_forgedFor_25 : decode cX2_forgedFor 25 = .ok (.iconst 5, 1) := by decide +kernel
theorem dX2_forgedFor_26 : decode cX2_forgedFor 26 = .ok (.ireturn, 1) := by decide +kernel
theorem dX2_forgedFor_27 : decode cX2_forgedFor 27 = .ok (.aload_n 0, 1) := by decide +kernel
theorem dX2_forgedFor_28 : decode cX2_forgedFor 28 = .ok (.getfield 9, 3) := by decide +kernel
theorem dX2_forgedFor_31 : decode cX2_forgedFor 31 = .ok (.iload_n 1, 1) := by decide +kernel
theorem dX2_forgedFor_32 : decode cX2_forgedFor 32 = .ok (.dup2, 1) := by decide +kernel
theorem dX2_forgedFor_33 : decode cX2_forgedFor 33 = .ok (.iaload, 1) := by decide +kernel
theorem dX2_forgedFor_34 : decode cX2_forgedFor 34 = .ok (.iload_n 2, 1) := by decide +kernel
theorem dX2_forgedFor_35 : decode cX2_forgedFor 35 = .ok (.iadd, 1) := by decide +kernel
theorem dX2_forgedFor_36 : decode cX2_forgedFor 36 = .ok (.iastore, 1) := by decide +kernel
theorem dX2_forgedFor_37 : decode cX2_forgedFor 37 = .ok (.aload_n 0, 1) := by decide +kernel
theorem dX2_forgedFor_38 : decode cX2_forgedFor 38 = .ok (.dup, 1) := by decide +kernel
theorem dX2_forgedFor_39 : decode cX2_forgedFor 39 = .ok (.getfield 39, 3) := by decide +kernel
theorem dX2_forgedFor_42 : decode cX2_forgedFor 42 = .ok (.iload_n 2, 1) := by decide +kernel
theorem dX2_forgedFor_43 : decode cX2_forgedFor 43 = .ok (.iadd, 1) := by decide +kernel
theorem dX2_forgedFor_44 : decode cX2_forgedFor 44 = .ok (.putfield 39, 3) := by decide +kernel
theorem dX2_forgedFor_47 : decode cX2_forgedFor 47 = .ok (.iconst 0, 1) := by decide +kernel
theorem dX2_forgedFor_48 : decode cX2_forgedFor 48 = .ok (.ireturn, 1) := by decide +kernel
theorem dX2_monthEnded_0 : decode cX2_monthEnded 0 = .ok (.aload_n 0, 1) := by decide +kernel
theorem dX2_monthEnded_1 : decode cX2_monthEnded 1 = .ok (.getfield 45, 3) := by decide +kernel
theorem dX2_monthEnded_4 : decode cX2_monthEnded 4 = .ok (.bipush 99, 2) := by decide +kernel
theorem dX2_monthEnded_6 : decode cX2_monthEnded 6 = .ok (.if_icmp .ne 6, 3) := by decide +kernel
theorem dX2_monthEnded_9 : decode cX2_monthEnded 9 = .ok (.bipush 6, 2) := by decide +kernel
theorem dX2_monthEnded_11 : decode cX2_monthEnded 11 = .ok (.ireturn, 1) := by decide +kernel
theorem dX2_monthEnded_12 : decode cX2_monthEnded 12 = .ok (.aload_n 0, 1) := by decide +kernel
theorem dX2_monthEnded_13 : decode cX2_monthEnded 13 = .ok (.dup, 1) := by decide +kernel
theorem dX2_monthEnded_14 : decode cX2_monthEnded 14 = .ok (.getfield 45, 3) := by decide +kernel
theorem dX2_monthEnded_17 : decode cX2_monthEnded 17 = .ok (.iconst 1, 1) := by decide +kernel
theorem dX2_monthEnded_18 : decode cX2_monthEnded 18 = .ok (.iadd, 1) := by decide +kernel
theorem dX2_monthEnded_19 : decode cX2_monthEnded 19 = .ok (.putfield 45, 3) := by decide +kernel
theorem dX2_monthEnded_22 : decode cX2_monthEnded 22 = .ok (.iconst 0, 1) := by decide +kernel
theorem dX2_monthEnded_23 : decode cX2_monthEnded 23 = .ok (.ireturn, 1) := by decide +kernel
theorem dX3_init_0 : decode cX3_init 0 = .ok (.aload_n 0, 1) := by decide +kernel
theorem dX3_init_1 : decode cX3_init 1 = .ok (.invokespecial 3, 3) := by decide +kernel
theorem dX3_init_4 : decode cX3_init 4 = .ok (.aload_n 0, 1) := by decide +kernel
theorem dX3_init_5 : decode cX3_init 5 = .ok (.bipush 6, 2) := by decide +kernel
theorem dX3_init_7 : decode cX3_init 7 = .ok (.newarray .int, 2) := by decide +kernel
theorem dX3_init_9 : decode cX3_init 9 = .ok (.putfield 9, 3) := by decide +kernel
theorem dX3_init_12 : decode cX3_init 12 = .ok (.aload_n 0, 1) := by decide +kernel
theorem dX3_init_13 : decode cX3_init 13 = .ok (.bipush 64, 2) := by decide +kernel
theorem dX3_init_15 : decode cX3_init 15 = .ok (.newarray .int, 2) := by decide +kernel
theorem dX3_init_17 : decode cX3_init 17 = .ok (.putfield 15, 3) := by decide +kernel
theorem dX3_init_20 : decode cX3_init 20 = .ok (.return_, 1) := by decide +kernel
theorem dX3_weigh_0 : decode cX3_weigh 0 = .ok (.iconst 0, 1) := by decide +kernel
theorem dX3_weigh_1 : decode cX3_weigh 1 = .ok (.istore_n 2, 1) := by decide +kernel
theorem dX3_weigh_2 : decode cX3_weigh 2 = .ok (.iload_n 2, 1) := by decide +kernel
theorem dX3_weigh_3 : decode cX3_weigh 3 = .ok (.bipush 6, 2) := by decide +kernel
theorem dX3_weigh_5 : decode cX3_weigh 5 = .ok (.if_icmp .ge 52, 3) := by decide +kernel
theorem dX3_weigh_8 : decode cX3_weigh 8 = .ok (.aload_n 0, 1) := by decide +kernel
theorem dX3_weigh_9 : decode cX3_weigh 9 = .ok (.getfield 9, 3) := by decide +kernel
theorem dX3_weigh_12 : decode cX3_weigh 12 = .ok (.iload_n 2, 1) := by decide +kernel
theorem dX3_weigh_13 : decode cX3_weigh 13 = .ok (.aload_n 1, 1) := by decide +kernel
theorem dX3_weigh_14 : decode cX3_weigh 14 = .ok (.iload_n 2, 1) := by decide +kernel
theorem dX3_weigh_15 : decode cX3_weigh 15 = .ok (.invokevirtual 18, 3) := by decide +kernel
theorem dX3_weigh_18 : decode cX3_weigh 18 = .ok (.ineg, 1) := by decide +kernel
theorem dX3_weigh_19 : decode cX3_weigh 19 = .ok (.iastore, 1) := by decide +kernel
theorem dX3_weigh_20 : decode cX3_weigh 20 = .ok (.iconst 0, 1) := by decide +kernel
theorem dX3_weigh_21 : decode cX3_weigh 21 = .ok (.istore_n 3, 1) := by decide +kernel
theorem dX3_weigh_22 : decode cX3_weigh 22 = .ok (.iload_n 3, 1) := by decide +kernel
theorem dX3_weigh_23 : decode cX3_weigh 23 = .ok (.bipush 6, 2) := by decide +kernel
theorem dX3_weigh_25 : decode cX3_weigh 25 = .ok (.if_icmp .ge 26, 3) := by decide +kernel
theorem dX3_weigh_28 : decode cX3_weigh 28 = .ok (.aload_n 0, 1) := by decide +kernel
theorem dX3_weigh_29 : decode cX3_weigh 29 = .ok (.getfield 9, 3) := by decide +kernel
theorem dX3_weigh_32 : decode cX3_weigh 32 = .ok (.iload_n 2, 1) := by decide +kernel
theorem dX3_weigh_33 : decode cX3_weigh 33 = .ok (.dup2, 1) := by decide +kernel
theorem dX3_weigh_34 : decode cX3_weigh 34 = .ok (.iaload, 1) := by decide +kernel
theorem dX3_weigh_35 : decode cX3_weigh 35 = .ok (.aload_n 1, 1) := by decide +kernel
theorem dX3_weigh_36 : decode cX3_weigh 36 = .ok (.getfield 24, 3) := by decide +kernel
theorem dX3_weigh_39 : decode cX3_weigh 39 = .ok (.iload_n 3, 1) := by decide +kernel
theorem dX3_weigh_40 : decode cX3_weigh 40 = .ok (.aaload, 1) := by decide +kernel
theorem dX3_weigh_41 : decode cX3_weigh 41 = .ok (.iload_n 2, 1) := by decide +kernel
theorem dX3_weigh_42 : decode cX3_weigh 42 = .ok (.iaload, 1) := by decide +kernel
theorem dX3_weigh_43 : decode cX3_weigh 43 = .ok (.iadd, 1) := by decide +kernel
theorem dX3_weigh_44 : decode cX3_weigh 44 = .ok (.iastore, 1) := by decide +kernel
theorem dX3_weigh_45 : decode cX3_weigh 45 = .ok (.iinc 3 1, 3) := by decide +kernel
theorem dX3_weigh_48 : decode cX3_weigh 48 = .ok (.goto (-26), 3) := by decide +kernel
theorem dX3_weigh_51 : decode cX3_weigh 51 = .ok (.iinc 2 1, 3) := by decide +kernel
theorem dX3_weigh_54 : decode cX3_weigh 54 = .ok (.goto (-52), 3) := by decide +kernel
theorem dX3_weigh_57 : decode cX3_weigh 57 = .ok (.return_, 1) := by decide +kernel
theorem dX3_leastPaid_0 : decode cX3_leastPaid 0 = .ok (.iconst 0, 1) := by decide +kernel
theorem dX3_leastPaid_1 : decode cX3_leastPaid 1 = .ok (.istore_n 1, 1) := by decide +kernel
theorem dX3_leastPaid_2 : decode cX3_leastPaid 2 = .ok (.iconst 0, 1) := by decide +kernel
theorem dX3_leastPaid_3 : decode cX3_leastPaid 3 = .ok (.istore_n 2, 1) := by decide +kernel
theorem dX3_leastPaid_4 : decode cX3_leastPaid 4 = .ok (.iload_n 2, 1) := by decide +kernel
theorem dX3_leastPaid_5 : decode cX3_leastPaid 5 = .ok (.bipush 6, 2) := by decide +kernel
theorem dX3_leastPaid_7 : decode cX3_leastPaid 7 = .ok (.if_icmp .ge 22, 3) := by decide +kernel
theorem dX3_leastPaid_10 : decode cX3_leastPaid 10 = .ok (.iload_n 1, 1) := by decide +kernel
theorem dX3_leastPaid_11 : decode cX3_leastPaid 11 = .ok (.iconst 0, 1) := by decide +kernel
theorem dX3_leastPaid_12 : decode cX3_leastPaid 12 = .ok (.aload_n 0, 1) := by decide +kernel
theorem dX3_leastPaid_13 : decode cX3_leastPaid 13 = .ok (.getfield 9, 3) := by decide +kernel
theorem dX3_leastPaid_16 : decode cX3_leastPaid 16 = .ok (.iload_n 2, 1) := by decide +kernel
theorem dX3_leastPaid_17 : decode cX3_leastPaid 17 = .ok (.iaload, 1) := by decide +kernel
theorem dX3_leastPaid_18 : decode cX3_leastPaid 18 = .ok (.invokestatic 28, 3) := by decide +kernel
theorem dX3_leastPaid_21 : decode cX3_leastPaid 21 = .ok (.iadd, 1) := by decide +kernel
theorem dX3_leastPaid_22 : decode cX3_leastPaid 22 = .ok (.istore_n 1, 1) := by decide +kernel
theorem dX3_leastPaid_23 : decode cX3_leastPaid 23 = .ok (.iinc 2 1, 3) := by decide +kernel
theorem dX3_leastPaid_26 : decode cX3_leastPaid 26 = .ok (.goto (-22), 3) := by decide +kernel
theorem dX3_leastPaid_29 : decode cX3_leastPaid 29 = .ok (.iload_n 1, 1) := by decide +kernel
theorem dX3_leastPaid_30 : decode cX3_leastPaid 30 = .ok (.ireturn, 1) := by decide +kernel
theorem dX3_fewestPayments_0 : decode cX3_fewestPayments 0 = .ok (.bipush 63, 2) := by decide +kernel
theorem dX3_fewestPayments_2 : decode cX3_fewestPayments 2 = .ok (.istore_n 1, 1) := by decide +kernel
theorem dX3_fewestPayments_3 : decode cX3_fewestPayments 3 = .ok (.aload_n 0, 1) := by decide +kernel
theorem dX3_fewestPayments_4 : decode cX3_fewestPayments 4 = .ok (.getfield 15, 3) := by decide +kernel
theorem dX3_fewestPayments_7 : decode cX3_fewestPayments 7 = .ok (.iconst 0, 1) := by decide +kernel
theorem dX3_fewestPayments_8 : decode cX3_fewestPayments 8 = .ok (.iconst 0, 1) := by decide +kernel
theorem dX3_fewestPayments_9 : decode cX3_fewestPayments 9 = .ok (.iastore, 1) := by decide +kernel
theorem dX3_fewestPayments_10 : decode cX3_fewestPayments 10 = .ok (.iconst 1, 1) := by decide +kernel
theorem dX3_fewestPayments_11 : decode cX3_fewestPayments 11 = .ok (.istore_n 2, 1) := by decide +kernel
theorem dX3_fewestPayments_12 : decode cX3_fewestPayments 12 = .ok (.iload_n 2, 1) := by decide +kernel
theorem dX3_fewestPayments_13 : decode cX3_fewestPayments 13 = .ok (.iload_n 1, 1) := by decide +kernel
theorem dX3_fewestPayments_14 : decode cX3_fewestPayments 14 = .ok (.if_icmp .gt 76, 3) := by decide +kernel
theorem dX3_fewestPayments_17 : decode cX3_fewestPayments 17 = .ok (.iconst 0, 1) := by decide +kernel
theorem dX3_fewestPayments_18 : decode cX3_fewestPayments 18 = .ok (.istore_n 3, 1) := by decide +kernel
theorem dX3_fewestPayments_19 : decode cX3_fewestPayments 19 = .ok (.iconst 0, 1) := by decide +kernel
theorem dX3_fewestPayments_20 : decode cX3_fewestPayments 20 = .ok (.istore 4, 2) := by decide +kernel
theorem dX3_fewestPayments_22 : decode cX3_fewestPayments 22 = .ok (.iload 4, 2) := by decide +kernel
theorem dX3_fewestPayments_24 : decode cX3_fewestPayments 24 = .ok (.bipush 6, 2) := by decide +kernel
theorem dX3_fewestPayments_26 : decode cX3_fewestPayments 26 = .ok (.if_icmp .ge 37, 3) := by decide +kernel
theorem dX3_fewestPayments_29 : decode cX3_fewestPayments 29 = .ok (.iload_n 2, 1) := by decide +kernel
theorem dX3_fewestPayments_30 : decode cX3_fewestPayments 30 = .ok (.iload 4, 2) := by decide +kernel
theorem dX3_fewestPayments_32 : decode cX3_fewestPayments 32 = .ok (.ishr, 1) := by decide +kernel
theorem dX3_fewestPayments_33 : decode cX3_fewestPayments 33 = .ok (.iconst 1, 1) := by decide +kernel
theorem dX3_fewestPayments_34 : decode cX3_fewestPayments 34 = .ok (.iand, 1) := by decide +kernel
theorem dX3_fewestPayments_35 : decode cX3_fewestPayments 35 = .ok (.iconst 1, 1) := by decide +kernel
theorem dX3_fewestPayments_36 : decode cX3_fewestPayments 36 = .ok (.if_icmp .ne 21, 3) := by decide +kernel
theorem dX3_fewestPayments_39 : decode cX3_fewestPayments 39 = .ok (.iload_n 3, 1) := by decide +kernel
theorem dX3_fewestPayments_40 : decode cX3_fewestPayments 40 = .ok (.aload_n 0, 1) := by decide +kernel
theorem dX3_fewestPayments_41 : decode cX3_fewestPayments 41 = .ok (.getfield 15, 3) := by decide +kernel
theorem dX3_fewestPayments_44 : decode cX3_fewestPayments 44 = .ok (.iload_n 2, 1) := by decide +kernel
theorem dX3_fewestPayments_45 : decode cX3_fewestPayments 45 = .ok (.iconst 1, 1) := by decide +kernel
theorem dX3_fewestPayments_46 : decode cX3_fewestPayments 46 = .ok (.iload 4, 2) := by decide +kernel
theorem dX3_fewestPayments_48 : decode cX3_fewestPayments 48 = .ok (.ishl, 1) := by decide +kernel
theorem dX3_fewestPayments_49 : decode cX3_fewestPayments 49 = .ok (.iconst (-1), 1) := by decide +kernel
theorem dX3_fewestPayments_50 : decode cX3_fewestPayments 50 = .ok (.ixor, 1) := by decide +kernel
theorem dX3_fewestPayments_51 : decode cX3_fewestPayments 51 = .ok (.iand, 1) := by decide +kernel
theorem dX3_fewestPayments_52 : decode cX3_fewestPayments 52 = .ok (.iaload, 1) := by decide +kernel
theorem dX3_fewestPayments_53 : decode cX3_fewestPayments 53 = .ok (.invokestatic 28, 3) := by decide +kernel
theorem dX3_fewestPayments_56 : decode cX3_fewestPayments 56 = .ok (.istore_n 3, 1) := by decide +kernel
theorem dX3_fewestPayments_57 : decode cX3_fewestPayments 57 = .ok (.iinc 4 1, 3) := by decide +kernel
theorem dX3_fewestPayments_60 : decode cX3_fewestPayments 60 = .ok (.goto (-38), 3) := by decide +kernel
theorem dX3_fewestPayments_63 : decode cX3_fewestPayments 63 = .ok (.aload_n 0, 1) := by decide +kernel
theorem dX3_fewestPayments_64 : decode cX3_fewestPayments 64 = .ok (.getfield 15, 3) := by decide +kernel
theorem dX3_fewestPayments_67 : decode cX3_fewestPayments 67 = .ok (.iload_n 2, 1) := by decide +kernel
theorem dX3_fewestPayments_68 : decode cX3_fewestPayments 68 = .ok (.aload_n 0, 1) := by decide +kernel
theorem dX3_fewestPayments_69 : decode cX3_fewestPayments 69 = .ok (.iload_n 2, 1) := by decide +kernel
theorem dX3_fewestPayments_70 : decode cX3_fewestPayments 70 = .ok (.invokevirtual 34, 3) := by decide +kernel
theorem dX3_fewestPayments_73 : decode cX3_fewestPayments 73 = .ok (.ifCond .ne 9, 3) := by decide +kernel
theorem dX3_fewestPayments_76 : decode cX3_fewestPayments 76 = .ok (.iload_n 3, 1) := by decide +kernel
theorem dX3_fewestPayments_77 : decode cX3_fewestPayments 77 = .ok (.iconst 1, 1) := by decide +kernel
theorem dX3_fewestPayments_78 : decode cX3_fewestPayments 78 = .ok (.iadd, 1) := by decide +kernel
theorem dX3_fewestPayments_79 : decode cX3_fewestPayments 79 = .ok (.goto 4, 3) := by decide +kernel
theorem dX3_fewestPayments_82 : decode cX3_fewestPayments 82 = .ok (.iload_n 3, 1) := by decide +kernel
theorem dX3_fewestPayments_83 : decode cX3_fewestPayments 83 = .ok (.iastore, 1) := by decide +kernel
theorem dX3_fewestPayments_84 : decode cX3_fewestPayments 84 = .ok (.iinc 2 1, 3) := by decide +kernel
theorem dX3_fewestPayments_87 : decode cX3_fewestPayments 87 = .ok (.goto (-75), 3) := by decide +kernel
theorem dX3_fewestPayments_90 : decode cX3_fewestPayments 90 = .ok (.bipush 6, 2) := by decide +kernel
theorem dX3_fewestPayments_92 : decode cX3_fewestPayments 92 = .ok (.aload_n 0, 1) := by decide +kernel
theorem dX3_fewestPayments_93 : decode cX3_fewestPayments 93 = .ok (.getfield 15, 3) := by decide +kernel
theorem dX3_fewestPayments_96 : decode cX3_fewestPayments 96 = .ok (.iload_n 1, 1) := by decide +kernel
theorem dX3_fewestPayments_97 : decode cX3_fewestPayments 97 = .ok (.iaload, 1) := by decide +kernel
theorem dX3_fewestPayments_98 : decode cX3_fewestPayments 98 = .ok (.isub, 1) := by decide +kernel
theorem dX3_fewestPayments_99 : decode cX3_fewestPayments 99 = .ok (.ireturn, 1) := by decide +kernel
theorem dX3_dueTo_0 : decode cX3_dueTo 0 = .ok (.iconst 0, 1) := by decide +kernel
theorem dX3_dueTo_1 : decode cX3_dueTo 1 = .ok (.istore_n 2, 1) := by decide +kernel
theorem dX3_dueTo_2 : decode cX3_dueTo 2 = .ok (.iconst 0, 1) := by decide +kernel
theorem dX3_dueTo_3 : decode cX3_dueTo 3 = .ok (.istore_n 3, 1) := by decide +kernel
theorem dX3_dueTo_4 : decode cX3_dueTo 4 = .ok (.iload_n 3, 1) := by decide +kernel
theorem dX3_dueTo_5 : decode cX3_dueTo 5 = .ok (.bipush 6, 2) := by decide +kernel
theorem dX3_dueTo_7 : decode cX3_dueTo 7 = .ok (.if_icmp .ge 27, 3) := by decide +kernel
theorem dX3_dueTo_10 : decode cX3_dueTo 10 = .ok (.iload_n 1, 1) := by decide +kernel
theorem dX3_dueTo_11 : decode cX3_dueTo 11 = .ok (.iload_n 3, 1) := by decide +kernel
theorem dX3_dueTo_12 : decode cX3_dueTo 12 = .ok (.ishr, 1) := by decide +kernel
theorem dX3_dueTo_13 : decode cX3_dueTo 13 = .ok (.iconst 1, 1) := by decide +kernel
theorem dX3_dueTo_14 : decode cX3_dueTo 14 = .ok (.iand, 1) := by decide +kernel
theorem dX3_dueTo_15 : decode cX3_dueTo 15 = .ok (.iconst 1, 1) := by decide +kernel
theorem dX3_dueTo_16 : decode cX3_dueTo 16 = .ok (.if_icmp .ne 12, 3) := by decide +kernel
theorem dX3_dueTo_19 : decode cX3_dueTo 19 = .ok (.iload_n 2, 1) := by decide +kernel
theorem dX3_dueTo_20 : decode cX3_dueTo 20 = .ok (.aload_n 0, 1) := by decide +kernel
theorem dX3_dueTo_21 : decode cX3_dueTo 21 = .ok (.getfield 9, 3) := by decide +kernel
theorem dX3_dueTo_24 : decode cX3_dueTo 24 = .ok (.iload_n 3, 1) := by decide +kernel
theorem dX3_dueTo_25 : decode cX3_dueTo 25 = .ok (.iaload, 1) := by decide +kernel
theorem dX3_dueTo_26 : decode cX3_dueTo 26 = .ok (.iadd, 1) := by decide +kernel
theorem dX3_dueTo_27 : decode cX3_dueTo 27 = .ok (.istore_n 2, 1) := by decide +kernel
theorem dX3_dueTo_28 : decode cX3_dueTo 28 = .ok (.iinc 3 1, 3) := by decide +kernel
theorem dX3_dueTo_31 : decode cX3_dueTo 31 = .ok (.goto (-27), 3) := by decide +kernel
theorem dX3_dueTo_34 : decode cX3_dueTo 34 = .ok (.iload_n 2, 1) := by decide +kernel
theorem dX3_dueTo_35 : decode cX3_dueTo 35 = .ok (.ireturn, 1) := by decide +kernel
theorem dX4_init_0 : decode cX4_init 0 = .ok (.aload_n 0, 1) := by decide +kernel
theorem dX4_init_1 : decode cX4_init 1 = .ok (.invokespecial 3, 3) := by decide +kernel
theorem dX4_init_4 : decode cX4_init 4 = .ok (.aload_n 0, 1) := by decide +kernel
theorem dX4_init_5 : decode cX4_init 5 = .ok (.bipush 8, 2) := by decide +kernel
theorem dX4_init_7 : decode cX4_init 7 = .ok (.newarray .int, 2) := by decide +kernel
theorem dX4_init_9 : decode cX4_init 9 = .ok (.putfield 9, 3) := by decide +kernel
theorem dX4_init_12 : decode cX4_init 12 = .ok (.aload_n 0, 1) := by decide +kernel
theorem dX4_init_13 : decode cX4_init 13 = .ok (.bipush 8, 2) := by decide +kernel
theorem dX4_init_15 : decode cX4_init 15 = .ok (.newarray .int, 2) := by decide +kernel
theorem dX4_init_17 : decode cX4_init 17 = .ok (.putfield 15, 3) := by decide +kernel
theorem dX4_init_20 : decode cX4_init 20 = .ok (.aload_n 0, 1) := by decide +kernel
theorem dX4_init_21 : decode cX4_init 21 = .ok (.bipush 8, 2) := by decide +kernel
theorem dX4_init_23 : decode cX4_init 23 = .ok (.newarray .int, 2) := by decide +kernel
theorem dX4_init_25 : decode cX4_init 25 = .ok (.putfield 18, 3) := by decide +kernel
theorem dX4_init_28 : decode cX4_init 28 = .ok (.aload_n 0, 1) := by decide +kernel
theorem dX4_init_29 : decode cX4_init 29 = .ok (.bipush 8, 2) := by decide +kernel
theorem dX4_init_31 : decode cX4_init 31 = .ok (.newarray .int, 2) := by decide +kernel
theorem dX4_init_33 : decode cX4_init 33 = .ok (.putfield 21, 3) := by decide +kernel
theorem dX4_init_36 : decode cX4_init 36 = .ok (.return_, 1) := by decide +kernel
theorem dX4_add_0 : decode cX4_add 0 = .ok (.aload_n 0, 1) := by decide +kernel
theorem dX4_add_1 : decode cX4_add 1 = .ok (.getfield 24, 3) := by decide +kernel
theorem dX4_add_4 : decode cX4_add 4 = .ok (.bipush 8, 2) := by decide +kernel
theorem dX4_add_6 : decode cX4_add 6 = .ok (.if_icmp .ge 43, 3) := by decide +kernel
theorem dX4_add_9 : decode cX4_add 9 = .ok (.aload_n 0, 1) := by decide +kernel
theorem dX4_add_10 : decode cX4_add 10 = .ok (.getfield 9, 3) := by decide +kernel
theorem dX4_add_13 : decode cX4_add 13 = .ok (.aload_n 0, 1) := by decide +kernel
theorem dX4_add_14 : decode cX4_add 14 = .ok (.getfield 24, 3) := by decide +kernel
theorem dX4_add_17 : decode cX4_add 17 = .ok (.iload_n 1, 1) := by decide +kernel
theorem dX4_add_18 : decode cX4_add 18 = .ok (.iastore, 1) := by decide +kernel
theorem dX4_add_19 : decode cX4_add 19 = .ok (.aload_n 0, 1) := by decide +kernel
theorem dX4_add_20 : decode cX4_add 20 = .ok (.getfield 15, 3) := by decide +kernel
theorem dX4_add_23 : decode cX4_add 23 = .ok (.aload_n 0, 1) := by decide +kernel
theorem dX4_add_24 : decode cX4_add 24 = .ok (.getfield 24, 3) := by decide +kernel
theorem dX4_add_27 : decode cX4_add 27 = .ok (.iload_n 2, 1) := by decide +kernel
theorem dX4_add_28 : decode cX4_add 28 = .ok (.iastore, 1) := by decide +kernel
theorem dX4_add_29 : decode cX4_add 29 = .ok (.aload_n 0, 1) := by decide +kernel
theorem dX4_add_30 : decode cX4_add 30 = .ok (.getfield 18, 3) := by decide +kernel
theorem dX4_add_33 : decode cX4_add 33 = .ok (.aload_n 0, 1) := by decide +kernel
theorem dX4_add_34 : decode cX4_add 34 = .ok (.getfield 24, 3) := by decide +kernel
theorem dX4_add_37 : decode cX4_add 37 = .ok (.iload_n 3, 1) := by decide +kernel
theorem dX4_add_38 : decode cX4_add 38 = .ok (.iastore, 1) := by decide +kernel
theorem dX4_add_39 : decode cX4_add 39 = .ok (.aload_n 0, 1) := by decide +kernel
theorem dX4_add_40 : decode cX4_add 40 = .ok (.dup, 1) := by decide +kernel
theorem dX4_add_41 : decode cX4_add 41 = .ok (.getfield 24, 3) := by decide +kernel
theorem dX4_add_44 : decode cX4_add 44 = .ok (.iconst 1, 1) := by decide +kernel
theorem dX4_add_45 : decode cX4_add 45 = .ok (.iadd, 1) := by decide +kernel
theorem dX4_add_46 : decode cX4_add 46 = .ok (.putfield 24, 3) := by decide +kernel
theorem dX4_add_49 : decode cX4_add 49 = .ok (.return_, 1) := by decide +kernel
theorem dX4_copyFrom_0 : decode cX4_copyFrom 0 = .ok (.aload_n 1, 1) := by decide +kernel
theorem dX4_copyFrom_1 : decode cX4_copyFrom 1 = .ok (.getfield 9, 3) := by decide +kernel
theorem dX4_copyFrom_4 : decode cX4_copyFrom 4 = .ok (.iconst 0, 1) := by decide +kernel
theorem dX4_copyFrom_5 : decode cX4_copyFrom 5 = .ok (.aload_n 0, 1) := by decide +kernel
theorem dX4_copyFrom_6 : decode cX4_copyFrom 6 = .ok (.getfield 9, 3) := by decide +kernel
theorem dX4_copyFrom_9 : decode cX4_copyFrom 9 = .ok (.iconst 0, 1) := by decide +kernel
theorem dX4_copyFrom_10 : decode cX4_copyFrom 10 = .ok (.bipush 8, 2) := by decide +kernel
theorem dX4_copyFrom_12 : decode cX4_copyFrom 12 = .ok (.invokestatic 28, 3) := by decide +kernel
theorem dX4_copyFrom_15 : decode cX4_copyFrom 15 = .ok (.aload_n 1, 1) := by decide +kernel
theorem dX4_copyFrom_16 : decode cX4_copyFrom 16 = .ok (.getfield 15, 3) := by decide +kernel
theorem dX4_copyFrom_19 : decode cX4_copyFrom 19 = .ok (.iconst 0, 1) := by decide +kernel
theorem dX4_copyFrom_20 : decode cX4_copyFrom 20 = .ok (.aload_n 0, 1) := by decide +kernel
theorem dX4_copyFrom_21 : decode cX4_copyFrom 21 = .ok (.getfield 15, 3) := by decide +kernel
theorem dX4_copyFrom_24 : decode cX4_copyFrom 24 = .ok (.iconst 0, 1) := by decide +kernel
theorem dX4_copyFrom_25 : decode cX4_copyFrom 25 = .ok (.bipush 8, 2) := by decide +kernel
theorem dX4_copyFrom_27 : decode cX4_copyFrom 27 = .ok (.invokestatic 28, 3) := by decide +kernel
theorem dX4_copyFrom_30 : decode cX4_copyFrom 30 = .ok (.aload_n 1, 1) := by decide +kernel
theorem dX4_copyFrom_31 : decode cX4_copyFrom 31 = .ok (.getfield 18, 3) := by decide +kernel
theorem dX4_copyFrom_34 : decode cX4_copyFrom 34 = .ok (.iconst 0, 1) := by decide +kernel
theorem dX4_copyFrom_35 : decode cX4_copyFrom 35 = .ok (.aload_n 0, 1) := by decide +kernel
theorem dX4_copyFrom_36 : decode cX4_copyFrom 36 = .ok (.getfield 18, 3) := by decide +kernel
theorem dX4_copyFrom_39 : decode cX4_copyFrom 39 = .ok (.iconst 0, 1) := by decide +kernel
theorem dX4_copyFrom_40 : decode cX4_copyFrom 40 = .ok (.bipush 8, 2) := by decide +kernel
theorem dX4_copyFrom_42 : decode cX4_copyFrom 42 = .ok (.invokestatic 28, 3) := by decide +kernel
theorem dX4_copyFrom_45 : decode cX4_copyFrom 45 = .ok (.aload_n 0, 1) := by decide +kernel
theorem dX4_copyFrom_46 : decode cX4_copyFrom 46 = .ok (.aload_n 1, 1) := by decide +kernel
theorem dX4_copyFrom_47 : decode cX4_copyFrom 47 = .ok (.getfield 24, 3) := by decide +kernel
theorem dX4_copyFrom_50 : decode cX4_copyFrom 50 = .ok (.putfield 24, 3) := by decide +kernel
theorem dX4_copyFrom_53 : decode cX4_copyFrom 53 = .ok (.return_, 1) := by decide +kernel
theorem dX4_fit_0 : decode cX4_fit 0 = .ok (.iload_n 1, 1) := by decide +kernel
theorem dX4_fit_1 : decode cX4_fit 1 = .ok (.invokestatic 34, 3) := by decide +kernel
theorem dX4_fit_4 : decode cX4_fit 4 = .ok (.iload_n 2, 1) := by decide +kernel
theorem dX4_fit_5 : decode cX4_fit 5 = .ok (.if_icmp .le 5, 3) := by decide +kernel
theorem dX4_fit_8 : decode cX4_fit 8 = .ok (.iconst 0, 1) := by decide +kernel
theorem dX4_fit_9 : decode cX4_fit 9 = .ok (.ireturn, 1) := by decide +kernel
theorem dX4_fit_10 : decode cX4_fit 10 = .ok (.iconst 0, 1) := by decide +kernel
theorem dX4_fit_11 : decode cX4_fit 11 = .ok (.istore_n 3, 1) := by decide +kernel
theorem dX4_fit_12 : decode cX4_fit 12 = .ok (.iload_n 3, 1) := by decide +kernel
theorem dX4_fit_13 : decode cX4_fit 13 = .ok (.aload_n 0, 1) := by decide +kernel
theorem dX4_fit_14 : decode cX4_fit 14 = .ok (.getfield 24, 3) := by decide +kernel
theorem dX4_fit_17 : decode cX4_fit 17 = .ok (.if_icmp .ge 57, 3) := by decide +kernel
theorem dX4_fit_20 : decode cX4_fit 20 = .ok (.aload_n 0, 1) := by decide +kernel
theorem dX4_fit_21 : decode cX4_fit 21 = .ok (.getfield 9, 3) := by decide +kernel
theorem dX4_fit_24 : decode cX4_fit 24 = .ok (.iload_n 3, 1) := by decide +kernel
theorem dX4_fit_25 : decode cX4_fit 25 = .ok (.iaload, 1) := by decide +kernel
theorem dX4_fit_26 : decode cX4_fit 26 = .ok (.iload_n 1, 1) := by decide +kernel
theorem dX4_fit_27 : decode cX4_fit 27 = .ok (.iconst (-1), 1) := by decide +kernel
theorem dX4_fit_28 : decode cX4_fit 28 = .ok (.ixor, 1) := by decide +kernel
theorem dX4_fit_29 : decode cX4_fit 29 = .ok (.iand, 1) := by decide +kernel
theorem dX4_fit_30 : decode cX4_fit 30 = .ok (.invokestatic 34, 3) := by decide +kernel
theorem dX4_fit_33 : decode cX4_fit 33 = .ok (.istore 4, 2) := by decide +kernel
theorem dX4_fit_35 : decode cX4_fit 35 = .ok (.iload 4, 2) := by decide +kernel
theorem dX4_fit_37 : decode cX4_fit 37 = .ok (.aload_n 0, 1) := by decide +kernel
theorem dX4_fit_38 : decode cX4_fit 38 = .ok (.getfield 15, 3) := by decide +kernel
theorem dX4_fit_41 : decode cX4_fit 41 = .ok (.iload_n 3, 1) := by decide +kernel
theorem dX4_fit_42 : decode cX4_fit 42 = .ok (.iaload, 1) := by decide +kernel
theorem dX4_fit_43 : decode cX4_fit 43 = .ok (.if_icmp .lt 23, 3) := by decide +kernel
theorem dX4_fit_46 : decode cX4_fit 46 = .ok (.aload_n 0, 1) := by decide +kernel
theorem dX4_fit_47 : decode cX4_fit 47 = .ok (.getfield 18, 3) := by decide +kernel
theorem dX4_fit_50 : decode cX4_fit 50 = .ok (.iload_n 3, 1) := by decide +kernel
theorem dX4_fit_51 : decode cX4_fit 51 = .ok (.iaload, 1) := by decide +kernel
theorem dX4_fit_52 : decode cX4_fit 52 = .ok (.ifCond .ne 16, 3) := by decide +kernel
theorem dX4_fit_55 : decode cX4_fit 55 = .ok (.iload 4, 2) := by decide +kernel
theorem dX4_fit_57 : decode cX4_fit 57 = .ok (.aload_n 0, 1) := by decide +kernel
theorem dX4_fit_58 : decode cX4_fit 58 = .ok (.getfield 15, 3) := by decide +kernel
theorem dX4_fit_61 : decode cX4_fit 61 = .ok (.iload_n 3, 1) := by decide +kernel
theorem dX4_fit_62 : decode cX4_fit 62 = .ok (.iaload, 1) := by decide +kernel
theorem dX4_fit_63 : decode cX4_fit 63 = .ok (.if_icmp .le 5, 3) := by decide +kernel
theorem dX4_fit_66 : decode cX4_fit 66 = .ok (.iconst 0, 1) := by decide +kernel
theorem dX4_fit_67 : decode cX4_fit 67 = .ok (.ireturn, 1) := by decide +kernel
theorem dX4_fit_68 : decode cX4_fit 68 = .ok (.iinc 3 1, 3) := by decide +kernel
theorem dX4_fit_71 : decode cX4_fit 71 = .ok (.goto (-59), 3) := by decide +kernel
theorem dX4_fit_74 : decode cX4_fit 74 = .ok (.iconst 1, 1) := by decide +kernel
theorem dX4_fit_75 : decode cX4_fit 75 = .ok (.ireturn, 1) := by decide +kernel
theorem dX4_tally_0 : decode cX4_tally 0 = .ok (.iconst 0, 1) := by decide +kernel
theorem dX4_tally_1 : decode cX4_tally 1 = .ok (.istore_n 2, 1) := by decide +kernel
theorem dX4_tally_2 : decode cX4_tally 2 = .ok (.iload_n 2, 1) := by decide +kernel
theorem dX4_tally_3 : decode cX4_tally 3 = .ok (.bipush 8, 2) := by decide +kernel
theorem dX4_tally_5 : decode cX4_tally 5 = .ok (.if_icmp .ge 16, 3) := by decide +kernel
theorem dX4_tally_8 : decode cX4_tally 8 = .ok (.aload_n 0, 1) := by decide +kernel
theorem dX4_tally_9 : decode cX4_tally 9 = .ok (.getfield 21, 3) := by decide +kernel
theorem dX4_tally_12 : decode cX4_tally 12 = .ok (.iload_n 2, 1) := by decide +kernel
theorem dX4_tally_13 : decode cX4_tally 13 = .ok (.iconst 0, 1) := by decide +kernel
theorem dX4_tally_14 : decode cX4_tally 14 = .ok (.iastore, 1) := by decide +kernel
theorem dX4_tally_15 : decode cX4_tally 15 = .ok (.iinc 2 1, 3) := by decide +kernel
theorem dX4_tally_18 : decode cX4_tally 18 = .ok (.goto (-16), 3) := by decide +kernel
theorem dX4_tally_21 : decode cX4_tally 21 = .ok (.iconst 0, 1) := by decide +kernel
theorem dX4_tally_22 : decode cX4_tally 22 = .ok (.istore_n 2, 1) := by decide +kernel
theorem dX4_tally_23 : decode cX4_tally 23 = .ok (.iconst 0, 1) := by decide +kernel
theorem dX4_tally_24 : decode cX4_tally 24 = .ok (.istore_n 3, 1) := by decide +kernel
theorem dX4_tally_25 : decode cX4_tally 25 = .ok (.iload_n 3, 1) := by decide +kernel
theorem dX4_tally_26 : decode cX4_tally 26 = .ok (.sipush 256, 3) := by decide +kernel
theorem dX4_tally_29 : decode cX4_tally 29 = .ok (.if_icmp .ge 53, 3) := by decide +kernel
theorem dX4_tally_32 : decode cX4_tally 32 = .ok (.aload_n 0, 1) := by decide +kernel
theorem dX4_tally_33 : decode cX4_tally 33 = .ok (.iload_n 3, 1) := by decide +kernel
theorem dX4_tally_34 : decode cX4_tally 34 = .ok (.iload_n 1, 1) := by decide +kernel
theorem dX4_tally_35 : decode cX4_tally 35 = .ok (.invokevirtual 40, 3) := by decide +kernel
theorem dX4_tally_38 : decode cX4_tally 38 = .ok (.ifCond .eq 38, 3) := by decide +kernel
theorem dX4_tally_41 : decode cX4_tally 41 = .ok (.iinc 2 1, 3) := by decide +kernel
theorem dX4_tally_44 : decode cX4_tally 44 = .ok (.iconst 0, 1) := by decide +kernel
theorem dX4_tally_45 : decode cX4_tally 45 = .ok (.istore 4, 2) := by decide +kernel
theorem dX4_tally_47 : decode cX4_tally 47 = .ok (.iload 4, 2) := by decide +kernel
theorem dX4_tally_49 : decode cX4_tally 49 = .ok (.bipush 8, 2) := by decide +kernel
theorem dX4_tally_51 : decode cX4_tally 51 = .ok (.if_icmp .ge 25, 3) := by decide +kernel
theorem dX4_tally_54 : decode cX4_tally 54 = .ok (.aload_n 0, 1) := by decide +kernel
theorem dX4_tally_55 : decode cX4_tally 55 = .ok (.getfield 21, 3) := by decide +kernel
theorem dX4_tally_58 : decode cX4_tally 58 = .ok (.iload 4, 2) := by decide +kernel
theorem dX4_tally_60 : decode cX4_tally 60 = .ok (.dup2, 1) := by decide +kernel
theorem dX4_tally_61 : decode cX4_tally 61 = .ok (.iaload, 1) := by decide +kernel
theorem dX4_tally_62 : decode cX4_tally 62 = .ok (.iload_n 3, 1) := by decide +kernel
theorem dX4_tally_63 : decode cX4_tally 63 = .ok (.iload 4, 2) := by decide +kernel
theorem dX4_tally_65 : decode cX4_tally 65 = .ok (.ishr, 1) := by decide +kernel
theorem dX4_tally_66 : decode cX4_tally 66 = .ok (.iconst 1, 1) := by decide +kernel
theorem dX4_tally_67 : decode cX4_tally 67 = .ok (.iand, 1) := by decide +kernel
theorem dX4_tally_68 : decode cX4_tally 68 = .ok (.iadd, 1) := by decide +kernel
theorem dX4_tally_69 : decode cX4_tally 69 = .ok (.iastore, 1) := by decide +kernel
theorem dX4_tally_70 : decode cX4_tally 70 = .ok (.iinc 4 1, 3) := by decide +kernel
theorem dX4_tally_73 : decode cX4_tally 73 = .ok (.goto (-26), 3) := by decide +kernel
theorem dX4_tally_76 : decode cX4_tally 76 = .ok (.iinc 3 1, 3) := by decide +kernel
theorem dX4_tally_79 : decode cX4_tally 79 = .ok (.goto (-54), 3) := by decide +kernel
theorem dX4_tally_82 : decode cX4_tally 82 = .ok (.iload_n 2, 1) := by decide +kernel
theorem dX4_tally_83 : decode cX4_tally 83 = .ok (.ireturn, 1) := by decide +kernel
theorem dX4_mostLeft_0 : decode cX4_mostLeft 0 = .ok (.aload_n 0, 1) := by decide +kernel
theorem dX4_mostLeft_1 : decode cX4_mostLeft 1 = .ok (.getfield 21, 3) := by decide +kernel
theorem dX4_mostLeft_4 : decode cX4_mostLeft 4 = .ok (.iload_n 1, 1) := by decide +kernel
theorem dX4_mostLeft_5 : decode cX4_mostLeft 5 = .ok (.iaload, 1) := by decide +kernel
theorem dX4_mostLeft_6 : decode cX4_mostLeft 6 = .ok (.iload_n 2, 1) := by decide +kernel
theorem dX4_mostLeft_7 : decode cX4_mostLeft 7 = .ok (.aload_n 0, 1) := by decide +kernel
theorem dX4_mostLeft_8 : decode cX4_mostLeft 8 = .ok (.getfield 21, 3) := by decide +kernel
theorem dX4_mostLeft_11 : decode cX4_mostLeft 11 = .ok (.iload_n 1, 1) := by decide +kernel
theorem dX4_mostLeft_12 : decode cX4_mostLeft 12 = .ok (.iaload, 1) := by decide +kernel
theorem dX4_mostLeft_13 : decode cX4_mostLeft 13 = .ok (.isub, 1) := by decide +kernel
theorem dX4_mostLeft_14 : decode cX4_mostLeft 14 = .ok (.invokestatic 44, 3) := by decide +kernel
theorem dX4_mostLeft_17 : decode cX4_mostLeft 17 = .ok (.ireturn, 1) := by decide +kernel
theorem dX5_init_0 : decode cX5_init 0 = .ok (.aload_n 0, 1) := by decide +kernel
theorem dX5_init_1 : decode cX5_init 1 = .ok (.invokespecial 3, 3) := by decide +kernel
theorem dX5_init_4 : decode cX5_init 4 = .ok (.aload_n 0, 1) := by decide +kernel
theorem dX5_init_5 : decode cX5_init 5 = .ok (.new 9, 3) := by decide +kernel
theorem dX5_init_8 : decode cX5_init 8 = .ok (.dup, 1) := by decide +kernel
theorem dX5_init_9 : decode cX5_init 9 = .ok (.invokespecial 11, 3) := by decide +kernel
theorem dX5_init_12 : decode cX5_init 12 = .ok (.putfield 12, 3) := by decide +kernel
theorem dX5_init_15 : decode cX5_init 15 = .ok (.return_, 1) := by decide +kernel
theorem dX5_follow_0 : decode cX5_follow 0 = .ok (.aload_n 0, 1) := by decide +kernel
theorem dX5_follow_1 : decode cX5_follow 1 = .ok (.getfield 12, 3) := by decide +kernel
theorem dX5_follow_4 : decode cX5_follow 4 = .ok (.aload_n 2, 1) := by decide +kernel
theorem dX5_follow_5 : decode cX5_follow 5 = .ok (.invokevirtual 18, 3) := by decide +kernel
theorem dX5_follow_8 : decode cX5_follow 8 = .ok (.aload_n 0, 1) := by decide +kernel
theorem dX5_follow_9 : decode cX5_follow 9 = .ok (.iconst 0, 1) := by decide +kernel
theorem dX5_follow_10 : decode cX5_follow 10 = .ok (.putfield 22, 3) := by decide +kernel
theorem dX5_follow_13 : decode cX5_follow 13 = .ok (.aload_n 0, 1) := by decide +kernel
theorem dX5_follow_14 : decode cX5_follow 14 = .ok (.iconst 0, 1) := by decide +kernel
theorem dX5_follow_15 : decode cX5_follow 15 = .ok (.putfield 26, 3) := by decide +kernel
theorem dX5_follow_18 : decode cX5_follow 18 = .ok (.aload_n 0, 1) := by decide +kernel
theorem dX5_follow_19 : decode cX5_follow 19 = .ok (.bipush (-6), 2) := by decide +kernel
theorem dX5_follow_21 : decode cX5_follow 21 = .ok (.putfield 29, 3) := by decide +kernel
theorem dX5_follow_24 : decode cX5_follow 24 = .ok (.iconst 0, 1) := by decide +kernel
theorem dX5_follow_25 : decode cX5_follow 25 = .ok (.istore 4, 2) := by decide +kernel
theorem dX5_follow_27 : decode cX5_follow 27 = .ok (.aload_n 0, 1) := by decide +kernel
theorem dX5_follow_28 : decode cX5_follow 28 = .ok (.iconst 0, 1) := by decide +kernel
theorem dX5_follow_29 : decode cX5_follow 29 = .ok (.putfield 32, 3) := by decide +kernel
theorem dX5_follow_32 : decode cX5_follow 32 = .ok (.aload_n 0, 1) := by decide +kernel
theorem dX5_follow_33 : decode cX5_follow 33 = .ok (.getfield 32, 3) := by decide +kernel
theorem dX5_follow_36 : decode cX5_follow 36 = .ok (.bipush 60, 2) := by decide +kernel
theorem dX5_follow_38 : decode cX5_follow 38 = .ok (.if_icmp .ge 86, 3) := by decide +kernel
theorem dX5_follow_41 : decode cX5_follow 41 = .ok (.iload 4, 2) := by decide +kernel
theorem dX5_follow_43 : decode cX5_follow 43 = .ok (.aload_n 1, 1) := by decide +kernel
theorem dX5_follow_44 : decode cX5_follow 44 = .ok (.getfield 35, 3) := by decide +kernel
theorem dX5_follow_47 : decode cX5_follow 47 = .ok (.if_icmp .ge 77, 3) := by decide +kernel
theorem dX5_follow_50 : decode cX5_follow 50 = .ok (.aload_n 0, 1) := by decide +kernel
theorem dX5_follow_51 : decode cX5_follow 51 = .ok (.aload_n 1, 1) := by decide +kernel
theorem dX5_follow_52 : decode cX5_follow 52 = .ok (.iload 4, 2) := by decide +kernel
theorem dX5_follow_54 : decode cX5_follow 54 = .ok (.invokevirtual 40, 3) := by decide +kernel
theorem dX5_follow_57 : decode cX5_follow 57 = .ok (.aload_n 0, 1) := by decide +kernel
theorem dX5_follow_58 : decode cX5_follow 58 = .ok (.aload_n 0, 1) := by decide +kernel
theorem dX5_follow_59 : decode cX5_follow 59 = .ok (.getfield 12, 3) := by decide +kernel
theorem dX5_follow_62 : decode cX5_follow 62 = .ok (.aload_n 0, 1) := by decide +kernel
theorem dX5_follow_63 : decode cX5_follow 63 = .ok (.getfield 44, 3) := by decide +kernel
theorem dX5_follow_66 : decode cX5_follow 66 = .ok (.aload_n 0, 1) := by decide +kernel
theorem dX5_follow_67 : decode cX5_follow 67 = .ok (.getfield 47, 3) := by decide +kernel
theorem dX5_follow_70 : decode cX5_follow 70 = .ok (.aload_n 0, 1) := by decide +kernel
theorem dX5_follow_71 : decode cX5_follow 71 = .ok (.getfield 50, 3) := by decide +kernel
theorem dX5_follow_74 : decode cX5_follow 74 = .ok (.invokevirtual 53, 3) := by decide +kernel
theorem dX5_follow_77 : decode cX5_follow 77 = .ok (.putfield 22, 3) := by decide +kernel
theorem dX5_follow_80 : decode cX5_follow 80 = .ok (.aload_n 0, 1) := by decide +kernel
theorem dX5_follow_81 : decode cX5_follow 81 = .ok (.getfield 22, 3) := by decide +kernel
theorem dX5_follow_84 : decode cX5_follow 84 = .ok (.ifCond .eq 4, 3) := by decide +kernel
theorem dX5_follow_87 : decode cX5_follow 87 = .ok (.return_, 1) := by decide +kernel
theorem dX5_follow_88 : decode cX5_follow 88 = .ok (.aload_n 0, 1) := by decide +kernel
theorem dX5_follow_89 : decode cX5_follow 89 = .ok (.getfield 44, 3) := by decide +kernel
theorem dX5_follow_92 : decode cX5_follow 92 = .ok (.bipush 7, 2) := by decide +kernel
theorem dX5_follow_94 : decode cX5_follow 94 = .ok (.if_icmp .ne 8, 3) := by decide +kernel
theorem dX5_follow_97 : decode cX5_follow 97 = .ok (.aload_n 0, 1) := by decide +kernel
theorem dX5_follow_98 : decode cX5_follow 98 = .ok (.iload_n 3, 1) := by decide +kernel
theorem dX5_follow_99 : decode cX5_follow 99 = .ok (.invokevirtual 57, 3) := by decide +kernel
theorem dX5_follow_102 : decode cX5_follow 102 = .ok (.iload 4, 2) := by decide +kernel
theorem dX5_follow_104 : decode cX5_follow 104 = .ok (.aload_n 0, 1) := by decide +kernel
theorem dX5_follow_105 : decode cX5_follow 105 = .ok (.getfield 61, 3) := by decide +kernel
theorem dX5_follow_108 : decode cX5_follow 108 = .ok (.iadd, 1) := by decide +kernel
theorem dX5_follow_109 : decode cX5_follow 109 = .ok (.istore 4, 2) := by decide +kernel
theorem dX5_follow_111 : decode cX5_follow 111 = .ok (.aload_n 0, 1) := by decide +kernel
theorem dX5_follow_112 : decode cX5_follow 112 = .ok (.dup, 1) := by decide +kernel
theorem dX5_follow_113 : decode cX5_follow 113 = .ok (.getfield 32, 3) := by decide +kernel
theorem dX5_follow_116 : decode cX5_follow 116 = .ok (.iconst 1, 1) := by decide +kernel
theorem dX5_follow_117 : decode cX5_follow 117 = .ok (.iadd, 1) := by decide +kernel
theorem dX5_follow_118 : decode cX5_follow 118 = .ok (.putfield 32, 3) := by decide +kernel
theorem dX5_follow_121 : decode cX5_follow 121 = .ok (.goto (-89), 3) := by decide +kernel
theorem dX5_follow_124 : decode cX5_follow 124 = .ok (.return_, 1) := by decide +kernel
theorem dX5_endMonth_0 : decode cX5_endMonth 0 = .ok (.aload_n 0, 1) := by decide +kernel
theorem dX5_endMonth_1 : decode cX5_endMonth 1 = .ok (.getfield 29, 3) := by decide +kernel
theorem dX5_endMonth_4 : decode cX5_endMonth 4 = .ok (.bipush (-6), 2) := by decide +kernel
theorem dX5_endMonth_6 : decode cX5_endMonth 6 = .ok (.if_icmp .ne 22, 3) := by decide +kernel
theorem dX5_endMonth_9 : decode cX5_endMonth 9 = .ok (.aload_n 0, 1) := by decide +kernel
theorem dX5_endMonth_10 : decode cX5_endMonth 10 = .ok (.getfield 12, 3) := by decide +kernel
theorem dX5_endMonth_13 : decode cX5_endMonth 13 = .ok (.invokevirtual 64, 3) := by decide +kernel
theorem dX5_endMonth_16 : decode cX5_endMonth 16 = .ok (.iload_n 1, 1) := by decide +kernel
theorem dX5_endMonth_17 : decode cX5_endMonth 17 = .ok (.if_icmp .ge 11, 3) := by decide +kernel
theorem dX5_endMonth_20 : decode cX5_endMonth 20 = .ok (.aload_n 0, 1) := by decide +kernel
theorem dX5_endMonth_21 : decode cX5_endMonth 21 = .ok (.aload_n 0, 1) := by decide +kernel
theorem dX5_endMonth_22 : decode cX5_endMonth 22 = .ok (.getfield 26, 3) := by decide +kernel
theorem dX5_endMonth_25 : decode cX5_endMonth 25 = .ok (.putfield 29, 3) := by decide +kernel
theorem dX5_endMonth_28 : decode cX5_endMonth 28 = .ok (.aload_n 0, 1) := by decide +kernel
theorem dX5_endMonth_29 : decode cX5_endMonth 29 = .ok (.dup, 1) := by decide +kernel
theorem dX5_endMonth_30 : decode cX5_endMonth 30 = .ok (.getfield 26, 3) := by decide +kernel
theorem dX5_endMonth_33 : decode cX5_endMonth 33 = .ok (.iconst 1, 1) := by decide +kernel
theorem dX5_endMonth_34 : decode cX5_endMonth 34 = .ok (.iadd, 1) := by decide +kernel
theorem dX5_endMonth_35 : decode cX5_endMonth 35 = .ok (.putfield 26, 3) := by decide +kernel
theorem dX5_endMonth_38 : decode cX5_endMonth 38 = .ok (.return_, 1) := by decide +kernel
theorem dX5_read_0 : decode cX5_read 0 = .ok (.aload_n 1, 1) := by decide +kernel
theorem dX5_read_1 : decode cX5_read 1 = .ok (.iload_n 2, 1) := by decide +kernel
theorem dX5_read_2 : decode cX5_read 2 = .ok (.invokevirtual 68, 3) := by decide +kernel
theorem dX5_read_5 : decode cX5_read 5 = .ok (.istore_n 3, 1) := by decide +kernel
theorem dX5_read_6 : decode cX5_read 6 = .ok (.aload_n 1, 1) := by decide +kernel
theorem dX5_read_7 : decode cX5_read 7 = .ok (.iload_n 2, 1) := by decide +kernel
theorem dX5_read_8 : decode cX5_read 8 = .ok (.iconst 1, 1) := by decide +kernel
theorem dX5_read_9 : decode cX5_read 9 = .ok (.iadd, 1) := by decide +kernel
theorem dX5_read_10 : decode cX5_read 10 = .ok (.invokevirtual 68, 3) := by decide +kernel
theorem dX5_read_13 : decode cX5_read 13 = .ok (.istore 4, 2) := by decide +kernel
theorem dX5_read_15 : decode cX5_read 15 = .ok (.aload_n 0, 1) := by decide +kernel
theorem dX5_read_16 : decode cX5_read 16 = .ok (.iload_n 3, 1) := by decide +kernel
theorem dX5_read_17 : decode cX5_read 17 = .ok (.iload 4, 2) := by decide +kernel
theorem dX5_read_19 : decode cX5_read 19 = .ok (.invokestatic 72, 3) := by decide +kernel
theorem dX5_read_22 : decode cX5_read 22 = .ok (.putfield 44, 3) := by decide +kernel
theorem dX5_read_25 : decode cX5_read 25 = .ok (.aload_n 0, 1) := by decide +kernel
theorem dX5_read_26 : decode cX5_read 26 = .ok (.aload_n 0, 1) := by decide +kernel
theorem dX5_read_27 : decode cX5_read 27 = .ok (.getfield 44, 3) := by decide +kernel
theorem dX5_read_30 : decode cX5_read 30 = .ok (.bipush 7, 2) := by decide +kernel
theorem dX5_read_32 : decode cX5_read 32 = .ok (.if_icmp .ne 7, 3) := by decide +kernel
theorem dX5_read_35 : decode cX5_read 35 = .ok (.iconst 1, 1) := by decide +kernel
theorem dX5_read_36 : decode cX5_read 36 = .ok (.goto 15, 3) := by decide +kernel
theorem dX5_read_39 : decode cX5_read 39 = .ok (.aload_n 0, 1) := by decide +kernel
theorem dX5_read_40 : decode cX5_read 40 = .ok (.getfield 44, 3) := by decide +kernel
theorem dX5_read_43 : decode cX5_read 43 = .ok (.ifCond .ne 7, 3) := by decide +kernel
theorem dX5_read_46 : decode cX5_read 46 = .ok (.iconst 2, 1) := by decide +kernel
theorem dX5_read_47 : decode cX5_read 47 = .ok (.goto 4, 3) := by decide +kernel
theorem dX5_read_50 : decode cX5_read 50 = .ok (.iconst 3, 1) := by decide +kernel
theorem dX5_read_51 : decode cX5_read 51 = .ok (.putfield 61, 3) := by decide +kernel
theorem dX5_read_54 : decode cX5_read 54 = .ok (.aload_n 0, 1) := by decide +kernel
theorem dX5_read_55 : decode cX5_read 55 = .ok (.aload_n 0, 1) := by decide +kernel
theorem dX5_read_56 : decode cX5_read 56 = .ok (.getfield 61, 3) := by decide +kernel
theorem dX5_read_59 : decode cX5_read 59 = .ok (.iconst 3, 1) := by decide +kernel
theorem dX5_read_60 : decode cX5_read 60 = .ok (.if_icmp .ge 7, 3) := by decide +kernel
theorem dX5_read_63 : decode cX5_read 63 = .ok (.iconst 0, 1) := by decide +kernel
theorem dX5_read_64 : decode cX5_read 64 = .ok (.goto 21, 3) := by decide +kernel
theorem dX5_read_67 : decode cX5_read 67 = .ok (.aload_n 0, 1) := by decide +kernel
theorem dX5_read_68 : decode cX5_read 68 = .ok (.getfield 44, 3) := by decide +kernel
theorem dX5_read_71 : decode cX5_read 71 = .ok (.bipush 6, 2) := by decide +kernel
theorem dX5_read_73 : decode cX5_read 73 = .ok (.if_icmp .ne 8, 3) := by decide +kernel
theorem dX5_read_76 : decode cX5_read 76 = .ok (.iload 4, 2) := by decide +kernel
theorem dX5_read_78 : decode cX5_read 78 = .ok (.goto 4, 3) := by decide +kernel
theorem dX5_read_81 : decode cX5_read 81 = .ok (.iload_n 3, 1) := by decide +kernel
theorem dX5_read_82 : decode cX5_read 82 = .ok (.bipush 65, 2) := by decide +kernel
theorem dX5_read_84 : decode cX5_read 84 = .ok (.isub, 1) := by decide +kernel
theorem dX5_read_85 : decode cX5_read 85 = .ok (.putfield 47, 3) := by decide +kernel
theorem dX5_read_88 : decode cX5_read 88 = .ok (.aload_n 0, 1) := by decide +kernel
theorem dX5_read_89 : decode cX5_read 89 = .ok (.aload_n 1, 1) := by decide +kernel
theorem dX5_read_90 : decode cX5_read 90 = .ok (.iload_n 2, 1) := by decide +kernel
theorem dX5_read_91 : decode cX5_read 91 = .ok (.aload_n 0, 1) := by decide +kernel
theorem dX5_read_92 : decode cX5_read 92 = .ok (.getfield 61, 3) := by decide +kernel
theorem dX5_read_95 : decode cX5_read 95 = .ok (.iadd, 1) := by decide +kernel
theorem dX5_read_96 : decode cX5_read 96 = .ok (.iconst 1, 1) := by decide +kernel
theorem dX5_read_97 : decode cX5_read 97 = .ok (.isub, 1) := by decide +kernel
theorem dX5_read_98 : decode cX5_read 98 = .ok (.invokevirtual 68, 3) := by decide +kernel
theorem dX5_read_101 : decode cX5_read 101 = .ok (.aload_n 0, 1) := by decide +kernel
theorem dX5_read_102 : decode cX5_read 102 = .ok (.getfield 44, 3) := by decide +kernel
theorem dX5_read_105 : decode cX5_read 105 = .ok (.iconst 5, 1) := by decide +kernel
theorem dX5_read_106 : decode cX5_read 106 = .ok (.if_icmp .ne 8, 3) := by decide +kernel
theorem dX5_read_109 : decode cX5_read 109 = .ok (.bipush 65, 2) := by decide +kernel
theorem dX5_read_111 : decode cX5_read 111 = .ok (.goto 5, 3) := by decide +kernel
theorem dX5_read_114 : decode cX5_read 114 = .ok (.bipush 48, 2) := by decide +kernel
theorem dX5_read_116 : decode cX5_read 116 = .ok (.isub, 1) := by decide +kernel
theorem dX5_read_117 : decode cX5_read 117 = .ok (.putfield 50, 3) := by decide +kernel
theorem dX5_read_120 : decode cX5_read 120 = .ok (.return_, 1) := by decide +kernel
theorem dX5_kindOf_0 : decode cX5_kindOf 0 = .ok (.iload_n 0, 1) := by decide +kernel
theorem dX5_kindOf_1 : decode cX5_kindOf 1 = .ok (.lookupswitch 43 #[(33, 40), (43, 38), (46, 35)], 35) := by decide +kernel
theorem dX5_kindOf_36 : decode cX5_kindOf 36 = .ok (.bipush 7, 2) := by decide +kernel
theorem dX5_kindOf_38 : decode cX5_kindOf 38 = .ok (.ireturn, 1) := by decide +kernel
theorem dX5_kindOf_39 : decode cX5_kindOf 39 = .ok (.iconst 0, 1) := by decide +kernel
theorem dX5_kindOf_40 : decode cX5_kindOf 40 = .ok (.ireturn, 1) := by decide +kernel
theorem dX5_kindOf_41 : decode cX5_kindOf 41 = .ok (.bipush 6, 2) := by decide +kernel
theorem dX5_kindOf_43 : decode cX5_kindOf 43 = .ok (.ireturn, 1) := by decide +kernel
theorem dX5_kindOf_44 : decode cX5_kindOf 44 = .ok (.iload_n 1, 1) := by decide +kernel
theorem dX5_kindOf_45 : decode cX5_kindOf 45 = .ok (.invokestatic 76, 3) := by decide +kernel
theorem dX5_kindOf_48 : decode cX5_kindOf 48 = .ok (.ireturn, 1) := by decide +kernel
theorem dX5_kindOfDeed_0 : decode cX5_kindOfDeed 0 = .ok (.iload_n 0, 1) := by decide +kernel
theorem dX5_kindOfDeed_1 : decode cX5_kindOfDeed 1 = .ok (.lookupswitch 41 #[(36, 35), (47, 37), (62, 39)], 35) := by decide +kernel
theorem dX5_kindOfDeed_36 : decode cX5_kindOfDeed 36 = .ok (.iconst 2, 1) := by decide +kernel
theorem dX5_kindOfDeed_37 : decode cX5_kindOfDeed 37 = .ok (.ireturn, 1) := by decide +kernel
theorem dX5_kindOfDeed_38 : decode cX5_kindOfDeed 38 = .ok (.iconst 4, 1) := by decide +kernel
theorem dX5_kindOfDeed_39 : decode cX5_kindOfDeed 39 = .ok (.ireturn, 1) := by decide +kernel
theorem dX5_kindOfDeed_40 : decode cX5_kindOfDeed 40 = .ok (.iconst 5, 1) := by decide +kernel
theorem dX5_kindOfDeed_41 : decode cX5_kindOfDeed 41 = .ok (.ireturn, 1) := by decide +kernel
theorem dX5_kindOfDeed_42 : decode cX5_kindOfDeed 42 = .ok (.iconst 1, 1) := by decide +kernel
theorem dX5_kindOfDeed_43 : decode cX5_kindOfDeed 43 = .ok (.ireturn, 1) := by decide +kernel
theorem dX6_init_0 : decode cX6_init 0 = .ok (.aload_n 0, 1) := by decide +kernel
theorem dX6_init_1 : decode cX6_init 1 = .ok (.invokespecial 3, 3) := by decide +kernel
theorem dX6_init_4 : decode cX6_init 4 = .ok (.aload_n 0, 1) := by decide +kernel
theorem dX6_init_5 : decode cX6_init 5 = .ok (.iconst 2, 1) := by decide +kernel
theorem dX6_init_6 : decode cX6_init 6 = .ok (.bipush 69, 2) := by decide +kernel
theorem dX6_init_8 : decode cX6_init 8 = .ok (.multianewarray 11 2, 4) := by decide +kernel
theorem dX6_init_12 : decode cX6_init 12 = .ok (.putfield 13, 3) := by decide +kernel
theorem dX6_init_15 : decode cX6_init 15 = .ok (.return_, 1) := by decide +kernel
theorem dX6_scaledMean_0 : decode cX6_scaledMean 0 = .ok (.aload_n 0, 1) := by decide +kernel
theorem dX6_scaledMean_1 : decode cX6_scaledMean 1 = .ok (.getfield 13, 3) := by decide +kernel
theorem dX6_scaledMean_4 : decode cX6_scaledMean 4 = .ok (.iconst 0, 1) := by decide +kernel
theorem dX6_scaledMean_5 : decode cX6_scaledMean 5 = .ok (.aaload, 1) := by decide +kernel
theorem dX6_scaledMean_6 : decode cX6_scaledMean 6 = .ok (.astore 4, 2) := by decide +kernel
theorem dX6_scaledMean_8 : decode cX6_scaledMean 8 = .ok (.aload_n 0, 1) := by decide +kernel
theorem dX6_scaledMean_9 : decode cX6_scaledMean 9 = .ok (.getfield 13, 3) := by decide +kernel
theorem dX6_scaledMean_12 : decode cX6_scaledMean 12 = .ok (.iconst 1, 1) := by decide +kernel
theorem dX6_scaledMean_13 : decode cX6_scaledMean 13 = .ok (.aaload, 1) := by decide +kernel
theorem dX6_scaledMean_14 : decode cX6_scaledMean 14 = .ok (.astore 5, 2) := by decide +kernel
theorem dX6_scaledMean_16 : decode cX6_scaledMean 16 = .ok (.iconst 0, 1) := by decide +kernel
theorem dX6_scaledMean_17 : decode cX6_scaledMean 17 = .ok (.istore 6, 2) := by decide +kernel
theorem dX6_scaledMean_19 : decode cX6_scaledMean 19 = .ok (.iload 6, 2) := by decide +kernel
theorem dX6_scaledMean_21 : decode cX6_scaledMean 21 = .ok (.iload_n 1, 1) := by decide +kernel
theorem dX6_scaledMean_22 : decode cX6_scaledMean 22 = .ok (.iload_n 2, 1) := by decide +kernel
theorem dX6_scaledMean_23 : decode cX6_scaledMean 23 = .ok (.iadd, 1) := by decide +kernel
theorem dX6_scaledMean_24 : decode cX6_scaledMean 24 = .ok (.if_icmp .gt 17, 3) := by decide +kernel
theorem dX6_scaledMean_27 : decode cX6_scaledMean 27 = .ok (.aload 4, 2) := by decide +kernel
theorem dX6_scaledMean_29 : decode cX6_scaledMean 29 = .ok (.iload 6, 2) := by decide +kernel
theorem dX6_scaledMean_31 : decode cX6_scaledMean 31 = .ok (.iload 6, 2) := by decide +kernel
theorem dX6_scaledMean_33 : decode cX6_scaledMean 33 = .ok (.i2l, 1) := by decide +kernel
theorem dX6_scaledMean_34 : decode cX6_scaledMean 34 = .ok (.lastore, 1) := by decide +kernel
theorem dX6_scaledMean_35 : decode cX6_scaledMean 35 = .ok (.iinc 6 1, 3) := by decide +kernel
theorem dX6_scaledMean_38 : decode cX6_scaledMean 38 = .ok (.goto (-19), 3) := by decide +kernel
theorem dX6_scaledMean_41 : decode cX6_scaledMean 41 = .ok (.lconst 1, 1) := by decide +kernel
theorem dX6_scaledMean_42 : decode cX6_scaledMean 42 = .ok (.lstore 6, 2) := by decide +kernel
theorem dX6_scaledMean_44 : decode cX6_scaledMean 44 = .ok (.iconst 1, 1) := by decide +kernel
theorem dX6_scaledMean_45 : decode cX6_scaledMean 45 = .ok (.istore 8, 2) := by decide +kernel
theorem dX6_scaledMean_47 : decode cX6_scaledMean 47 = .ok (.iload 8, 2) := by decide +kernel
theorem dX6_scaledMean_49 : decode cX6_scaledMean 49 = .ok (.iload_n 2, 1) := by decide +kernel
theorem dX6_scaledMean_50 : decode cX6_scaledMean 50 = .ok (.if_icmp .gt 95, 3) := by decide +kernel
theorem dX6_scaledMean_53 : decode cX6_scaledMean 53 = .ok (.lload 6, 2) := by decide +kernel
theorem dX6_scaledMean_55 : decode cX6_scaledMean 55 = .ok (.ldc2_w 16, 3) := by decide +kernel
theorem dX6_scaledMean_58 : decode cX6_scaledMean 58 = .ok (.lmul, 1) := by decide +kernel
theorem dX6_scaledMean_59 : decode cX6_scaledMean 59 = .ok (.lstore 6, 2) := by decide +kernel
theorem dX6_scaledMean_61 : decode cX6_scaledMean 61 = .ok (.iconst 0, 1) := by decide +kernel
theorem dX6_scaledMean_62 : decode cX6_scaledMean 62 = .ok (.istore 9, 2) := by decide +kernel
theorem dX6_scaledMean_64 : decode cX6_scaledMean 64 = .ok (.iload 9, 2) := by decide +kernel
theorem dX6_scaledMean_66 : decode cX6_scaledMean 66 = .ok (.iload_n 1, 1) := by decide +kernel
theorem dX6_scaledMean_67 : decode cX6_scaledMean 67 = .ok (.iload_n 2, 1) := by decide +kernel
theorem dX6_scaledMean_68 : decode cX6_scaledMean 68 = .ok (.iadd, 1) := by decide +kernel
theorem dX6_scaledMean_69 : decode cX6_scaledMean 69 = .ok (.iload 8, 2) := by decide +kernel
theorem dX6_scaledMean_71 : decode cX6_scaledMean 71 = .ok (.isub, 1) := by decide +kernel
theorem dX6_scaledMean_72 : decode cX6_scaledMean 72 = .ok (.if_icmp .gt 55, 3) := by decide +kernel
theorem dX6_scaledMean_75 : decode cX6_scaledMean 75 = .ok (.iload_n 3, 1) := by decide +kernel
theorem dX6_scaledMean_76 : decode cX6_scaledMean 76 = .ok (.i2l, 1) := by decide +kernel
theorem dX6_scaledMean_77 : decode cX6_scaledMean 77 = .ok (.aload 4, 2) := by decide +kernel
theorem dX6_scaledMean_79 : decode cX6_scaledMean 79 = .ok (.iconst 0, 1) := by decide +kernel
theorem dX6_scaledMean_80 : decode cX6_scaledMean 80 = .ok (.iload 9, 2) := by decide +kernel
theorem dX6_scaledMean_82 : decode cX6_scaledMean 82 = .ok (.iconst 3, 1) := by decide +kernel
theorem dX6_scaledMean_83 : decode cX6_scaledMean 83 = .ok (.isub, 1) := by decide +kernel
theorem dX6_scaledMean_84 : decode cX6_scaledMean 84 = .ok (.invokestatic 18, 3) := by decide +kernel
theorem dX6_scaledMean_87 : decode cX6_scaledMean 87 = .ok (.laload, 1) := by decide +kernel
theorem dX6_scaledMean_88 : decode cX6_scaledMean 88 = .ok (.lmul, 1) := by decide +kernel
theorem dX6_scaledMean_89 : decode cX6_scaledMean 89 = .ok (.bipush 10, 2) := by decide +kernel
theorem dX6_scaledMean_91 : decode cX6_scaledMean 91 = .ok (.iload_n 3, 1) := by decide +kernel
theorem dX6_scaledMean_92 : decode cX6_scaledMean 92 = .ok (.isub, 1) := by decide +kernel
theorem dX6_scaledMean_93 : decode cX6_scaledMean 93 = .ok (.i2l, 1) := by decide +kernel
theorem dX6_scaledMean_94 : decode cX6_scaledMean 94 = .ok (.aload 4, 2) := by decide +kernel
theorem dX6_scaledMean_96 : decode cX6_scaledMean 96 = .ok (.iload 9, 2) := by decide +kernel
theorem dX6_scaledMean_98 : decode cX6_scaledMean 98 = .ok (.iconst 1, 1) := by decide +kernel
theorem dX6_scaledMean_99 : decode cX6_scaledMean 99 = .ok (.iadd, 1) := by decide +kernel
theorem dX6_scaledMean_100 : decode cX6_scaledMean 100 = .ok (.laload, 1) := by decide +kernel
theorem dX6_scaledMean_101 : decode cX6_scaledMean 101 = .ok (.lmul, 1) := by decide +kernel
theorem dX6_scaledMean_102 : decode cX6_scaledMean 102 = .ok (.ladd, 1) := by decide +kernel
theorem dX6_scaledMean_103 : decode cX6_scaledMean 103 = .ok (.lstore 10, 2) := by decide +kernel
theorem dX6_scaledMean_105 : decode cX6_scaledMean 105 = .ok (.aload 5, 2) := by decide +kernel
theorem dX6_scaledMean_107 : decode cX6_scaledMean 107 = .ok (.iload 9, 2) := by decide +kernel
theorem dX6_scaledMean_109 : decode cX6_scaledMean 109 = .ok (.iload 9, 2) := by decide +kernel
theorem dX6_scaledMean_111 : decode cX6_scaledMean 111 = .ok (.i2l, 1) := by decide +kernel
theorem dX6_scaledMean_112 : decode cX6_scaledMean 112 = .ok (.lload 6, 2) := by decide +kernel
theorem dX6_scaledMean_114 : decode cX6_scaledMean 114 = .ok (.lmul, 1) := by decide +kernel
theorem dX6_scaledMean_115 : decode cX6_scaledMean 115 = .ok (.lload 10, 2) := by decide +kernel
theorem dX6_scaledMean_117 : decode cX6_scaledMean 117 = .ok (.invokestatic 24, 3) := by decide +kernel
theorem dX6_scaledMean_120 : decode cX6_scaledMean 120 = .ok (.lastore, 1) := by decide +kernel
theorem dX6_scaledMean_121 : decode cX6_scaledMean 121 = .ok (.iinc 9 1, 3) := by decide +kernel
theorem dX6_scaledMean_124 : decode cX6_scaledMean 124 = .ok (.goto (-60), 3) := by decide +kernel
theorem dX6_scaledMean_127 : decode cX6_scaledMean 127 = .ok (.aload 4, 2) := by decide +kernel
theorem dX6_scaledMean_129 : decode cX6_scaledMean 129 = .ok (.astore 9, 2) := by decide +kernel
theorem dX6_scaledMean_131 : decode cX6_scaledMean 131 = .ok (.aload 5, 2) := by decide +kernel
theorem dX6_scaledMean_133 : decode cX6_scaledMean 133 = .ok (.astore 4, 2) := by decide +kernel
theorem dX6_scaledMean_135 : decode cX6_scaledMean 135 = .ok (.aload 9, 2) := by decide +kernel
theorem dX6_scaledMean_137 : decode cX6_scaledMean 137 = .ok (.astore 5, 2) := by decide +kernel
theorem dX6_scaledMean_139 : decode cX6_scaledMean 139 = .ok (.iinc 8 1, 3) := by decide +kernel
theorem dX6_scaledMean_142 : decode cX6_scaledMean 142 = .ok (.goto (-95), 3) := by decide +kernel
theorem dX6_scaledMean_145 : decode cX6_scaledMean 145 = .ok (.aload 4, 2) := by decide +kernel
theorem dX6_scaledMean_147 : decode cX6_scaledMean 147 = .ok (.iload_n 1, 1) := by decide +kernel
theorem dX6_scaledMean_148 : decode cX6_scaledMean 148 = .ok (.laload, 1) := by decide +kernel
theorem dX6_scaledMean_149 : decode cX6_scaledMean 149 = .ok (.lreturn, 1) := by decide +kernel
theorem dX7_init_0 : decode cX7_init 0 = .ok (.aload_n 0, 1) := by decide +kernel
theorem dX7_init_1 : decode cX7_init 1 = .ok (.invokespecial 1, 3) := by decide +kernel
theorem dX7_init_4 : decode cX7_init 4 = .ok (.aload_n 0, 1) := by decide +kernel
theorem dX7_init_5 : decode cX7_init 5 = .ok (.new 7, 3) := by decide +kernel
theorem dX7_init_8 : decode cX7_init 8 = .ok (.dup, 1) := by decide +kernel
theorem dX7_init_9 : decode cX7_init 9 = .ok (.invokespecial 9, 3) := by decide +kernel
theorem dX7_init_12 : decode cX7_init 12 = .ok (.putfield 10, 3) := by decide +kernel
theorem dX7_init_15 : decode cX7_init 15 = .ok (.aload_n 0, 1) := by decide +kernel
theorem dX7_init_16 : decode cX7_init 16 = .ok (.new 16, 3) := by decide +kernel
theorem dX7_init_19 : decode cX7_init 19 = .ok (.dup, 1) := by decide +kernel
theorem dX7_init_20 : decode cX7_init 20 = .ok (.invokespecial 18, 3) := by decide +kernel
theorem dX7_init_23 : decode cX7_init 23 = .ok (.putfield 19, 3) := by decide +kernel
theorem dX7_init_26 : decode cX7_init 26 = .ok (.aload_n 0, 1) := by decide +kernel
theorem dX7_init_27 : decode cX7_init 27 = .ok (.new 23, 3) := by decide +kernel
theorem dX7_init_30 : decode cX7_init 30 = .ok (.dup, 1) := by decide +kernel
theorem dX7_init_31 : decode cX7_init 31 = .ok (.invokespecial 25, 3) := by decide +kernel
theorem dX7_init_34 : decode cX7_init 34 = .ok (.putfield 26, 3) := by decide +kernel
theorem dX7_init_37 : decode cX7_init 37 = .ok (.aload_n 0, 1) := by decide +kernel
theorem dX7_init_38 : decode cX7_init 38 = .ok (.new 30, 3) := by decide +kernel
theorem dX7_init_41 : decode cX7_init 41 = .ok (.dup, 1) := by decide +kernel
theorem dX7_init_42 : decode cX7_init 42 = .ok (.invokespecial 32, 3) := by decide +kernel
theorem dX7_init_45 : decode cX7_init 45 = .ok (.putfield 33, 3) := by decide +kernel
theorem dX7_init_48 : decode cX7_init 48 = .ok (.aload_n 0, 1) := by decide +kernel
theorem dX7_init_49 : decode cX7_init 49 = .ok (.new 37, 3) := by decide +kernel
theorem dX7_init_52 : decode cX7_init 52 = .ok (.dup, 1) := by decide +kernel
theorem dX7_init_53 : decode cX7_init 53 = .ok (.invokespecial 39, 3) := by decide +kernel
theorem dX7_init_56 : decode cX7_init 56 = .ok (.putfield 40, 3) := by decide +kernel
theorem dX7_init_59 : decode cX7_init 59 = .ok (.aload_n 0, 1) := by decide +kernel
theorem dX7_init_60 : decode cX7_init 60 = .ok (.new 44, 3) := by decide +kernel
theorem dX7_init_63 : decode cX7_init 63 = .ok (.dup, 1) := by decide +kernel
theorem dX7_init_64 : decode cX7_init 64 = .ok (.invokespecial 46, 3) := by decide +kernel
theorem dX7_init_67 : decode cX7_init 67 = .ok (.putfield 47, 3) := by decide +kernel
theorem dX7_init_70 : decode cX7_init 70 = .ok (.aload_n 0, 1) := by decide +kernel
theorem dX7_init_71 : decode cX7_init 71 = .ok (.iconst 2, 1) := by decide +kernel
theorem dX7_init_72 : decode cX7_init 72 = .ok (.anewarray 51, 3) := by decide +kernel
theorem dX7_init_75 : decode cX7_init 75 = .ok (.putfield 53, 3) := by decide +kernel
theorem dX7_init_78 : decode cX7_init 78 = .ok (.iconst 0, 1) := by decide +kernel
theorem dX7_init_79 : decode cX7_init 79 = .ok (.istore_n 1, 1) := by decide +kernel
theorem dX7_init_80 : decode cX7_init 80 = .ok (.iload_n 1, 1) := by decide +kernel
theorem dX7_init_81 : decode cX7_init 81 = .ok (.iconst 2, 1) := by decide +kernel
theorem dX7_init_82 : decode cX7_init 82 = .ok (.if_icmp .ge 22, 3) := by decide +kernel
theorem dX7_init_85 : decode cX7_init 85 = .ok (.aload_n 0, 1) := by decide +kernel
theorem dX7_init_86 : decode cX7_init 86 = .ok (.getfield 53, 3) := by decide +kernel
theorem dX7_init_89 : decode cX7_init 89 = .ok (.iload_n 1, 1) := by decide +kernel
theorem dX7_init_90 : decode cX7_init 90 = .ok (.new 51, 3) := by decide +kernel
theorem dX7_init_93 : decode cX7_init 93 = .ok (.dup, 1) := by decide +kernel
theorem dX7_init_94 : decode cX7_init 94 = .ok (.invokespecial 57, 3) := by decide +kernel
theorem dX7_init_97 : decode cX7_init 97 = .ok (.aastore, 1) := by decide +kernel
theorem dX7_init_98 : decode cX7_init 98 = .ok (.iinc 1 1, 3) := by decide +kernel
theorem dX7_init_101 : decode cX7_init 101 = .ok (.goto (-21), 3) := by decide +kernel
theorem dX7_init_104 : decode cX7_init 104 = .ok (.return_, 1) := by decide +kernel
theorem dX7_one_0 : decode cX7_one 0 = .ok (.iload_n 1, 1) := by decide +kernel
theorem dX7_one_1 : decode cX7_one 1 = .ok (.invokestatic 58, 3) := by decide +kernel
theorem dX7_one_4 : decode cX7_one 4 = .ok (.ifCond .ne 5, 3) := by decide +kernel
theorem dX7_one_7 : decode cX7_one 7 = .ok (.iconst (-1), 1) := by decide +kernel
theorem dX7_one_8 : decode cX7_one 8 = .ok (.ireturn, 1) := by decide +kernel
theorem dX7_one_9 : decode cX7_one 9 = .ok (.iload_n 2, 1) := by decide +kernel
theorem dX7_one_10 : decode cX7_one 10 = .ok (.iconst 0, 1) := by decide +kernel
theorem dX7_one_11 : decode cX7_one 11 = .ok (.sipush 9999, 3) := by decide +kernel
theorem dX7_one_14 : decode cX7_one 14 = .ok (.invokestatic 62, 3) := by decide +kernel
theorem dX7_one_17 : decode cX7_one 17 = .ok (.ifCond .eq 14, 3) := by decide +kernel
theorem dX7_one_20 : decode cX7_one 20 = .ok (.iload_n 3, 1) := by decide +kernel
theorem dX7_one_21 : decode cX7_one 21 = .ok (.iconst 0, 1) := by decide +kernel
theorem dX7_one_22 : decode cX7_one 22 = .ok (.sipush 9999, 3) := by decide +kernel
theorem dX7_one_25 : decode cX7_one 25 = .ok (.invokestatic 62, 3) := by decide +kernel
theorem dX7_one_28 : decode cX7_one 28 = .ok (.ifCond .ne 6, 3) := by decide +kernel
theorem dX7_one_31 : decode cX7_one 31 = .ok (.bipush (-2), 2) := by decide +kernel
theorem dX7_one_33 : decode cX7_one 33 = .ok (.ireturn, 1) := by decide +kernel
theorem dX7_one_34 : decode cX7_one 34 = .ok (.sipush 10000, 3) := by decide +kernel
theorem dX7_one_37 : decode cX7_one 37 = .ok (.aload_n 0, 1) := by decide +kernel
theorem dX7_one_38 : decode cX7_one 38 = .ok (.getfield 10, 3) := by decide +kernel
theorem dX7_one_41 : decode cX7_one 41 = .ok (.getfield 66, 3) := by decide +kernel
theorem dX7_one_44 : decode cX7_one 44 = .ok (.iload_n 1, 1) := by decide +kernel
theorem dX7_one_45 : decode cX7_one 45 = .ok (.iaload, 1) := by decide +kernel
theorem dX7_one_46 : decode cX7_one 46 = .ok (.imul, 1) := by decide +kernel
theorem dX7_one_47 : decode cX7_one 47 = .ok (.aload_n 0, 1) := by decide +kernel
theorem dX7_one_48 : decode cX7_one 48 = .ok (.getfield 10, 3) := by decide +kernel
theorem dX7_one_51 : decode cX7_one 51 = .ok (.getfield 70, 3) := by decide +kernel
theorem dX7_one_54 : decode cX7_one 54 = .ok (.iload_n 1, 1) := by decide +kernel
theorem dX7_one_55 : decode cX7_one 55 = .ok (.iaload, 1) := by decide +kernel
theorem dX7_one_56 : decode cX7_one 56 = .ok (.iadd, 1) := by decide +kernel
theorem dX7_one_57 : decode cX7_one 57 = .ok (.istore 4, 2) := by decide +kernel
theorem dX7_one_59 : decode cX7_one 59 = .ok (.aload_n 0, 1) := by decide +kernel
theorem dX7_one_60 : decode cX7_one 60 = .ok (.getfield 10, 3) := by decide +kernel
theorem dX7_one_63 : decode cX7_one 63 = .ok (.getfield 66, 3) := by decide +kernel
theorem dX7_one_66 : decode cX7_one 66 = .ok (.iload_n 1, 1) := by decide +kernel
theorem dX7_one_67 : decode cX7_one 67 = .ok (.iload_n 2, 1) := by decide +kernel
theorem dX7_one_68 : decode cX7_one 68 = .ok (.iastore, 1) := by decide +kernel
theorem dX7_one_69 : decode cX7_one 69 = .ok (.aload_n 0, 1) := by decide +kernel
theorem dX7_one_70 : decode cX7_one 70 = .ok (.getfield 10, 3) := by decide +kernel
theorem dX7_one_73 : decode cX7_one 73 = .ok (.getfield 70, 3) := by decide +kernel
theorem dX7_one_76 : decode cX7_one 76 = .ok (.iload_n 1, 1) := by decide +kernel
theorem dX7_one_77 : decode cX7_one 77 = .ok (.iload_n 3, 1) := by decide +kernel
theorem dX7_one_78 : decode cX7_one 78 = .ok (.iastore, 1) := by decide +kernel
theorem dX7_one_79 : decode cX7_one 79 = .ok (.iload 4, 2) := by decide +kernel
theorem dX7_one_81 : decode cX7_one 81 = .ok (.ireturn, 1) := by decide +kernel
theorem dX7_owe_0 : decode cX7_owe 0 = .ok (.iload_n 1, 1) := by decide +kernel
theorem dX7_owe_1 : decode cX7_owe 1 = .ok (.invokestatic 58, 3) := by decide +kernel
theorem dX7_owe_4 : decode cX7_owe 4 = .ok (.ifCond .eq 15, 3) := by decide +kernel
theorem dX7_owe_7 : decode cX7_owe 7 = .ok (.iload_n 2, 1) := by decide +kernel
theorem dX7_owe_8 : decode cX7_owe 8 = .ok (.invokestatic 58, 3) := by decide +kernel
theorem dX7_owe_11 : decode cX7_owe 11 = .ok (.ifCond .eq 8, 3) := by decide +kernel
theorem dX7_owe_14 : decode cX7_owe 14 = .ok (.iload_n 1, 1) := by decide +kernel
theorem dX7_owe_15 : decode cX7_owe 15 = .ok (.iload_n 2, 1) := by decide +kernel
theorem dX7_owe_16 : decode cX7_owe 16 = .ok (.if_icmp .ne 5, 3) := by decide +kernel
theorem dX7_owe_19 : decode cX7_owe 19 = .ok (.iconst (-1), 1) := by decide +kernel
theorem dX7_owe_20 : decode cX7_owe 20 = .ok (.ireturn, 1) := by decide +kernel
theorem dX7_owe_21 : decode cX7_owe 21 = .ok (.iload_n 3, 1) := by decide +kernel
theorem dX7_owe_22 : decode cX7_owe 22 = .ok (.iconst 0, 1) := by decide +kernel
theorem dX7_owe_23 : decode cX7_owe 23 = .ok (.sipush 999, 3) := by decide +kernel
theorem dX7_owe_26 : decode cX7_owe 26 = .ok (.invokestatic 62, 3) := by decide +kernel
theorem dX7_owe_29 : decode cX7_owe 29 = .ok (.ifCond .ne 6, 3) := by decide +kernel
theorem dX7_owe_32 : decode cX7_owe 32 = .ok (.bipush (-2), 2) := by decide +kernel
theorem dX7_owe_34 : decode cX7_owe 34 = .ok (.ireturn, 1) := by decide +kernel
theorem dX7_owe_35 : decode cX7_owe 35 = .ok (.aload_n 0, 1) := by decide +kernel
theorem dX7_owe_36 : decode cX7_owe 36 = .ok (.getfield 10, 3) := by decide +kernel
theorem dX7_owe_39 : decode cX7_owe 39 = .ok (.getfield 73, 3) := by decide +kernel
theorem dX7_owe_42 : decode cX7_owe 42 = .ok (.iload_n 1, 1) := by decide +kernel
theorem dX7_owe_43 : decode cX7_owe 43 = .ok (.aaload, 1) := by decide +kernel
theorem dX7_owe_44 : decode cX7_owe 44 = .ok (.iload_n 2, 1) := by decide +kernel
theorem dX7_owe_45 : decode cX7_owe 45 = .ok (.iaload, 1) := by decide +kernel
theorem dX7_owe_46 : decode cX7_owe 46 = .ok (.istore 4, 2) := by decide +kernel
theorem dX7_owe_48 : decode cX7_owe 48 = .ok (.aload_n 0, 1) := by decide +kernel
theorem dX7_owe_49 : decode cX7_owe 49 = .ok (.getfield 10, 3) := by decide +kernel
theorem dX7_owe_52 : decode cX7_owe 52 = .ok (.getfield 73, 3) := by decide +kernel
theorem dX7_owe_55 : decode cX7_owe 55 = .ok (.iload_n 1, 1) := by decide +kernel
theorem dX7_owe_56 : decode cX7_owe 56 = .ok (.aaload, 1) := by decide +kernel
theorem dX7_owe_57 : decode cX7_owe 57 = .ok (.iload_n 2, 1) := by decide +kernel
theorem dX7_owe_58 : decode cX7_owe 58 = .ok (.iload_n 3, 1) := by decide +kernel
theorem dX7_owe_59 : decode cX7_owe 59 = .ok (.iastore, 1) := by decide +kernel
theorem dX7_owe_60 : decode cX7_owe 60 = .ok (.iload 4, 2) := by decide +kernel
theorem dX7_owe_62 : decode cX7_owe 62 = .ok (.ireturn, 1) := by decide +kernel
theorem dX7_lot_0 : decode cX7_lot 0 = .ok (.iload_n 1, 1) := by decide +kernel
theorem dX7_lot_1 : decode cX7_lot 1 = .ok (.iconst 0, 1) := by decide +kernel
theorem dX7_lot_2 : decode cX7_lot 2 = .ok (.bipush 7, 2) := by decide +kernel
theorem dX7_lot_4 : decode cX7_lot 4 = .ok (.invokestatic 62, 3) := by decide +kernel
theorem dX7_lot_7 : decode cX7_lot 7 = .ok (.ifCond .eq 15, 3) := by decide +kernel
theorem dX7_lot_10 : decode cX7_lot 10 = .ok (.iload_n 3, 1) := by decide +kernel
theorem dX7_lot_11 : decode cX7_lot 11 = .ok (.iconst (-1), 1) := by decide +kernel
theorem dX7_lot_12 : decode cX7_lot 12 = .ok (.if_icmp .eq 12, 3) := by decide +kernel
theorem dX7_lot_15 : decode cX7_lot 15 = .ok (.iload_n 3, 1) := by decide +kernel
theorem dX7_lot_16 : decode cX7_lot 16 = .ok (.invokestatic 58, 3) := by decide +kernel
theorem dX7_lot_19 : decode cX7_lot 19 = .ok (.ifCond .ne 5, 3) := by decide +kernel
theorem dX7_lot_22 : decode cX7_lot 22 = .ok (.iconst (-1), 1) := by decide +kernel
theorem dX7_lot_23 : decode cX7_lot 23 = .ok (.ireturn, 1) := by decide +kernel
theorem dX7_lot_24 : decode cX7_lot 24 = .ok (.iload_n 2, 1) := by decide +kernel
theorem dX7_lot_25 : decode cX7_lot 25 = .ok (.iconst 1, 1) := by decide +kernel
theorem dX7_lot_26 : decode cX7_lot 26 = .ok (.sipush 999, 3) := by decide +kernel
theorem dX7_lot_29 : decode cX7_lot 29 = .ok (.invokestatic 62, 3) := by decide +kernel
theorem dX7_lot_32 : decode cX7_lot 32 = .ok (.ifCond .ne 6, 3) := by decide +kernel
theorem dX7_lot_35 : decode cX7_lot 35 = .ok (.bipush (-2), 2) := by decide +kernel
theorem dX7_lot_37 : decode cX7_lot 37 = .ok (.ireturn, 1) := by decide +kernel
theorem dX7_lot_38 : decode cX7_lot 38 = .ok (.aload_n 0, 1) := by decide +kernel
theorem dX7_lot_39 : decode cX7_lot 39 = .ok (.getfield 10, 3) := by decide +kernel
theorem dX7_lot_42 : decode cX7_lot 42 = .ok (.getfield 77, 3) := by decide +kernel
theorem dX7_lot_45 : decode cX7_lot 45 = .ok (.iload_n 1, 1) := by decide +kernel
theorem dX7_lot_46 : decode cX7_lot 46 = .ok (.iaload, 1) := by decide +kernel
theorem dX7_lot_47 : decode cX7_lot 47 = .ok (.istore 4, 2) := by decide +kernel
theorem dX7_lot_49 : decode cX7_lot 49 = .ok (.aload_n 0, 1) := by decide +kernel
theorem dX7_lot_50 : decode cX7_lot 50 = .ok (.getfield 10, 3) := by decide +kernel
theorem dX7_lot_53 : decode cX7_lot 53 = .ok (.getfield 77, 3) := by decide +kernel
theorem dX7_lot_56 : decode cX7_lot 56 = .ok (.iload_n 1, 1) := by decide +kernel
theorem dX7_lot_57 : decode cX7_lot 57 = .ok (.iload_n 2, 1) := by decide +kernel
theorem dX7_lot_58 : decode cX7_lot 58 = .ok (.iastore, 1) := by decide +kernel
theorem dX7_lot_59 : decode cX7_lot 59 = .ok (.aload_n 0, 1) := by decide +kernel
theorem dX7_lot_60 : decode cX7_lot 60 = .ok (.getfield 10, 3) := by decide +kernel
theorem dX7_lot_63 : decode cX7_lot 63 = .ok (.getfield 80, 3) := by decide +kernel
theorem dX7_lot_66 : decode cX7_lot 66 = .ok (.iload_n 1, 1) := by decide +kernel
theorem dX7_lot_67 : decode cX7_lot 67 = .ok (.iload_n 3, 1) := by decide +kernel
theorem dX7_lot_68 : decode cX7_lot 68 = .ok (.iastore, 1) := by decide +kernel
theorem dX7_lot_69 : decode cX7_lot 69 = .ok (.iload 4, 2) := by decide +kernel
theorem dX7_lot_71 : decode cX7_lot 71 = .ok (.ireturn, 1) := by decide +kernel
theorem dX7_set_0 : decode cX7_set 0 = .ok (.iload_n 1, 1) := by decide +kernel
theorem dX7_set_1 : decode cX7_set 1 = .ok (.iconst 0, 1) := by decide +kernel
theorem dX7_set_2 : decode cX7_set 2 = .ok (.iconst 1, 1) := by decide +kernel
theorem dX7_set_3 : decode cX7_set 3 = .ok (.invokestatic 62, 3) := by decide +kernel
theorem dX7_set_6 : decode cX7_set 6 = .ok (.ifCond .eq 13, 3) := by decide +kernel
theorem dX7_set_9 : decode cX7_set 9 = .ok (.iload_n 2, 1) := by decide +kernel
theorem dX7_set_10 : decode cX7_set 10 = .ok (.iconst 0, 1) := by decide +kernel
theorem dX7_set_11 : decode cX7_set 11 = .ok (.ldc 83, 2) := by decide +kernel
theorem dX7_set_13 : decode cX7_set 13 = .ok (.invokestatic 62, 3) := by decide +kernel
theorem dX7_set_16 : decode cX7_set 16 = .ok (.ifCond .ne 6, 3) := by decide +kernel
theorem dX7_set_19 : decode cX7_set 19 = .ok (.bipush (-2), 2) := by decide +kernel
theorem dX7_set_21 : decode cX7_set 21 = .ok (.ireturn, 1) := by decide +kernel
theorem dX7_set_22 : decode cX7_set 22 = .ok (.iload_n 1, 1) := by decide +kernel
theorem dX7_set_23 : decode cX7_set 23 = .ok (.ifCond .ne 22, 3) := by decide +kernel
theorem dX7_set_26 : decode cX7_set 26 = .ok (.aload_n 0, 1) := by decide +kernel
theorem dX7_set_27 : decode cX7_set 27 = .ok (.getfield 10, 3) := by decide +kernel
theorem dX7_set_30 : decode cX7_set 30 = .ok (.getfield 84, 3) := by decide +kernel
theorem dX7_set_33 : decode cX7_set 33 = .ok (.istore_n 3, 1) := by decide +kernel
theorem dX7_set_34 : decode cX7_set 34 = .ok (.aload_n 0, 1) := by decide +kernel
theorem dX7_set_35 : decode cX7_set 35 = .ok (.getfield 10, 3) := by decide +kernel
theorem dX7_set_38 : decode cX7_set 38 = .ok (.iload_n 2, 1) := by decide +kernel
theorem dX7_set_39 : decode cX7_set 39 = .ok (.putfield 84, 3) := by decide +kernel
theorem dX7_set_42 : decode cX7_set 42 = .ok (.goto 19, 3) := by decide +kernel
theorem dX7_set_45 : decode cX7_set 45 = .ok (.aload_n 0, 1) := by decide +kernel
theorem dX7_set_46 : decode cX7_set 46 = .ok (.getfield 10, 3) := by decide +kernel
theorem dX7_set_49 : decode cX7_set 49 = .ok (.getfield 88, 3) := by decide +kernel
theorem dX7_set_52 : decode cX7_set 52 = .ok (.istore_n 3, 1) := by decide +kernel
theorem dX7_set_53 : decode cX7_set 53 = .ok (.aload_n 0, 1) := by decide +kernel
theorem dX7_set_54 : decode cX7_set 54 = .ok (.getfield 10, 3) := by decide +kernel
theorem dX7_set_57 : decode cX7_set 57 = .ok (.iload_n 2, 1) := by decide +kernel
theorem dX7_set_58 : decode cX7_set 58 = .ok (.putfield 88, 3) := by decide +kernel
theorem dX7_set_61 : decode cX7_set 61 = .ok (.iload_n 3, 1) := by decide +kernel
theorem dX7_set_62 : decode cX7_set 62 = .ok (.ireturn, 1) := by decide +kernel
theorem dX7_say_0 : decode cX7_say 0 = .ok (.iload_n 1, 1) := by decide +kernel
theorem dX7_say_1 : decode cX7_say 1 = .ok (.bipush 33, 2) := by decide +kernel
theorem dX7_say_3 : decode cX7_say 3 = .ok (.bipush 126, 2) := by decide +kernel
theorem dX7_say_5 : decode cX7_say 5 = .ok (.invokestatic 62, 3) := by decide +kernel
theorem dX7_say_8 : decode cX7_say 8 = .ok (.ifCond .ne 6, 3) := by decide +kernel
theorem dX7_say_11 : decode cX7_say 11 = .ok (.bipush (-2), 2) := by decide +kernel
theorem dX7_say_13 : decode cX7_say 13 = .ok (.ireturn, 1) := by decide +kernel
theorem dX7_say_14 : decode cX7_say 14 = .ok (.aload_n 0, 1) := by decide +kernel
theorem dX7_say_15 : decode cX7_say 15 = .ok (.getfield 26, 3) := by decide +kernel
theorem dX7_say_18 : decode cX7_say 18 = .ok (.getfield 91, 3) := by decide +kernel
theorem dX7_say_21 : decode cX7_say 21 = .ok (.bipush 60, 2) := by decide +kernel
theorem dX7_say_23 : decode cX7_say 23 = .ok (.if_icmp .ne 6, 3) := by decide +kernel
theorem dX7_say_26 : decode cX7_say 26 = .ok (.bipush (-4), 2) := by decide +kernel
theorem dX7_say_28 : decode cX7_say 28 = .ok (.ireturn, 1) := by decide +kernel
theorem dX7_say_29 : decode cX7_say 29 = .ok (.aload_n 0, 1) := by decide +kernel
theorem dX7_say_30 : decode cX7_say 30 = .ok (.getfield 26, 3) := by decide +kernel
theorem dX7_say_33 : decode cX7_say 33 = .ok (.iload_n 1, 1) := by decide +kernel
theorem dX7_say_34 : decode cX7_say 34 = .ok (.invokevirtual 94, 3) := by decide +kernel
theorem dX7_say_37 : decode cX7_say 37 = .ok (.aload_n 0, 1) := by decide +kernel
theorem dX7_say_38 : decode cX7_say 38 = .ok (.getfield 26, 3) := by decide +kernel
theorem dX7_say_41 : decode cX7_say 41 = .ok (.getfield 91, 3) := by decide +kernel
theorem dX7_say_44 : decode cX7_say 44 = .ok (.ireturn, 1) := by decide +kernel
theorem dX7_wipe_0 : decode cX7_wipe 0 = .ok (.aload_n 0, 1) := by decide +kernel
theorem dX7_wipe_1 : decode cX7_wipe 1 = .ok (.getfield 26, 3) := by decide +kernel
theorem dX7_wipe_4 : decode cX7_wipe 4 = .ok (.getfield 91, 3) := by decide +kernel
theorem dX7_wipe_7 : decode cX7_wipe 7 = .ok (.istore_n 1, 1) := by decide +kernel
theorem dX7_wipe_8 : decode cX7_wipe 8 = .ok (.aload_n 0, 1) := by decide +kernel
theorem dX7_wipe_9 : decode cX7_wipe 9 = .ok (.getfield 26, 3) := by decide +kernel
theorem dX7_wipe_12 : decode cX7_wipe 12 = .ok (.iconst 0, 1) := by decide +kernel
theorem dX7_wipe_13 : decode cX7_wipe 13 = .ok (.putfield 91, 3) := by decide +kernel
theorem dX7_wipe_16 : decode cX7_wipe 16 = .ok (.iload_n 1, 1) := by decide +kernel
theorem dX7_wipe_17 : decode cX7_wipe 17 = .ok (.ireturn, 1) := by decide +kernel
theorem dX7_fault_0 : decode cX7_fault 0 = .ok (.aload_n 0, 1) := by decide +kernel
theorem dX7_fault_1 : decode cX7_fault 1 = .ok (.getfield 26, 3) := by decide +kernel
theorem dX7_fault_4 : decode cX7_fault 4 = .ok (.invokevirtual 98, 3) := by decide +kernel
theorem dX7_fault_7 : decode cX7_fault 7 = .ok (.ireturn, 1) := by decide +kernel
theorem dX7_judge_0 : decode cX7_judge 0 = .ok (.iload_n 1, 1) := by decide +kernel
theorem dX7_judge_1 : decode cX7_judge 1 = .ok (.iconst 0, 1) := by decide +kernel
theorem dX7_judge_2 : decode cX7_judge 2 = .ok (.iconst 2, 1) := by decide +kernel
theorem dX7_judge_3 : decode cX7_judge 3 = .ok (.invokestatic 62, 3) := by decide +kernel
theorem dX7_judge_6 : decode cX7_judge 6 = .ok (.ifCond .ne 6, 3) := by decide +kernel
theorem dX7_judge_9 : decode cX7_judge 9 = .ok (.bipush (-2), 2) := by decide +kernel
theorem dX7_judge_11 : decode cX7_judge 11 = .ok (.ireturn, 1) := by decide +kernel
theorem dX7_judge_12 : decode cX7_judge 12 = .ok (.aload_n 0, 1) := by decide +kernel
theorem dX7_judge_13 : decode cX7_judge 13 = .ok (.iconst 0, 1) := by decide +kernel
theorem dX7_judge_14 : decode cX7_judge 14 = .ok (.invokevirtual 102, 3) := by decide +kernel
theorem dX7_judge_17 : decode cX7_judge 17 = .ok (.istore_n 2, 1) := by decide +kernel
theorem dX7_judge_18 : decode cX7_judge 18 = .ok (.iload_n 2, 1) := by decide +kernel
theorem dX7_judge_19 : decode cX7_judge 19 = .ok (.bipush (-5), 2) := by decide +kernel
theorem dX7_judge_21 : decode cX7_judge 21 = .ok (.if_icmp .eq 14, 3) := by decide +kernel
theorem dX7_judge_24 : decode cX7_judge 24 = .ok (.iload_n 1, 1) := by decide +kernel
theorem dX7_judge_25 : decode cX7_judge 25 = .ok (.iconst 2, 1) := by decide +kernel
theorem dX7_judge_26 : decode cX7_judge 26 = .ok (.if_icmp .ne 11, 3) := by decide +kernel
theorem dX7_judge_29 : decode cX7_judge 29 = .ok (.iload_n 2, 1) := by decide +kernel
theorem dX7_judge_30 : decode cX7_judge 30 = .ok (.bipush (-3), 2) := by decide +kernel
theorem dX7_judge_32 : decode cX7_judge 32 = .ok (.if_icmp .ne 5, 3) := by decide +kernel
theorem dX7_judge_35 : decode cX7_judge 35 = .ok (.iload_n 2, 1) := by decide +kernel
theorem dX7_judge_36 : decode cX7_judge 36 = .ok (.ireturn, 1) := by decide +kernel
theorem dX7_judge_37 : decode cX7_judge 37 = .ok (.iload_n 1, 1) := by decide +kernel
theorem dX7_judge_38 : decode cX7_judge 38 = .ok (.iconst 2, 1) := by decide +kernel
theorem dX7_judge_39 : decode cX7_judge 39 = .ok (.if_icmp .ne 11, 3) := by decide +kernel
theorem dX7_judge_42 : decode cX7_judge 42 = .ok (.aload_n 0, 1) := by decide +kernel
theorem dX7_judge_43 : decode cX7_judge 43 = .ok (.getfield 33, 3) := by decide +kernel
theorem dX7_judge_46 : decode cX7_judge 46 = .ok (.getfield 106, 3) := by decide +kernel
theorem dX7_judge_49 : decode cX7_judge 49 = .ok (.ireturn, 1) := by decide +kernel
theorem dX7_judge_50 : decode cX7_judge 50 = .ok (.aload_n 0, 1) := by decide +kernel
theorem dX7_judge_51 : decode cX7_judge 51 = .ok (.getfield 33, 3) := by decide +kernel
theorem dX7_judge_54 : decode cX7_judge 54 = .ok (.getfield 109, 3) := by decide +kernel
theorem dX7_judge_57 : decode cX7_judge 57 = .ok (.ifCond .ne 6, 3) := by decide +kernel
theorem dX7_judge_60 : decode cX7_judge 60 = .ok (.bipush (-6), 2) := by decide +kernel
theorem dX7_judge_62 : decode cX7_judge 62 = .ok (.ireturn, 1) := by decide +kernel
theorem dX7_judge_63 : decode cX7_judge 63 = .ok (.iload_n 1, 1) := by decide +kernel
theorem dX7_judge_64 : decode cX7_judge 64 = .ok (.ifCond .ne 13, 3) := by decide +kernel
theorem dX7_judge_67 : decode cX7_judge 67 = .ok (.aload_n 0, 1) := by decide +kernel
theorem dX7_judge_68 : decode cX7_judge 68 = .ok (.getfield 33, 3) := by decide +kernel
theorem dX7_judge_71 : decode cX7_judge 71 = .ok (.getfield 112, 3) := by decide +kernel
theorem dX7_judge_74 : decode cX7_judge 74 = .ok (.goto 10, 3) := by decide +kernel
theorem dX7_judge_77 : decode cX7_judge 77 = .ok (.aload_n 0, 1) := by decide +kernel
theorem dX7_judge_78 : decode cX7_judge 78 = .ok (.getfield 33, 3) := by decide +kernel
theorem dX7_judge_81 : decode cX7_judge 81 = .ok (.getfield 109, 3) := by decide +kernel
theorem dX7_judge_84 : decode cX7_judge 84 = .ok (.ireturn, 1) := by decide +kernel
theorem dX7_behind_0 : decode cX7_behind 0 = .ok (.iload_n 1, 1) := by decide +kernel
theorem dX7_behind_1 : decode cX7_behind 1 = .ok (.invokestatic 58, 3) := by decide +kernel
theorem dX7_behind_4 : decode cX7_behind 4 = .ok (.ifCond .ne 5, 3) := by decide +kernel
theorem dX7_behind_7 : decode cX7_behind 7 = .ok (.iconst (-1), 1) := by decide +kernel
theorem dX7_behind_8 : decode cX7_behind 8 = .ok (.ireturn, 1) := by decide +kernel
theorem dX7_behind_9 : decode cX7_behind 9 = .ok (.iload_n 2, 1) := by decide +kernel
theorem dX7_behind_10 : decode cX7_behind 10 = .ok (.iconst 0, 1) := by decide +kernel
theorem dX7_behind_11 : decode cX7_behind 11 = .ok (.iconst 3, 1) := by decide +kernel
theorem dX7_behind_12 : decode cX7_behind 12 = .ok (.invokestatic 62, 3) := by decide +kernel
theorem dX7_behind_15 : decode cX7_behind 15 = .ok (.ifCond .ne 6, 3) := by decide +kernel
theorem dX7_behind_18 : decode cX7_behind 18 = .ok (.bipush (-2), 2) := by decide +kernel
theorem dX7_behind_20 : decode cX7_behind 20 = .ok (.ireturn, 1) := by decide +kernel
theorem dX7_behind_21 : decode cX7_behind 21 = .ok (.aload_n 0, 1) := by decide +kernel
theorem dX7_behind_22 : decode cX7_behind 22 = .ok (.iconst 0, 1) := by decide +kernel
theorem dX7_behind_23 : decode cX7_behind 23 = .ok (.invokevirtual 102, 3) := by decide +kernel
theorem dX7_behind_26 : decode cX7_behind 26 = .ok (.istore_n 3, 1) := by decide +kernel
theorem dX7_behind_27 : decode cX7_behind 27 = .ok (.iload_n 3, 1) := by decide +kernel
theorem dX7_behind_28 : decode cX7_behind 28 = .ok (.ifCond .eq 7, 3) := by decide +kernel
theorem dX7_behind_31 : decode cX7_behind 31 = .ok (.iload_n 3, 1) := by decide +kernel
theorem dX7_behind_32 : decode cX7_behind 32 = .ok (.goto 15, 3) := by decide +kernel
theorem dX7_behind_35 : decode cX7_behind 35 = .ok (.aload_n 0, 1) := by decide +kernel
theorem dX7_behind_36 : decode cX7_behind 36 = .ok (.getfield 33, 3) := by decide +kernel
theorem dX7_behind_39 : decode cX7_behind 39 = .ok (.getfield 115, 3) := by decide +kernel
theorem dX7_behind_42 : decode cX7_behind 42 = .ok (.iload_n 1, 1) := by decide +kernel
theorem dX7_behind_43 : decode cX7_behind 43 = .ok (.iload_n 2, 1) := by decide +kernel
theorem dX7_behind_44 : decode cX7_behind 44 = .ok (.invokevirtual 118, 3) := by decide +kernel
theorem dX7_behind_47 : decode cX7_behind 47 = .ok (.ireturn, 1) := by decide +kernel
theorem dX7_total_0 : decode cX7_total 0 = .ok (.iload_n 1, 1) := by decide +kernel
theorem dX7_total_1 : decode cX7_total 1 = .ok (.iconst 0, 1) := by decide +kernel
theorem dX7_total_2 : decode cX7_total 2 = .ok (.iconst 5, 1) := by decide +kernel
theorem dX7_total_3 : decode cX7_total 3 = .ok (.invokestatic 62, 3) := by decide +kernel
theorem dX7_total_6 : decode cX7_total 6 = .ok (.ifCond .ne 6, 3) := by decide +kernel
theorem dX7_total_9 : decode cX7_total 9 = .ok (.bipush (-2), 2) := by decide +kernel
theorem dX7_total_11 : decode cX7_total 11 = .ok (.ireturn, 1) := by decide +kernel
theorem dX7_total_12 : decode cX7_total 12 = .ok (.aload_n 0, 1) := by decide +kernel
theorem dX7_total_13 : decode cX7_total 13 = .ok (.iconst 0, 1) := by decide +kernel
theorem dX7_total_14 : decode cX7_total 14 = .ok (.invokevirtual 102, 3) := by decide +kernel
theorem dX7_total_17 : decode cX7_total 17 = .ok (.istore_n 2, 1) := by decide +kernel
theorem dX7_total_18 : decode cX7_total 18 = .ok (.iload_n 2, 1) := by decide +kernel
theorem dX7_total_19 : decode cX7_total 19 = .ok (.ifCond .eq 5, 3) := by decide +kernel
theorem dX7_total_22 : decode cX7_total 22 = .ok (.iload_n 2, 1) := by decide +kernel
theorem dX7_total_23 : decode cX7_total 23 = .ok (.ireturn, 1) := by decide +kernel
theorem dX7_total_24 : decode cX7_total 24 = .ok (.iload_n 1, 1) := by decide +kernel
theorem dX7_total_25 : decode cX7_total 25 = .ok (.tableswitch 90 0 4 #[35, 46, 57, 68, 79], 35) := by decide +kernel
theorem dX7_total_60 : decode cX7_total 60 = .ok (.aload_n 0, 1) := by decide +kernel
theorem dX7_total_61 : decode cX7_total 61 = .ok (.getfield 33, 3) := by decide +kernel
theorem dX7_total_64 : decode cX7_total 64 = .ok (.getfield 115, 3) := by decide +kernel
theorem dX7_total_67 : decode cX7_total 67 = .ok (.invokevirtual 122, 3) := by decide +kernel
theorem dX7_total_70 : decode cX7_total 70 = .ok (.ireturn, 1) := by decide +kernel
theorem dX7_total_71 : decode cX7_total 71 = .ok (.aload_n 0, 1) := by decide +kernel
theorem dX7_total_72 : decode cX7_total 72 = .ok (.getfield 33, 3) := by decide +kernel
theorem dX7_total_75 : decode cX7_total 75 = .ok (.getfield 115, 3) := by decide +kernel
theorem dX7_total_78 : decode cX7_total 78 = .ok (.invokevirtual 125, 3) := by decide +kernel
theorem dX7_total_81 : decode cX7_total 81 = .ok (.ireturn, 1) := by decide +kernel
theorem dX7_total_82 : decode cX7_total 82 = .ok (.aload_n 0, 1) := by decide +kernel
theorem dX7_total_83 : decode cX7_total 83 = .ok (.getfield 33, 3) := by decide +kernel
theorem dX7_total_86 : decode cX7_total 86 = .ok (.getfield 115, 3) := by decide +kernel
theorem dX7_total_89 : decode cX7_total 89 = .ok (.invokevirtual 128, 3) := by decide +kernel
theorem dX7_total_92 : decode cX7_total 92 = .ok (.ireturn, 1) := by decide +kernel
theorem dX7_total_93 : decode cX7_total 93 = .ok (.aload_n 0, 1) := by decide +kernel
theorem dX7_total_94 : decode cX7_total 94 = .ok (.getfield 33, 3) := by decide +kernel
theorem dX7_total_97 : decode cX7_total 97 = .ok (.getfield 115, 3) := by decide +kernel
theorem dX7_total_100 : decode cX7_total 100 = .ok (.getfield 131, 3) := by decide +kernel
theorem dX7_total_103 : decode cX7_total 103 = .ok (.ireturn, 1) := by decide +kernel
theorem dX7_total_104 : decode cX7_total 104 = .ok (.aload_n 0, 1) := by decide +kernel
theorem dX7_total_105 : decode cX7_total 105 = .ok (.getfield 33, 3) := by decide +kernel
theorem dX7_total_108 : decode cX7_total 108 = .ok (.getfield 115, 3) := by decide +kernel
theorem dX7_total_111 : decode cX7_total 111 = .ok (.getfield 88, 3) := by decide +kernel
theorem dX7_total_114 : decode cX7_total 114 = .ok (.ireturn, 1) := by decide +kernel
theorem dX7_total_115 : decode cX7_total 115 = .ok (.aload_n 0, 1) := by decide +kernel
theorem dX7_total_116 : decode cX7_total 116 = .ok (.getfield 33, 3) := by decide +kernel
theorem dX7_total_119 : decode cX7_total 119 = .ok (.getfield 115, 3) := by decide +kernel
theorem dX7_total_122 : decode cX7_total 122 = .ok (.getfield 134, 3) := by decide +kernel
theorem dX7_total_125 : decode cX7_total 125 = .ok (.ireturn, 1) := by decide +kernel
theorem dX7_fell_0 : decode cX7_fell 0 = .ok (.iload_n 1, 1) := by decide +kernel
theorem dX7_fell_1 : decode cX7_fell 1 = .ok (.iconst 0, 1) := by decide +kernel
theorem dX7_fell_2 : decode cX7_fell 2 = .ok (.bipush 100, 2) := by decide +kernel
theorem dX7_fell_4 : decode cX7_fell 4 = .ok (.invokestatic 62, 3) := by decide +kernel
theorem dX7_fell_7 : decode cX7_fell 7 = .ok (.ifCond .ne 6, 3) := by decide +kernel
theorem dX7_fell_10 : decode cX7_fell 10 = .ok (.bipush (-2), 2) := by decide +kernel
theorem dX7_fell_12 : decode cX7_fell 12 = .ok (.ireturn, 1) := by decide +kernel
theorem dX7_fell_13 : decode cX7_fell 13 = .ok (.aload_n 0, 1) := by decide +kernel
theorem dX7_fell_14 : decode cX7_fell 14 = .ok (.iload_n 1, 1) := by decide +kernel
theorem dX7_fell_15 : decode cX7_fell 15 = .ok (.invokevirtual 102, 3) := by decide +kernel
theorem dX7_fell_18 : decode cX7_fell 18 = .ok (.istore_n 2, 1) := by decide +kernel
theorem dX7_fell_19 : decode cX7_fell 19 = .ok (.iload_n 2, 1) := by decide +kernel
theorem dX7_fell_20 : decode cX7_fell 20 = .ok (.ifCond .eq 7, 3) := by decide +kernel
theorem dX7_fell_23 : decode cX7_fell 23 = .ok (.iload_n 2, 1) := by decide +kernel
theorem dX7_fell_24 : decode cX7_fell 24 = .ok (.goto 10, 3) := by decide +kernel
theorem dX7_fell_27 : decode cX7_fell 27 = .ok (.aload_n 0, 1) := by decide +kernel
theorem dX7_fell_28 : decode cX7_fell 28 = .ok (.getfield 33, 3) := by decide +kernel
theorem dX7_fell_31 : decode cX7_fell 31 = .ok (.getfield 137, 3) := by decide +kernel
theorem dX7_fell_34 : decode cX7_fell 34 = .ok (.ireturn, 1) := by decide +kernel
theorem dX7_done_0 : decode cX7_done 0 = .ok (.aload_n 0, 1) := by decide +kernel
theorem dX7_done_1 : decode cX7_done 1 = .ok (.iconst 0, 1) := by decide +kernel
theorem dX7_done_2 : decode cX7_done 2 = .ok (.invokevirtual 102, 3) := by decide +kernel
theorem dX7_done_5 : decode cX7_done 5 = .ok (.istore_n 1, 1) := by decide +kernel
theorem dX7_done_6 : decode cX7_done 6 = .ok (.iload_n 1, 1) := by decide +kernel
theorem dX7_done_7 : decode cX7_done 7 = .ok (.ifCond .eq 5, 3) := by decide +kernel
theorem dX7_done_10 : decode cX7_done 10 = .ok (.iload_n 1, 1) := by decide +kernel
theorem dX7_done_11 : decode cX7_done 11 = .ok (.ireturn, 1) := by decide +kernel
theorem dX7_done_12 : decode cX7_done 12 = .ok (.aload_n 0, 1) := by decide +kernel
theorem dX7_done_13 : decode cX7_done 13 = .ok (.getfield 10, 3) := by decide +kernel
theorem dX7_done_16 : decode cX7_done 16 = .ok (.aload_n 0, 1) := by decide +kernel
theorem dX7_done_17 : decode cX7_done 17 = .ok (.getfield 33, 3) := by decide +kernel
theorem dX7_done_20 : decode cX7_done 20 = .ok (.getfield 115, 3) := by decide +kernel
theorem dX7_done_23 : decode cX7_done 23 = .ok (.invokevirtual 140, 3) := by decide +kernel
theorem dX7_done_26 : decode cX7_done 26 = .ok (.aload_n 0, 1) := by decide +kernel
theorem dX7_done_27 : decode cX7_done 27 = .ok (.getfield 26, 3) := by decide +kernel
theorem dX7_done_30 : decode cX7_done 30 = .ok (.iconst 0, 1) := by decide +kernel
theorem dX7_done_31 : decode cX7_done 31 = .ok (.putfield 91, 3) := by decide +kernel
theorem dX7_done_34 : decode cX7_done 34 = .ok (.aload_n 0, 1) := by decide +kernel
theorem dX7_done_35 : decode cX7_done 35 = .ok (.getfield 33, 3) := by decide +kernel
theorem dX7_done_38 : decode cX7_done 38 = .ok (.getfield 112, 3) := by decide +kernel
theorem dX7_done_41 : decode cX7_done 41 = .ok (.ireturn, 1) := by decide +kernel
theorem dX7_struck_0 : decode cX7_struck 0 = .ok (.iload_n 1, 1) := by decide +kernel
theorem dX7_struck_1 : decode cX7_struck 1 = .ok (.iconst 0, 1) := by decide +kernel
theorem dX7_struck_2 : decode cX7_struck 2 = .ok (.iconst 1, 1) := by decide +kernel
theorem dX7_struck_3 : decode cX7_struck 3 = .ok (.invokestatic 62, 3) := by decide +kernel
theorem dX7_struck_6 : decode cX7_struck 6 = .ok (.ifCond .ne 6, 3) := by decide +kernel
theorem dX7_struck_9 : decode cX7_struck 9 = .ok (.bipush (-2), 2) := by decide +kernel
theorem dX7_struck_11 : decode cX7_struck 11 = .ok (.ireturn, 1) := by decide +kernel
theorem dX7_struck_12 : decode cX7_struck 12 = .ok (.aload_n 0, 1) := by decide +kernel
theorem dX7_struck_13 : decode cX7_struck 13 = .ok (.getfield 40, 3) := by decide +kernel
theorem dX7_struck_16 : decode cX7_struck 16 = .ok (.aload_n 0, 1) := by decide +kernel
theorem dX7_struck_17 : decode cX7_struck 17 = .ok (.getfield 10, 3) := by decide +kernel
theorem dX7_struck_20 : decode cX7_struck 20 = .ok (.invokevirtual 144, 3) := by decide +kernel
theorem dX7_struck_23 : decode cX7_struck 23 = .ok (.iload_n 1, 1) := by decide +kernel
theorem dX7_struck_24 : decode cX7_struck 24 = .ok (.ifCond .ne 13, 3) := by decide +kernel
theorem dX7_struck_27 : decode cX7_struck 27 = .ok (.aload_n 0, 1) := by decide +kernel
theorem dX7_struck_28 : decode cX7_struck 28 = .ok (.getfield 40, 3) := by decide +kernel
theorem dX7_struck_31 : decode cX7_struck 31 = .ok (.invokevirtual 147, 3) := by decide +kernel
theorem dX7_struck_34 : decode cX7_struck 34 = .ok (.goto 10, 3) := by decide +kernel
theorem dX7_struck_37 : decode cX7_struck 37 = .ok (.aload_n 0, 1) := by decide +kernel
theorem dX7_struck_38 : decode cX7_struck 38 = .ok (.getfield 40, 3) := by decide +kernel
theorem dX7_struck_41 : decode cX7_struck 41 = .ok (.invokevirtual 150, 3) := by decide +kernel
theorem dX7_struck_44 : decode cX7_struck 44 = .ok (.ireturn, 1) := by decide +kernel
theorem dX7_tryMonths_0 : decode cX7_tryMonths 0 = .ok (.aload_n 0, 1) := by decide +kernel
theorem dX7_tryMonths_1 : decode cX7_tryMonths 1 = .ok (.getfield 26, 3) := by decide +kernel
theorem dX7_tryMonths_4 : decode cX7_tryMonths 4 = .ok (.invokevirtual 98, 3) := by decide +kernel
theorem dX7_tryMonths_7 : decode cX7_tryMonths 7 = .ok (.bipush (-6), 2) := by decide +kernel
theorem dX7_tryMonths_9 : decode cX7_tryMonths 9 = .ok (.if_icmp .eq 6, 3) := by decide +kernel
theorem dX7_tryMonths_12 : decode cX7_tryMonths 12 = .ok (.bipush (-5), 2) := by decide +kernel
theorem dX7_tryMonths_14 : decode cX7_tryMonths 14 = .ok (.ireturn, 1) := by decide +kernel
theorem dX7_tryMonths_15 : decode cX7_tryMonths 15 = .ok (.aload_n 0, 1) := by decide +kernel
theorem dX7_tryMonths_16 : decode cX7_tryMonths 16 = .ok (.getfield 33, 3) := by decide +kernel
theorem dX7_tryMonths_19 : decode cX7_tryMonths 19 = .ok (.aload_n 0, 1) := by decide +kernel
theorem dX7_tryMonths_20 : decode cX7_tryMonths 20 = .ok (.getfield 26, 3) := by decide +kernel
theorem dX7_tryMonths_23 : decode cX7_tryMonths 23 = .ok (.aload_n 0, 1) := by decide +kernel
theorem dX7_tryMonths_24 : decode cX7_tryMonths 24 = .ok (.getfield 10, 3) := by decide +kernel
theorem dX7_tryMonths_27 : decode cX7_tryMonths 27 = .ok (.iload_n 1, 1) := by decide +kernel
theorem dX7_tryMonths_28 : decode cX7_tryMonths 28 = .ok (.invokevirtual 153, 3) := by decide +kernel
theorem dX7_tryMonths_31 : decode cX7_tryMonths 31 = .ok (.aload_n 0, 1) := by decide +kernel
theorem dX7_tryMonths_32 : decode cX7_tryMonths 32 = .ok (.getfield 33, 3) := by decide +kernel
theorem dX7_tryMonths_35 : decode cX7_tryMonths 35 = .ok (.getfield 109, 3) := by decide +kernel
theorem dX7_tryMonths_38 : decode cX7_tryMonths 38 = .ok (.ifCond .ne 7, 3) := by decide +kernel
theorem dX7_tryMonths_41 : decode cX7_tryMonths 41 = .ok (.iconst 0, 1) := by decide +kernel
theorem dX7_tryMonths_42 : decode cX7_tryMonths 42 = .ok (.goto 5, 3) := by decide +kernel
theorem dX7_tryMonths_45 : decode cX7_tryMonths 45 = .ok (.bipush (-3), 2) := by decide +kernel
theorem dX7_tryMonths_47 : decode cX7_tryMonths 47 = .ok (.ireturn, 1) := by decide +kernel
theorem dX7_prints_0 : decode cX7_prints 0 = .ok (.iload_n 1, 1) := by decide +kernel
theorem dX7_prints_1 : decode cX7_prints 1 = .ok (.iconst 1, 1) := by decide +kernel
theorem dX7_prints_2 : decode cX7_prints 2 = .ok (.bipush 100, 2) := by decide +kernel
theorem dX7_prints_4 : decode cX7_prints 4 = .ok (.invokestatic 62, 3) := by decide +kernel
theorem dX7_prints_7 : decode cX7_prints 7 = .ok (.ifCond .ne 6, 3) := by decide +kernel
theorem dX7_prints_10 : decode cX7_prints 10 = .ok (.bipush (-2), 2) := by decide +kernel
theorem dX7_prints_12 : decode cX7_prints 12 = .ok (.ireturn, 1) := by decide +kernel
theorem dX7_prints_13 : decode cX7_prints 13 = .ok (.bipush 100, 2) := by decide +kernel
theorem dX7_prints_15 : decode cX7_prints 15 = .ok (.aload_n 0, 1) := by decide +kernel
theorem dX7_prints_16 : decode cX7_prints 16 = .ok (.getfield 10, 3) := by decide +kernel
theorem dX7_prints_19 : decode cX7_prints 19 = .ok (.invokevirtual 125, 3) := by decide +kernel
theorem dX7_prints_22 : decode cX7_prints 22 = .ok (.imul, 1) := by decide +kernel
theorem dX7_prints_23 : decode cX7_prints 23 = .ok (.iload_n 1, 1) := by decide +kernel
theorem dX7_prints_24 : decode cX7_prints 24 = .ok (.idiv, 1) := by decide +kernel
theorem dX7_prints_25 : decode cX7_prints 25 = .ok (.istore_n 2, 1) := by decide +kernel
theorem dX7_prints_26 : decode cX7_prints 26 = .ok (.aload_n 0, 1) := by decide +kernel
theorem dX7_prints_27 : decode cX7_prints 27 = .ok (.getfield 10, 3) := by decide +kernel
theorem dX7_prints_30 : decode cX7_prints 30 = .ok (.invokevirtual 122, 3) := by decide +kernel
theorem dX7_prints_33 : decode cX7_prints 33 = .ok (.istore_n 3, 1) := by decide +kernel
theorem dX7_prints_34 : decode cX7_prints 34 = .ok (.iload_n 3, 1) := by decide +kernel
theorem dX7_prints_35 : decode cX7_prints 35 = .ok (.iload_n 2, 1) := by decide +kernel
theorem dX7_prints_36 : decode cX7_prints 36 = .ok (.if_icmp .le 8, 3) := by decide +kernel
theorem dX7_prints_39 : decode cX7_prints 39 = .ok (.bipush (-6), 2) := by decide +kernel
theorem dX7_prints_41 : decode cX7_prints 41 = .ok (.goto 15, 3) := by decide +kernel
theorem dX7_prints_44 : decode cX7_prints 44 = .ok (.sipush 999, 3) := by decide +kernel
theorem dX7_prints_47 : decode cX7_prints 47 = .ok (.iload_n 2, 1) := by decide +kernel
theorem dX7_prints_48 : decode cX7_prints 48 = .ok (.iload_n 3, 1) := by decide +kernel
theorem dX7_prints_49 : decode cX7_prints 49 = .ok (.isub, 1) := by decide +kernel
theorem dX7_prints_50 : decode cX7_prints 50 = .ok (.bipush 100, 2) := by decide +kernel
theorem dX7_prints_52 : decode cX7_prints 52 = .ok (.idiv, 1) := by decide +kernel
theorem dX7_prints_53 : decode cX7_prints 53 = .ok (.invokestatic 157, 3) := by decide +kernel
theorem dX7_prints_56 : decode cX7_prints 56 = .ok (.ireturn, 1) := by decide +kernel
theorem dX7_buys_0 : decode cX7_buys 0 = .ok (.iload_n 1, 1) := by decide +kernel
theorem dX7_buys_1 : decode cX7_buys 1 = .ok (.iconst 0, 1) := by decide +kernel
theorem dX7_buys_2 : decode cX7_buys 2 = .ok (.sipush 9999, 3) := by decide +kernel
theorem dX7_buys_5 : decode cX7_buys 5 = .ok (.invokestatic 62, 3) := by decide +kernel
theorem dX7_buys_8 : decode cX7_buys 8 = .ok (.ifCond .eq 12, 3) := by decide +kernel
theorem dX7_buys_11 : decode cX7_buys 11 = .ok (.iload_n 2, 1) := by decide +kernel
theorem dX7_buys_12 : decode cX7_buys 12 = .ok (.iconst 0, 1) := by decide +kernel
theorem dX7_buys_13 : decode cX7_buys 13 = .ok (.iconst 1, 1) := by decide +kernel
theorem dX7_buys_14 : decode cX7_buys 14 = .ok (.invokestatic 62, 3) := by decide +kernel
theorem dX7_buys_17 : decode cX7_buys 17 = .ok (.ifCond .ne 6, 3) := by decide +kernel
theorem dX7_buys_20 : decode cX7_buys 20 = .ok (.bipush (-2), 2) := by decide +kernel
theorem dX7_buys_22 : decode cX7_buys 22 = .ok (.ireturn, 1) := by decide +kernel
theorem dX7_buys_23 : decode cX7_buys 23 = .ok (.aload_n 0, 1) := by decide +kernel
theorem dX7_buys_24 : decode cX7_buys 24 = .ok (.getfield 10, 3) := by decide +kernel
theorem dX7_buys_27 : decode cX7_buys 27 = .ok (.iconst (-1), 1) := by decide +kernel
theorem dX7_buys_28 : decode cX7_buys 28 = .ok (.invokevirtual 162, 3) := by decide +kernel
theorem dX7_buys_31 : decode cX7_buys 31 = .ok (.istore_n 3, 1) := by decide +kernel
theorem dX7_buys_32 : decode cX7_buys 32 = .ok (.iconst 0, 1) := by decide +kernel
theorem dX7_buys_33 : decode cX7_buys 33 = .ok (.istore 4, 2) := by decide +kernel
theorem dX7_buys_35 : decode cX7_buys 35 = .ok (.iconst 0, 1) := by decide +kernel
theorem dX7_buys_36 : decode cX7_buys 36 = .ok (.istore 5, 2) := by decide +kernel
theorem dX7_buys_38 : decode cX7_buys 38 = .ok (.iconst 1, 1) := by decide +kernel
theorem dX7_buys_39 : decode cX7_buys 39 = .ok (.istore 6, 2) := by decide +kernel
theorem dX7_buys_41 : decode cX7_buys 41 = .ok (.iload 6, 2) := by decide +kernel
theorem dX7_buys_43 : decode cX7_buys 43 = .ok (.sipush 256, 3) := by decide +kernel
theorem dX7_buys_46 : decode cX7_buys 46 = .ok (.if_icmp .ge 50, 3) := by decide +kernel
theorem dX7_buys_49 : decode cX7_buys 49 = .ok (.iload 6, 2) := by decide +kernel
theorem dX7_buys_51 : decode cX7_buys 51 = .ok (.iload_n 3, 1) := by decide +kernel
theorem dX7_buys_52 : decode cX7_buys 52 = .ok (.iconst (-1), 1) := by decide +kernel
theorem dX7_buys_53 : decode cX7_buys 53 = .ok (.ixor, 1) := by decide +kernel
theorem dX7_buys_54 : decode cX7_buys 54 = .ok (.iand, 1) := by decide +kernel
theorem dX7_buys_55 : decode cX7_buys 55 = .ok (.ifCond .ne 35, 3) := by decide +kernel
theorem dX7_buys_58 : decode cX7_buys 58 = .ok (.aload_n 0, 1) := by decide +kernel
theorem dX7_buys_59 : decode cX7_buys 59 = .ok (.getfield 10, 3) := by decide +kernel
theorem dX7_buys_62 : decode cX7_buys 62 = .ok (.iload 6, 2) := by decide +kernel
theorem dX7_buys_64 : decode cX7_buys 64 = .ok (.invokevirtual 165, 3) := by decide +kernel
theorem dX7_buys_67 : decode cX7_buys 67 = .ok (.istore 7, 2) := by decide +kernel
theorem dX7_buys_69 : decode cX7_buys 69 = .ok (.iload 7, 2) := by decide +kernel
theorem dX7_buys_71 : decode cX7_buys 71 = .ok (.iload_n 1, 1) := by decide +kernel
theorem dX7_buys_72 : decode cX7_buys 72 = .ok (.if_icmp .gt 18, 3) := by decide +kernel
theorem dX7_buys_75 : decode cX7_buys 75 = .ok (.iload 7, 2) := by decide +kernel
theorem dX7_buys_77 : decode cX7_buys 77 = .ok (.iload 4, 2) := by decide +kernel
theorem dX7_buys_79 : decode cX7_buys 79 = .ok (.if_icmp .le 11, 3) := by decide +kernel
theorem dX7_buys_82 : decode cX7_buys 82 = .ok (.iload 7, 2) := by decide +kernel
theorem dX7_buys_84 : decode cX7_buys 84 = .ok (.istore 4, 2) := by decide +kernel
theorem dX7_buys_86 : decode cX7_buys 86 = .ok (.iload 6, 2) := by decide +kernel
theorem dX7_buys_88 : decode cX7_buys 88 = .ok (.istore 5, 2) := by decide +kernel
theorem dX7_buys_90 : decode cX7_buys 90 = .ok (.iinc 6 1, 3) := by decide +kernel
theorem dX7_buys_93 : decode cX7_buys 93 = .ok (.goto (-52), 3) := by decide +kernel
theorem dX7_buys_96 : decode cX7_buys 96 = .ok (.iload_n 2, 1) := by decide +kernel
theorem dX7_buys_97 : decode cX7_buys 97 = .ok (.ifCond .ne 8, 3) := by decide +kernel
theorem dX7_buys_100 : decode cX7_buys 100 = .ok (.iload 4, 2) := by decide +kernel
theorem dX7_buys_102 : decode cX7_buys 102 = .ok (.goto 5, 3) := by decide +kernel
theorem dX7_buys_105 : decode cX7_buys 105 = .ok (.iload 5, 2) := by decide +kernel
theorem dX7_buys_107 : decode cX7_buys 107 = .ok (.ireturn, 1) := by decide +kernel
theorem dX7_runs_0 : decode cX7_runs 0 = .ok (.iload_n 1, 1) := by decide +kernel
theorem dX7_runs_1 : decode cX7_runs 1 = .ok (.iconst 1, 1) := by decide +kernel
theorem dX7_runs_2 : decode cX7_runs 2 = .ok (.ldc 83, 2) := by decide +kernel
theorem dX7_runs_4 : decode cX7_runs 4 = .ok (.invokestatic 62, 3) := by decide +kernel
theorem dX7_runs_7 : decode cX7_runs 7 = .ok (.ifCond .eq 23, 3) := by decide +kernel
theorem dX7_runs_10 : decode cX7_runs 10 = .ok (.iload_n 2, 1) := by decide +kernel
theorem dX7_runs_11 : decode cX7_runs 11 = .ok (.iconst 0, 1) := by decide +kernel
theorem dX7_runs_12 : decode cX7_runs 12 = .ok (.bipush 99, 2) := by decide +kernel
theorem dX7_runs_14 : decode cX7_runs 14 = .ok (.invokestatic 62, 3) := by decide +kernel
theorem dX7_runs_17 : decode cX7_runs 17 = .ok (.ifCond .eq 13, 3) := by decide +kernel
theorem dX7_runs_20 : decode cX7_runs 20 = .ok (.iload_n 3, 1) := by decide +kernel
theorem dX7_runs_21 : decode cX7_runs 21 = .ok (.iconst 1, 1) := by decide +kernel
theorem dX7_runs_22 : decode cX7_runs 22 = .ok (.bipush 100, 2) := by decide +kernel
theorem dX7_runs_24 : decode cX7_runs 24 = .ok (.invokestatic 62, 3) := by decide +kernel
theorem dX7_runs_27 : decode cX7_runs 27 = .ok (.ifCond .ne 6, 3) := by decide +kernel
theorem dX7_runs_30 : decode cX7_runs 30 = .ok (.bipush (-2), 2) := by decide +kernel
theorem dX7_runs_32 : decode cX7_runs 32 = .ok (.ireturn, 1) := by decide +kernel
theorem dX7_runs_33 : decode cX7_runs 33 = .ok (.aload_n 0, 1) := by decide +kernel
theorem dX7_runs_34 : decode cX7_runs 34 = .ok (.getfield 10, 3) := by decide +kernel
theorem dX7_runs_37 : decode cX7_runs 37 = .ok (.invokevirtual 125, 3) := by decide +kernel
theorem dX7_runs_40 : decode cX7_runs 40 = .ok (.istore 4, 2) := by decide +kernel
theorem dX7_runs_42 : decode cX7_runs 42 = .ok (.iload_n 1, 1) := by decide +kernel
theorem dX7_runs_43 : decode cX7_runs 43 = .ok (.istore 5, 2) := by decide +kernel
theorem dX7_runs_45 : decode cX7_runs 45 = .ok (.iconst 0, 1) := by decide +kernel
theorem dX7_runs_46 : decode cX7_runs 46 = .ok (.istore 6, 2) := by decide +kernel
theorem dX7_runs_48 : decode cX7_runs 48 = .ok (.iload 6, 2) := by decide +kernel
theorem dX7_runs_50 : decode cX7_runs 50 = .ok (.bipush 100, 2) := by decide +kernel
theorem dX7_runs_52 : decode cX7_runs 52 = .ok (.if_icmp .gt 48, 3) := by decide +kernel
theorem dX7_runs_55 : decode cX7_runs 55 = .ok (.iload 4, 2) := by decide +kernel
theorem dX7_runs_57 : decode cX7_runs 57 = .ok (.iload 5, 2) := by decide +kernel
theorem dX7_runs_59 : decode cX7_runs 59 = .ok (.invokestatic 168, 3) := by decide +kernel
theorem dX7_runs_62 : decode cX7_runs 62 = .ok (.istore 7, 2) := by decide +kernel
theorem dX7_runs_64 : decode cX7_runs 64 = .ok (.iload 7, 2) := by decide +kernel
theorem dX7_runs_66 : decode cX7_runs 66 = .ok (.iload_n 3, 1) := by decide +kernel
theorem dX7_runs_67 : decode cX7_runs 67 = .ok (.if_icmp .ge 6, 3) := by decide +kernel
theorem dX7_runs_70 : decode cX7_runs 70 = .ok (.iload 6, 2) := by decide +kernel
theorem dX7_runs_72 : decode cX7_runs 72 = .ok (.ireturn, 1) := by decide +kernel
theorem dX7_runs_73 : decode cX7_runs 73 = .ok (.iload 5, 2) := by decide +kernel
theorem dX7_runs_75 : decode cX7_runs 75 = .ok (.iload 5, 2) := by decide +kernel
theorem dX7_runs_77 : decode cX7_runs 77 = .ok (.iload_n 2, 1) := by decide +kernel
theorem dX7_runs_78 : decode cX7_runs 78 = .ok (.imul, 1) := by decide +kernel
theorem dX7_runs_79 : decode cX7_runs 79 = .ok (.bipush 100, 2) := by decide +kernel
theorem dX7_runs_81 : decode cX7_runs 81 = .ok (.idiv, 1) := by decide +kernel
theorem dX7_runs_82 : decode cX7_runs 82 = .ok (.bipush 100, 2) := by decide +kernel
theorem dX7_runs_84 : decode cX7_runs 84 = .ok (.bipush 100, 2) := by decide +kernel
theorem dX7_runs_86 : decode cX7_runs 86 = .ok (.iload 7, 2) := by decide +kernel
theorem dX7_runs_88 : decode cX7_runs 88 = .ok (.isub, 1) := by decide +kernel
theorem dX7_runs_89 : decode cX7_runs 89 = .ok (.imul, 1) := by decide +kernel
theorem dX7_runs_90 : decode cX7_runs 90 = .ok (.iadd, 1) := by decide +kernel
theorem dX7_runs_91 : decode cX7_runs 91 = .ok (.iadd, 1) := by decide +kernel
theorem dX7_runs_92 : decode cX7_runs 92 = .ok (.istore 5, 2) := by decide +kernel
theorem dX7_runs_94 : decode cX7_runs 94 = .ok (.iinc 6 1, 3) := by decide +kernel
theorem dX7_runs_97 : decode cX7_runs 97 = .ok (.goto (-49), 3) := by decide +kernel
theorem dX7_runs_100 : decode cX7_runs 100 = .ok (.bipush (-6), 2) := by decide +kernel
theorem dX7_runs_102 : decode cX7_runs 102 = .ok (.ireturn, 1) := by decide +kernel
theorem dX7_wages_0 : decode cX7_wages 0 = .ok (.iload_n 1, 1) := by decide +kernel
theorem dX7_wages_1 : decode cX7_wages 1 = .ok (.iconst 0, 1) := by decide +kernel
theorem dX7_wages_2 : decode cX7_wages 2 = .ok (.ldc 171, 2) := by decide +kernel
theorem dX7_wages_4 : decode cX7_wages 4 = .ok (.invokestatic 62, 3) := by decide +kernel
theorem dX7_wages_7 : decode cX7_wages 7 = .ok (.ifCond .eq 13, 3) := by decide +kernel
theorem dX7_wages_10 : decode cX7_wages 10 = .ok (.iload_n 2, 1) := by decide +kernel
theorem dX7_wages_11 : decode cX7_wages 11 = .ok (.iconst 0, 1) := by decide +kernel
theorem dX7_wages_12 : decode cX7_wages 12 = .ok (.bipush 8, 2) := by decide +kernel
theorem dX7_wages_14 : decode cX7_wages 14 = .ok (.invokestatic 62, 3) := by decide +kernel
theorem dX7_wages_17 : decode cX7_wages 17 = .ok (.ifCond .ne 6, 3) := by decide +kernel
theorem dX7_wages_20 : decode cX7_wages 20 = .ok (.bipush (-2), 2) := by decide +kernel
theorem dX7_wages_22 : decode cX7_wages 22 = .ok (.ireturn, 1) := by decide +kernel
theorem dX7_wages_23 : decode cX7_wages 23 = .ok (.iconst 1, 1) := by decide +kernel
theorem dX7_wages_24 : decode cX7_wages 24 = .ok (.istore_n 3, 1) := by decide +kernel
theorem dX7_wages_25 : decode cX7_wages 25 = .ok (.iconst 0, 1) := by decide +kernel
theorem dX7_wages_26 : decode cX7_wages 26 = .ok (.istore 4, 2) := by decide +kernel
theorem dX7_wages_28 : decode cX7_wages 28 = .ok (.iload 4, 2) := by decide +kernel
theorem dX7_wages_30 : decode cX7_wages 30 = .ok (.iload_n 2, 1) := by decide +kernel
theorem dX7_wages_31 : decode cX7_wages 31 = .ok (.if_icmp .ge 14, 3) := by decide +kernel
theorem dX7_wages_34 : decode cX7_wages 34 = .ok (.iload_n 3, 1) := by decide +kernel
theorem dX7_wages_35 : decode cX7_wages 35 = .ok (.bipush 10, 2) := by decide +kernel
theorem dX7_wages_37 : decode cX7_wages 37 = .ok (.imul, 1) := by decide +kernel
theorem dX7_wages_38 : decode cX7_wages 38 = .ok (.istore_n 3, 1) := by decide +kernel
theorem dX7_wages_39 : decode cX7_wages 39 = .ok (.iinc 4 1, 3) := by decide +kernel
theorem dX7_wages_42 : decode cX7_wages 42 = .ok (.goto (-14), 3) := by decide +kernel
theorem dX7_wages_45 : decode cX7_wages 45 = .ok (.iload_n 1, 1) := by decide +kernel
theorem dX7_wages_46 : decode cX7_wages 46 = .ok (.istore 4, 2) := by decide +kernel
theorem dX7_wages_48 : decode cX7_wages 48 = .ok (.iload_n 1, 1) := by decide +kernel
theorem dX7_wages_49 : decode cX7_wages 49 = .ok (.iload_n 3, 1) := by decide +kernel
theorem dX7_wages_50 : decode cX7_wages 50 = .ok (.idiv, 1) := by decide +kernel
theorem dX7_wages_51 : decode cX7_wages 51 = .ok (.istore 5, 2) := by decide +kernel
theorem dX7_wages_53 : decode cX7_wages 53 = .ok (.iconst 0, 1) := by decide +kernel
theorem dX7_wages_54 : decode cX7_wages 54 = .ok (.istore 6, 2) := by decide +kernel
theorem dX7_wages_56 : decode cX7_wages 56 = .ok (.iconst 0, 1) := by decide +kernel
theorem dX7_wages_57 : decode cX7_wages 57 = .ok (.istore 7, 2) := by decide +kernel
theorem dX7_wages_59 : decode cX7_wages 59 = .ok (.iload 7, 2) := by decide +kernel
theorem dX7_wages_61 : decode cX7_wages 61 = .ok (.bipush 9, 2) := by decide +kernel
theorem dX7_wages_63 : decode cX7_wages 63 = .ok (.if_icmp .ge 43, 3) := by decide +kernel
theorem dX7_wages_66 : decode cX7_wages 66 = .ok (.iload 6, 2) := by decide +kernel
theorem dX7_wages_68 : decode cX7_wages 68 = .ok (.iconst 0, 1) := by decide +kernel
theorem dX7_wages_69 : decode cX7_wages 69 = .ok (.iload 4, 2) := by decide +kernel
theorem dX7_wages_71 : decode cX7_wages 71 = .ok (.bipush 10, 2) := by decide +kernel
theorem dX7_wages_73 : decode cX7_wages 73 = .ok (.irem, 1) := by decide +kernel
theorem dX7_wages_74 : decode cX7_wages 74 = .ok (.iload 5, 2) := by decide +kernel
theorem dX7_wages_76 : decode cX7_wages 76 = .ok (.bipush 10, 2) := by decide +kernel
theorem dX7_wages_78 : decode cX7_wages 78 = .ok (.irem, 1) := by decide +kernel
theorem dX7_wages_79 : decode cX7_wages 79 = .ok (.isub, 1) := by decide +kernel
theorem dX7_wages_80 : decode cX7_wages 80 = .ok (.invokestatic 172, 3) := by decide +kernel
theorem dX7_wages_83 : decode cX7_wages 83 = .ok (.iadd, 1) := by decide +kernel
theorem dX7_wages_84 : decode cX7_wages 84 = .ok (.istore 6, 2) := by decide +kernel
theorem dX7_wages_86 : decode cX7_wages 86 = .ok (.iload 4, 2) := by decide +kernel
theorem dX7_wages_88 : decode cX7_wages 88 = .ok (.bipush 10, 2) := by decide +kernel
theorem dX7_wages_90 : decode cX7_wages 90 = .ok (.idiv, 1) := by decide +kernel
theorem dX7_wages_91 : decode cX7_wages 91 = .ok (.istore 4, 2) := by decide +kernel
theorem dX7_wages_93 : decode cX7_wages 93 = .ok (.iload 5, 2) := by decide +kernel
theorem dX7_wages_95 : decode cX7_wages 95 = .ok (.bipush 10, 2) := by decide +kernel
theorem dX7_wages_97 : decode cX7_wages 97 = .ok (.idiv, 1) := by decide +kernel
theorem dX7_wages_98 : decode cX7_wages 98 = .ok (.istore 5, 2) := by decide +kernel
theorem dX7_wages_100 : decode cX7_wages 100 = .ok (.iinc 7 1, 3) := by decide +kernel
theorem dX7_wages_103 : decode cX7_wages 103 = .ok (.goto (-44), 3) := by decide +kernel
theorem dX7_wages_106 : decode cX7_wages 106 = .ok (.iload 6, 2) := by decide +kernel
theorem dX7_wages_108 : decode cX7_wages 108 = .ok (.ireturn, 1) := by decide +kernel
theorem dX7_change_0 : decode cX7_change 0 = .ok (.iload_n 1, 1) := by decide +kernel
theorem dX7_change_1 : decode cX7_change 1 = .ok (.iconst 0, 1) := by decide +kernel
theorem dX7_change_2 : decode cX7_change 2 = .ok (.bipush 60, 2) := by decide +kernel
theorem dX7_change_4 : decode cX7_change 4 = .ok (.invokestatic 62, 3) := by decide +kernel
theorem dX7_change_7 : decode cX7_change 7 = .ok (.ifCond .eq 43, 3) := by decide +kernel
theorem dX7_change_10 : decode cX7_change 10 = .ok (.iload_n 2, 1) := by decide +kernel
theorem dX7_change_11 : decode cX7_change 11 = .ok (.iconst 0, 1) := by decide +kernel
theorem dX7_change_12 : decode cX7_change 12 = .ok (.bipush 8, 2) := by decide +kernel
theorem dX7_change_14 : decode cX7_change 14 = .ok (.invokestatic 62, 3) := by decide +kernel
theorem dX7_change_17 : decode cX7_change 17 = .ok (.ifCond .eq 33, 3) := by decide +kernel
theorem dX7_change_20 : decode cX7_change 20 = .ok (.iload_n 3, 1) := by decide +kernel
theorem dX7_change_21 : decode cX7_change 21 = .ok (.iconst 0, 1) := by decide +kernel
theorem dX7_change_22 : decode cX7_change 22 = .ok (.bipush 10, 2) := by decide +kernel
theorem dX7_change_24 : decode cX7_change 24 = .ok (.invokestatic 62, 3) := by decide +kernel
theorem dX7_change_27 : decode cX7_change 27 = .ok (.ifCond .eq 23, 3) := by decide +kernel
theorem dX7_change_30 : decode cX7_change 30 = .ok (.iload 4, 2) := by decide +kernel
theorem dX7_change_32 : decode cX7_change 32 = .ok (.iconst 0, 1) := by decide +kernel
theorem dX7_change_33 : decode cX7_change 33 = .ok (.iconst 1, 1) := by decide +kernel
theorem dX7_change_34 : decode cX7_change 34 = .ok (.invokestatic 62, 3) := by decide +kernel
theorem dX7_change_37 : decode cX7_change 37 = .ok (.ifCond .eq 13, 3) := by decide +kernel
theorem dX7_change_40 : decode cX7_change 40 = .ok (.iload 5, 2) := by decide +kernel
theorem dX7_change_42 : decode cX7_change 42 = .ok (.iconst 0, 1) := by decide +kernel
theorem dX7_change_43 : decode cX7_change 43 = .ok (.iconst 1, 1) := by decide +kernel
theorem dX7_change_44 : decode cX7_change 44 = .ok (.invokestatic 62, 3) := by decide +kernel
theorem dX7_change_47 : decode cX7_change 47 = .ok (.ifCond .ne 7, 3) := by decide +kernel
theorem dX7_change_50 : decode cX7_change 50 = .ok (.ldc2_w 175, 3) := by decide +kernel
theorem dX7_change_53 : decode cX7_change 53 = .ok (.lreturn, 1) := by decide +kernel
theorem dX7_change_54 : decode cX7_change 54 = .ok (.lconst 1, 1) := by decide +kernel
theorem dX7_change_55 : decode cX7_change 55 = .ok (.lstore 6, 2) := by decide +kernel
theorem dX7_change_57 : decode cX7_change 57 = .ok (.iconst 0, 1) := by decide +kernel
theorem dX7_change_58 : decode cX7_change 58 = .ok (.istore 8, 2) := by decide +kernel
theorem dX7_change_60 : decode cX7_change 60 = .ok (.iload 8, 2) := by decide +kernel
theorem dX7_change_62 : decode cX7_change 62 = .ok (.iload_n 2, 1) := by decide +kernel
theorem dX7_change_63 : decode cX7_change 63 = .ok (.if_icmp .ge 17, 3) := by decide +kernel
theorem dX7_change_66 : decode cX7_change 66 = .ok (.lload 6, 2) := by decide +kernel
theorem dX7_change_68 : decode cX7_change 68 = .ok (.ldc2_w 177, 3) := by decide +kernel
theorem dX7_change_71 : decode cX7_change 71 = .ok (.lmul, 1) := by decide +kernel
theorem dX7_change_72 : decode cX7_change 72 = .ok (.lstore 6, 2) := by decide +kernel
theorem dX7_change_74 : decode cX7_change 74 = .ok (.iinc 8 1, 3) := by decide +kernel
theorem dX7_change_77 : decode cX7_change 77 = .ok (.goto (-17), 3) := by decide +kernel
theorem dX7_change_80 : decode cX7_change 80 = .ok (.aload_n 0, 1) := by decide +kernel
theorem dX7_change_81 : decode cX7_change 81 = .ok (.getfield 47, 3) := by decide +kernel
theorem dX7_change_84 : decode cX7_change 84 = .ok (.iload_n 1, 1) := by decide +kernel
theorem dX7_change_85 : decode cX7_change 85 = .ok (.iload_n 2, 1) := by decide +kernel
theorem dX7_change_86 : decode cX7_change 86 = .ok (.iload_n 3, 1) := by decide +kernel
theorem dX7_change_87 : decode cX7_change 87 = .ok (.invokevirtual 179, 3) := by decide +kernel
theorem dX7_change_90 : decode cX7_change 90 = .ok (.lstore 8, 2) := by decide +kernel
theorem dX7_change_92 : decode cX7_change 92 = .ok (.iload 4, 2) := by decide +kernel
theorem dX7_change_94 : decode cX7_change 94 = .ok (.iconst 1, 1) := by decide +kernel
theorem dX7_change_95 : decode cX7_change 95 = .ok (.if_icmp .ne 20, 3) := by decide +kernel
theorem dX7_change_98 : decode cX7_change 98 = .ok (.lload 8, 2) := by decide +kernel
theorem dX7_change_100 : decode cX7_change 100 = .ok (.iload_n 1, 1) := by decide +kernel
theorem dX7_change_101 : decode cX7_change 101 = .ok (.i2l, 1) := by decide +kernel
theorem dX7_change_102 : decode cX7_change 102 = .ok (.lload 6, 2) := by decide +kernel
theorem dX7_change_104 : decode cX7_change 104 = .ok (.lmul, 1) := by decide +kernel
theorem dX7_change_105 : decode cX7_change 105 = .ok (.lcmp, 1) := by decide +kernel
theorem dX7_change_106 : decode cX7_change 106 = .ok (.ifCond .ne 7, 3) := by decide +kernel
theorem dX7_change_109 : decode cX7_change 109 = .ok (.lconst 1, 1) := by decide +kernel
theorem dX7_change_110 : decode cX7_change 110 = .ok (.goto 4, 3) := by decide +kernel
theorem dX7_change_113 : decode cX7_change 113 = .ok (.lconst 0, 1) := by decide +kernel
theorem dX7_change_114 : decode cX7_change 114 = .ok (.lreturn, 1) := by decide +kernel
theorem dX7_change_115 : decode cX7_change 115 = .ok (.lload 8, 2) := by decide +kernel
theorem dX7_change_117 : decode cX7_change 117 = .ok (.lload 6, 2) := by decide +kernel
theorem dX7_change_119 : decode cX7_change 119 = .ok (.iload 5, 2) := by decide +kernel
theorem dX7_change_121 : decode cX7_change 121 = .ok (.invokestatic 183, 3) := by decide +kernel
theorem dX7_change_124 : decode cX7_change 124 = .ok (.lreturn, 1) := by decide +kernel
theorem dX7_sample_0 : decode cX7_sample 0 = .ok (.iload_n 1, 1) := by decide +kernel
theorem dX7_sample_1 : decode cX7_sample 1 = .ok (.iconst 1, 1) := by decide +kernel
theorem dX7_sample_2 : decode cX7_sample 2 = .ok (.bipush 30, 2) := by decide +kernel
theorem dX7_sample_4 : decode cX7_sample 4 = .ok (.invokestatic 62, 3) := by decide +kernel
theorem dX7_sample_7 : decode cX7_sample 7 = .ok (.ifCond .eq 41, 3) := by decide +kernel
theorem dX7_sample_10 : decode cX7_sample 10 = .ok (.iload_n 2, 1) := by decide +kernel
theorem dX7_sample_11 : decode cX7_sample 11 = .ok (.iconst 0, 1) := by decide +kernel
theorem dX7_sample_12 : decode cX7_sample 12 = .ok (.iload_n 1, 1) := by decide +kernel
theorem dX7_sample_13 : decode cX7_sample 13 = .ok (.invokestatic 62, 3) := by decide +kernel
theorem dX7_sample_16 : decode cX7_sample 16 = .ok (.ifCond .eq 32, 3) := by decide +kernel
theorem dX7_sample_19 : decode cX7_sample 19 = .ok (.iload_n 3, 1) := by decide +kernel
theorem dX7_sample_20 : decode cX7_sample 20 = .ok (.iconst 0, 1) := by decide +kernel
theorem dX7_sample_21 : decode cX7_sample 21 = .ok (.iload_n 1, 1) := by decide +kernel
theorem dX7_sample_22 : decode cX7_sample 22 = .ok (.invokestatic 62, 3) := by decide +kernel
theorem dX7_sample_25 : decode cX7_sample 25 = .ok (.ifCond .eq 23, 3) := by decide +kernel
theorem dX7_sample_28 : decode cX7_sample 28 = .ok (.iload 4, 2) := by decide +kernel
theorem dX7_sample_30 : decode cX7_sample 30 = .ok (.iconst 0, 1) := by decide +kernel
theorem dX7_sample_31 : decode cX7_sample 31 = .ok (.iload_n 3, 1) := by decide +kernel
theorem dX7_sample_32 : decode cX7_sample 32 = .ok (.invokestatic 62, 3) := by decide +kernel
theorem dX7_sample_35 : decode cX7_sample 35 = .ok (.ifCond .eq 13, 3) := by decide +kernel
theorem dX7_sample_38 : decode cX7_sample 38 = .ok (.iload 5, 2) := by decide +kernel
theorem dX7_sample_40 : decode cX7_sample 40 = .ok (.iconst 0, 1) := by decide +kernel
theorem dX7_sample_41 : decode cX7_sample 41 = .ok (.iconst 1, 1) := by decide +kernel
theorem dX7_sample_42 : decode cX7_sample 42 = .ok (.invokestatic 62, 3) := by decide +kernel
theorem dX7_sample_45 : decode cX7_sample 45 = .ok (.ifCond .ne 7, 3) := by decide +kernel
theorem dX7_sample_48 : decode cX7_sample 48 = .ok (.ldc2_w 175, 3) := by decide +kernel
theorem dX7_sample_51 : decode cX7_sample 51 = .ok (.lreturn, 1) := by decide +kernel
theorem dX7_sample_52 : decode cX7_sample 52 = .ok (.iload_n 2, 1) := by decide +kernel
theorem dX7_sample_53 : decode cX7_sample 53 = .ok (.iload 4, 2) := by decide +kernel
theorem dX7_sample_55 : decode cX7_sample 55 = .ok (.invokestatic 187, 3) := by decide +kernel
theorem dX7_sample_58 : decode cX7_sample 58 = .ok (.iload_n 1, 1) := by decide +kernel
theorem dX7_sample_59 : decode cX7_sample 59 = .ok (.iload_n 2, 1) := by decide +kernel
theorem dX7_sample_60 : decode cX7_sample 60 = .ok (.isub, 1) := by decide +kernel
theorem dX7_sample_61 : decode cX7_sample 61 = .ok (.iload_n 3, 1) := by decide +kernel
theorem dX7_sample_62 : decode cX7_sample 62 = .ok (.iload 4, 2) := by decide +kernel
theorem dX7_sample_64 : decode cX7_sample 64 = .ok (.isub, 1) := by decide +kernel
theorem dX7_sample_65 : decode cX7_sample 65 = .ok (.invokestatic 187, 3) := by decide +kernel
theorem dX7_sample_68 : decode cX7_sample 68 = .ok (.lmul, 1) := by decide +kernel
theorem dX7_sample_69 : decode cX7_sample 69 = .ok (.iload_n 1, 1) := by decide +kernel
theorem dX7_sample_70 : decode cX7_sample 70 = .ok (.iload_n 3, 1) := by decide +kernel
theorem dX7_sample_71 : decode cX7_sample 71 = .ok (.invokestatic 187, 3) := by decide +kernel
theorem dX7_sample_74 : decode cX7_sample 74 = .ok (.iload 5, 2) := by decide +kernel
theorem dX7_sample_76 : decode cX7_sample 76 = .ok (.invokestatic 183, 3) := by decide +kernel
theorem dX7_sample_79 : decode cX7_sample 79 = .ok (.lreturn, 1) := by decide +kernel
theorem dX7_seen_0 : decode cX7_seen 0 = .ok (.iload_n 1, 1) := by decide +kernel
theorem dX7_seen_1 : decode cX7_seen 1 = .ok (.iconst 0, 1) := by decide +kernel
theorem dX7_seen_2 : decode cX7_seen 2 = .ok (.sipush 255, 3) := by decide +kernel
theorem dX7_seen_5 : decode cX7_seen 5 = .ok (.invokestatic 62, 3) := by decide +kernel
theorem dX7_seen_8 : decode cX7_seen 8 = .ok (.ifCond .eq 22, 3) := by decide +kernel
theorem dX7_seen_11 : decode cX7_seen 11 = .ok (.iload_n 2, 1) := by decide +kernel
theorem dX7_seen_12 : decode cX7_seen 12 = .ok (.iconst 0, 1) := by decide +kernel
theorem dX7_seen_13 : decode cX7_seen 13 = .ok (.bipush 8, 2) := by decide +kernel
theorem dX7_seen_15 : decode cX7_seen 15 = .ok (.invokestatic 62, 3) := by decide +kernel
theorem dX7_seen_18 : decode cX7_seen 18 = .ok (.ifCond .eq 12, 3) := by decide +kernel
theorem dX7_seen_21 : decode cX7_seen 21 = .ok (.iload_n 3, 1) := by decide +kernel
theorem dX7_seen_22 : decode cX7_seen 22 = .ok (.iconst 0, 1) := by decide +kernel
theorem dX7_seen_23 : decode cX7_seen 23 = .ok (.iconst 1, 1) := by decide +kernel
theorem dX7_seen_24 : decode cX7_seen 24 = .ok (.invokestatic 62, 3) := by decide +kernel
theorem dX7_seen_27 : decode cX7_seen 27 = .ok (.ifCond .ne 6, 3) := by decide +kernel
theorem dX7_seen_30 : decode cX7_seen 30 = .ok (.bipush (-2), 2) := by decide +kernel
theorem dX7_seen_32 : decode cX7_seen 32 = .ok (.ireturn, 1) := by decide +kernel
theorem dX7_seen_33 : decode cX7_seen 33 = .ok (.aload_n 0, 1) := by decide +kernel
theorem dX7_seen_34 : decode cX7_seen 34 = .ok (.getfield 19, 3) := by decide +kernel
theorem dX7_seen_37 : decode cX7_seen 37 = .ok (.getfield 191, 3) := by decide +kernel
theorem dX7_seen_40 : decode cX7_seen 40 = .ok (.bipush 8, 2) := by decide +kernel
theorem dX7_seen_42 : decode cX7_seen 42 = .ok (.if_icmp .ne 6, 3) := by decide +kernel
theorem dX7_seen_45 : decode cX7_seen 45 = .ok (.bipush (-4), 2) := by decide +kernel
theorem dX7_seen_47 : decode cX7_seen 47 = .ok (.ireturn, 1) := by decide +kernel
theorem dX7_seen_48 : decode cX7_seen 48 = .ok (.aload_n 0, 1) := by decide +kernel
theorem dX7_seen_49 : decode cX7_seen 49 = .ok (.getfield 19, 3) := by decide +kernel
theorem dX7_seen_52 : decode cX7_seen 52 = .ok (.iload_n 1, 1) := by decide +kernel
theorem dX7_seen_53 : decode cX7_seen 53 = .ok (.iload_n 2, 1) := by decide +kernel
theorem dX7_seen_54 : decode cX7_seen 54 = .ok (.iload_n 3, 1) := by decide +kernel
theorem dX7_seen_55 : decode cX7_seen 55 = .ok (.invokevirtual 192, 3) := by decide +kernel
theorem dX7_seen_58 : decode cX7_seen 58 = .ok (.aload_n 0, 1) := by decide +kernel
theorem dX7_seen_59 : decode cX7_seen 59 = .ok (.getfield 19, 3) := by decide +kernel
theorem dX7_seen_62 : decode cX7_seen 62 = .ok (.getfield 191, 3) := by decide +kernel
theorem dX7_seen_65 : decode cX7_seen 65 = .ok (.ireturn, 1) := by decide +kernel
theorem dX7_forget_0 : decode cX7_forget 0 = .ok (.aload_n 0, 1) := by decide +kernel
theorem dX7_forget_1 : decode cX7_forget 1 = .ok (.getfield 19, 3) := by decide +kernel
theorem dX7_forget_4 : decode cX7_forget 4 = .ok (.getfield 191, 3) := by decide +kernel
theorem dX7_forget_7 : decode cX7_forget 7 = .ok (.istore_n 1, 1) := by decide +kernel
theorem dX7_forget_8 : decode cX7_forget 8 = .ok (.aload_n 0, 1) := by decide +kernel
theorem dX7_forget_9 : decode cX7_forget 9 = .ok (.getfield 19, 3) := by decide +kernel
theorem dX7_forget_12 : decode cX7_forget 12 = .ok (.iconst 0, 1) := by decide +kernel
theorem dX7_forget_13 : decode cX7_forget 13 = .ok (.putfield 191, 3) := by decide +kernel
theorem dX7_forget_16 : decode cX7_forget 16 = .ok (.iload_n 1, 1) := by decide +kernel
theorem dX7_forget_17 : decode cX7_forget 17 = .ok (.ireturn, 1) := by decide +kernel
theorem dX7_clerks_0 : decode cX7_clerks 0 = .ok (.iload_n 1, 1) := by decide +kernel
theorem dX7_clerks_1 : decode cX7_clerks 1 = .ok (.iconst 0, 1) := by decide +kernel
theorem dX7_clerks_2 : decode cX7_clerks 2 = .ok (.iconst 3, 1) := by decide +kernel
theorem dX7_clerks_3 : decode cX7_clerks 3 = .ok (.invokestatic 62, 3) := by decide +kernel
theorem dX7_clerks_6 : decode cX7_clerks 6 = .ok (.ifCond .ne 6, 3) := by decide +kernel
theorem dX7_clerks_9 : decode cX7_clerks 9 = .ok (.bipush (-2), 2) := by decide +kernel
theorem dX7_clerks_11 : decode cX7_clerks 11 = .ok (.ireturn, 1) := by decide +kernel
theorem dX7_clerks_12 : decode cX7_clerks 12 = .ok (.iconst 0, 1) := by decide +kernel
theorem dX7_clerks_13 : decode cX7_clerks 13 = .ok (.istore_n 3, 1) := by decide +kernel
theorem dX7_clerks_14 : decode cX7_clerks 14 = .ok (.iconst 0, 1) := by decide +kernel
theorem dX7_clerks_15 : decode cX7_clerks 15 = .ok (.istore 4, 2) := by decide +kernel
theorem dX7_clerks_17 : decode cX7_clerks 17 = .ok (.iload 4, 2) := by decide +kernel
theorem dX7_clerks_19 : decode cX7_clerks 19 = .ok (.sipush 256, 3) := by decide +kernel
theorem dX7_clerks_22 : decode cX7_clerks 22 = .ok (.if_icmp .ge 33, 3) := by decide +kernel
theorem dX7_clerks_25 : decode cX7_clerks 25 = .ok (.aload_n 0, 1) := by decide +kernel
theorem dX7_clerks_26 : decode cX7_clerks 26 = .ok (.getfield 19, 3) := by decide +kernel
theorem dX7_clerks_29 : decode cX7_clerks 29 = .ok (.iload 4, 2) := by decide +kernel
theorem dX7_clerks_31 : decode cX7_clerks 31 = .ok (.iload_n 1, 1) := by decide +kernel
theorem dX7_clerks_32 : decode cX7_clerks 32 = .ok (.invokevirtual 195, 3) := by decide +kernel
theorem dX7_clerks_35 : decode cX7_clerks 35 = .ok (.ifCond .eq 14, 3) := by decide +kernel
theorem dX7_clerks_38 : decode cX7_clerks 38 = .ok (.iload_n 3, 1) := by decide +kernel
theorem dX7_clerks_39 : decode cX7_clerks 39 = .ok (.iload_n 2, 1) := by decide +kernel
theorem dX7_clerks_40 : decode cX7_clerks 40 = .ok (.if_icmp .ne 6, 3) := by decide +kernel
theorem dX7_clerks_43 : decode cX7_clerks 43 = .ok (.iload 4, 2) := by decide +kernel
theorem dX7_clerks_45 : decode cX7_clerks 45 = .ok (.ireturn, 1) := by decide +kernel
theorem dX7_clerks_46 : decode cX7_clerks 46 = .ok (.iinc 3 1, 3) := by decide +kernel
theorem dX7_clerks_49 : decode cX7_clerks 49 = .ok (.iinc 4 1, 3) := by decide +kernel
theorem dX7_clerks_52 : decode cX7_clerks 52 = .ok (.goto (-35), 3) := by decide +kernel
theorem dX7_clerks_55 : decode cX7_clerks 55 = .ok (.iload_n 2, 1) := by decide +kernel
theorem dX7_clerks_56 : decode cX7_clerks 56 = .ok (.iconst (-1), 1) := by decide +kernel
theorem dX7_clerks_57 : decode cX7_clerks 57 = .ok (.if_icmp .ne 7, 3) := by decide +kernel
theorem dX7_clerks_60 : decode cX7_clerks 60 = .ok (.iload_n 3, 1) := by decide +kernel
theorem dX7_clerks_61 : decode cX7_clerks 61 = .ok (.goto 5, 3) := by decide +kernel
theorem dX7_clerks_64 : decode cX7_clerks 64 = .ok (.bipush (-6), 2) := by decide +kernel
theorem dX7_clerks_66 : decode cX7_clerks 66 = .ok (.ireturn, 1) := by decide +kernel
theorem dX7_count_0 : decode cX7_count 0 = .ok (.iload_n 1, 1) := by decide +kernel
theorem dX7_count_1 : decode cX7_count 1 = .ok (.iconst 0, 1) := by decide +kernel
theorem dX7_count_2 : decode cX7_count 2 = .ok (.iconst 3, 1) := by decide +kernel
theorem dX7_count_3 : decode cX7_count 3 = .ok (.invokestatic 62, 3) := by decide +kernel
theorem dX7_count_6 : decode cX7_count 6 = .ok (.ifCond .eq 12, 3) := by decide +kernel
theorem dX7_count_9 : decode cX7_count 9 = .ok (.iload_n 2, 1) := by decide +kernel
theorem dX7_count_10 : decode cX7_count 10 = .ok (.iconst 0, 1) := by decide +kernel
theorem dX7_count_11 : decode cX7_count 11 = .ok (.iconst 1, 1) := by decide +kernel
theorem dX7_count_12 : decode cX7_count 12 = .ok (.invokestatic 62, 3) := by decide +kernel
theorem dX7_count_15 : decode cX7_count 15 = .ok (.ifCond .ne 6, 3) := by decide +kernel
theorem dX7_count_18 : decode cX7_count 18 = .ok (.bipush (-2), 2) := by decide +kernel
theorem dX7_count_20 : decode cX7_count 20 = .ok (.ireturn, 1) := by decide +kernel
theorem dX7_count_21 : decode cX7_count 21 = .ok (.aload_n 0, 1) := by decide +kernel
theorem dX7_count_22 : decode cX7_count 22 = .ok (.getfield 19, 3) := by decide +kernel
theorem dX7_count_25 : decode cX7_count 25 = .ok (.iload_n 1, 1) := by decide +kernel
theorem dX7_count_26 : decode cX7_count 26 = .ok (.invokevirtual 199, 3) := by decide +kernel
theorem dX7_count_29 : decode cX7_count 29 = .ok (.istore_n 3, 1) := by decide +kernel
theorem dX7_count_30 : decode cX7_count 30 = .ok (.iload_n 3, 1) := by decide +kernel
theorem dX7_count_31 : decode cX7_count 31 = .ok (.ifCond .ne 6, 3) := by decide +kernel
theorem dX7_count_34 : decode cX7_count 34 = .ok (.bipush (-6), 2) := by decide +kernel
theorem dX7_count_36 : decode cX7_count 36 = .ok (.ireturn, 1) := by decide +kernel
theorem dX7_count_37 : decode cX7_count 37 = .ok (.iconst 0, 1) := by decide +kernel
theorem dX7_count_38 : decode cX7_count 38 = .ok (.istore 4, 2) := by decide +kernel
theorem dX7_count_40 : decode cX7_count 40 = .ok (.iconst 1, 1) := by decide +kernel
theorem dX7_count_41 : decode cX7_count 41 = .ok (.istore 5, 2) := by decide +kernel
theorem dX7_count_43 : decode cX7_count 43 = .ok (.iload 5, 2) := by decide +kernel
theorem dX7_count_45 : decode cX7_count 45 = .ok (.bipush 8, 2) := by decide +kernel
theorem dX7_count_47 : decode cX7_count 47 = .ok (.if_icmp .ge 36, 3) := by decide +kernel
theorem dX7_count_50 : decode cX7_count 50 = .ok (.aload_n 0, 1) := by decide +kernel
theorem dX7_count_51 : decode cX7_count 51 = .ok (.getfield 19, 3) := by decide +kernel
theorem dX7_count_54 : decode cX7_count 54 = .ok (.iload 5, 2) := by decide +kernel
theorem dX7_count_56 : decode cX7_count 56 = .ok (.iload_n 3, 1) := by decide +kernel
theorem dX7_count_57 : decode cX7_count 57 = .ok (.invokevirtual 202, 3) := by decide +kernel
theorem dX7_count_60 : decode cX7_count 60 = .ok (.aload_n 0, 1) := by decide +kernel
theorem dX7_count_61 : decode cX7_count 61 = .ok (.getfield 19, 3) := by decide +kernel
theorem dX7_count_64 : decode cX7_count 64 = .ok (.iload 4, 2) := by decide +kernel
theorem dX7_count_66 : decode cX7_count 66 = .ok (.iload_n 3, 1) := by decide +kernel
theorem dX7_count_67 : decode cX7_count 67 = .ok (.invokevirtual 202, 3) := by decide +kernel
theorem dX7_count_70 : decode cX7_count 70 = .ok (.if_icmp .ge 7, 3) := by decide +kernel
theorem dX7_count_73 : decode cX7_count 73 = .ok (.iload 5, 2) := by decide +kernel
theorem dX7_count_75 : decode cX7_count 75 = .ok (.istore 4, 2) := by decide +kernel
theorem dX7_count_77 : decode cX7_count 77 = .ok (.iinc 5 1, 3) := by decide +kernel
theorem dX7_count_80 : decode cX7_count 80 = .ok (.goto (-37), 3) := by decide +kernel
theorem dX7_count_83 : decode cX7_count 83 = .ok (.iload_n 2, 1) := by decide +kernel
theorem dX7_count_84 : decode cX7_count 84 = .ok (.ifCond .ne 8, 3) := by decide +kernel
theorem dX7_count_87 : decode cX7_count 87 = .ok (.iload 4, 2) := by decide +kernel
theorem dX7_count_89 : decode cX7_count 89 = .ok (.goto 13, 3) := by decide +kernel
theorem dX7_count_92 : decode cX7_count 92 = .ok (.aload_n 0, 1) := by decide +kernel
theorem dX7_count_93 : decode cX7_count 93 = .ok (.getfield 19, 3) := by decide +kernel
theorem dX7_count_96 : decode cX7_count 96 = .ok (.iload 4, 2) := by decide +kernel
theorem dX7_count_98 : decode cX7_count 98 = .ok (.iload_n 3, 1) := by decide +kernel
theorem dX7_count_99 : decode cX7_count 99 = .ok (.invokevirtual 202, 3) := by decide +kernel
theorem dX7_count_102 : decode cX7_count 102 = .ok (.ireturn, 1) := by decide +kernel
theorem dX7_year_0 : decode cX7_year 0 = .ok (.iload_n 1, 1) := by decide +kernel
theorem dX7_year_1 : decode cX7_year 1 = .ok (.iconst 0, 1) := by decide +kernel
theorem dX7_year_2 : decode cX7_year 2 = .ok (.sipush 9999, 3) := by decide +kernel
theorem dX7_year_5 : decode cX7_year 5 = .ok (.invokestatic 62, 3) := by decide +kernel
theorem dX7_year_8 : decode cX7_year 8 = .ok (.ifCond .eq 22, 3) := by decide +kernel
theorem dX7_year_11 : decode cX7_year 11 = .ok (.iload_n 2, 1) := by decide +kernel
theorem dX7_year_12 : decode cX7_year 12 = .ok (.iconst 1, 1) := by decide +kernel
theorem dX7_year_13 : decode cX7_year 13 = .ok (.bipush 99, 2) := by decide +kernel
theorem dX7_year_15 : decode cX7_year 15 = .ok (.invokestatic 62, 3) := by decide +kernel
theorem dX7_year_18 : decode cX7_year 18 = .ok (.ifCond .eq 12, 3) := by decide +kernel
theorem dX7_year_21 : decode cX7_year 21 = .ok (.iload_n 3, 1) := by decide +kernel
theorem dX7_year_22 : decode cX7_year 22 = .ok (.iconst 0, 1) := by decide +kernel
theorem dX7_year_23 : decode cX7_year 23 = .ok (.iconst 2, 1) := by decide +kernel
theorem dX7_year_24 : decode cX7_year 24 = .ok (.invokestatic 62, 3) := by decide +kernel
theorem dX7_year_27 : decode cX7_year 27 = .ok (.ifCond .ne 6, 3) := by decide +kernel
theorem dX7_year_30 : decode cX7_year 30 = .ok (.bipush (-2), 2) := by decide +kernel
theorem dX7_year_32 : decode cX7_year 32 = .ok (.ireturn, 1) := by decide +kernel
theorem dX7_year_33 : decode cX7_year 33 = .ok (.aload_n 0, 1) := by decide +kernel
theorem dX7_year_34 : decode cX7_year 34 = .ok (.getfield 33, 3) := by decide +kernel
theorem dX7_year_37 : decode cX7_year 37 = .ok (.getfield 115, 3) := by decide +kernel
theorem dX7_year_40 : decode cX7_year 40 = .ok (.astore 4, 2) := by decide +kernel
theorem dX7_year_42 : decode cX7_year 42 = .ok (.aload 4, 2) := by decide +kernel
theorem dX7_year_44 : decode cX7_year 44 = .ok (.aload_n 0, 1) := by decide +kernel
theorem dX7_year_45 : decode cX7_year 45 = .ok (.getfield 10, 3) := by decide +kernel
theorem dX7_year_48 : decode cX7_year 48 = .ok (.invokevirtual 140, 3) := by decide +kernel
theorem dX7_year_51 : decode cX7_year 51 = .ok (.iload_n 1, 1) := by decide +kernel
theorem dX7_year_52 : decode cX7_year 52 = .ok (.istore 5, 2) := by decide +kernel
theorem dX7_year_54 : decode cX7_year 54 = .ok (.iconst 0, 1) := by decide +kernel
theorem dX7_year_55 : decode cX7_year 55 = .ok (.istore 6, 2) := by decide +kernel
theorem dX7_year_57 : decode cX7_year 57 = .ok (.iload 6, 2) := by decide +kernel
theorem dX7_year_59 : decode cX7_year 59 = .ok (.iload_n 2, 1) := by decide +kernel
theorem dX7_year_60 : decode cX7_year 60 = .ok (.if_icmp .ge 55, 3) := by decide +kernel
theorem dX7_year_63 : decode cX7_year 63 = .ok (.bipush 75, 2) := by decide +kernel
theorem dX7_year_65 : decode cX7_year 65 = .ok (.iload 5, 2) := by decide +kernel
theorem dX7_year_67 : decode cX7_year 67 = .ok (.imul, 1) := by decide +kernel
theorem dX7_year_68 : decode cX7_year 68 = .ok (.bipush 74, 2) := by decide +kernel
theorem dX7_year_70 : decode cX7_year 70 = .ok (.iadd, 1) := by decide +kernel
theorem dX7_year_71 : decode cX7_year 71 = .ok (.ldc 205, 2) := by decide +kernel
theorem dX7_year_73 : decode cX7_year 73 = .ok (.irem, 1) := by decide +kernel
theorem dX7_year_74 : decode cX7_year 74 = .ok (.istore 5, 2) := by decide +kernel
theorem dX7_year_76 : decode cX7_year 76 = .ok (.iload 5, 2) := by decide +kernel
theorem dX7_year_78 : decode cX7_year 78 = .ok (.bipush 6, 2) := by decide +kernel
theorem dX7_year_80 : decode cX7_year 80 = .ok (.idiv, 1) := by decide +kernel
theorem dX7_year_81 : decode cX7_year 81 = .ok (.bipush 8, 2) := by decide +kernel
theorem dX7_year_83 : decode cX7_year 83 = .ok (.irem, 1) := by decide +kernel
theorem dX7_year_84 : decode cX7_year 84 = .ok (.istore 7, 2) := by decide +kernel
theorem dX7_year_86 : decode cX7_year 86 = .ok (.aload 4, 2) := by decide +kernel
theorem dX7_year_88 : decode cX7_year 88 = .ok (.iload 7, 2) := by decide +kernel
theorem dX7_year_90 : decode cX7_year 90 = .ok (.iload 5, 2) := by decide +kernel
theorem dX7_year_92 : decode cX7_year 92 = .ok (.bipush 6, 2) := by decide +kernel
theorem dX7_year_94 : decode cX7_year 94 = .ok (.irem, 1) := by decide +kernel
theorem dX7_year_95 : decode cX7_year 95 = .ok (.iload 7, 2) := by decide +kernel
theorem dX7_year_97 : decode cX7_year 97 = .ok (.iload 5, 2) := by decide +kernel
theorem dX7_year_99 : decode cX7_year 99 = .ok (.bipush 48, 2) := by decide +kernel
theorem dX7_year_101 : decode cX7_year 101 = .ok (.idiv, 1) := by decide +kernel
theorem dX7_year_102 : decode cX7_year 102 = .ok (.invokestatic 206, 3) := by decide +kernel
theorem dX7_year_105 : decode cX7_year 105 = .ok (.invokevirtual 209, 3) := by decide +kernel
theorem dX7_year_108 : decode cX7_year 108 = .ok (.pop, 1) := by decide +kernel
theorem dX7_year_109 : decode cX7_year 109 = .ok (.iinc 6 1, 3) := by decide +kernel
theorem dX7_year_112 : decode cX7_year 112 = .ok (.goto (-55), 3) := by decide +kernel
theorem dX7_year_115 : decode cX7_year 115 = .ok (.iload_n 3, 1) := by decide +kernel
theorem dX7_year_116 : decode cX7_year 116 = .ok (.lookupswitch 40 #[(0, 28), (1, 34)], 28) := by decide +kernel
theorem dX7_year_144 : decode cX7_year 144 = .ok (.aload 4, 2) := by decide +kernel
theorem dX7_year_146 : decode cX7_year 146 = .ok (.invokevirtual 122, 3) := by decide +kernel
theorem dX7_year_149 : decode cX7_year 149 = .ok (.ireturn, 1) := by decide +kernel
theorem dX7_year_150 : decode cX7_year 150 = .ok (.aload 4, 2) := by decide +kernel
theorem dX7_year_152 : decode cX7_year 152 = .ok (.invokevirtual 128, 3) := by decide +kernel
theorem dX7_year_155 : decode cX7_year 155 = .ok (.ireturn, 1) := by decide +kernel
theorem dX7_year_156 : decode cX7_year 156 = .ok (.aload 4, 2) := by decide +kernel
theorem dX7_year_158 : decode cX7_year 158 = .ok (.iconst (-1), 1) := by decide +kernel
theorem dX7_year_159 : decode cX7_year 159 = .ok (.invokevirtual 162, 3) := by decide +kernel
theorem dX7_year_162 : decode cX7_year 162 = .ok (.invokestatic 213, 3) := by decide +kernel
theorem dX7_year_165 : decode cX7_year 165 = .ok (.ireturn, 1) := by decide +kernel
theorem dX7_image_0 : decode cX7_image 0 = .ok (.iload_n 1, 1) := by decide +kernel
theorem dX7_image_1 : decode cX7_image 1 = .ok (.iconst 0, 1) := by decide +kernel
theorem dX7_image_2 : decode cX7_image 2 = .ok (.iconst 1, 1) := by decide +kernel
theorem dX7_image_3 : decode cX7_image 3 = .ok (.invokestatic 62, 3) := by decide +kernel
theorem dX7_image_6 : decode cX7_image 6 = .ok (.ifCond .ne 6, 3) := by decide +kernel
theorem dX7_image_9 : decode cX7_image 9 = .ok (.bipush (-2), 2) := by decide +kernel
theorem dX7_image_11 : decode cX7_image 11 = .ok (.ireturn, 1) := by decide +kernel
theorem dX7_image_12 : decode cX7_image 12 = .ok (.aload_n 0, 1) := by decide +kernel
theorem dX7_image_13 : decode cX7_image 13 = .ok (.getfield 53, 3) := by decide +kernel
theorem dX7_image_16 : decode cX7_image 16 = .ok (.iload_n 1, 1) := by decide +kernel
theorem dX7_image_17 : decode cX7_image 17 = .ok (.aaload, 1) := by decide +kernel
theorem dX7_image_18 : decode cX7_image 18 = .ok (.getfield 218, 3) := by decide +kernel
theorem dX7_image_21 : decode cX7_image 21 = .ok (.aload_n 0, 1) := by decide +kernel
theorem dX7_image_22 : decode cX7_image 22 = .ok (.getfield 10, 3) := by decide +kernel
theorem dX7_image_25 : decode cX7_image 25 = .ok (.invokevirtual 140, 3) := by decide +kernel
theorem dX7_image_28 : decode cX7_image 28 = .ok (.aload_n 0, 1) := by decide +kernel
theorem dX7_image_29 : decode cX7_image 29 = .ok (.getfield 53, 3) := by decide +kernel
theorem dX7_image_32 : decode cX7_image 32 = .ok (.iload_n 1, 1) := by decide +kernel
theorem dX7_image_33 : decode cX7_image 33 = .ok (.aaload, 1) := by decide +kernel
theorem dX7_image_34 : decode cX7_image 34 = .ok (.getfield 219, 3) := by decide +kernel
theorem dX7_image_37 : decode cX7_image 37 = .ok (.aload_n 0, 1) := by decide +kernel
theorem dX7_image_38 : decode cX7_image 38 = .ok (.getfield 19, 3) := by decide +kernel
theorem dX7_image_41 : decode cX7_image 41 = .ok (.invokevirtual 220, 3) := by decide +kernel
theorem dX7_image_44 : decode cX7_image 44 = .ok (.aload_n 0, 1) := by decide +kernel
theorem dX7_image_45 : decode cX7_image 45 = .ok (.getfield 53, 3) := by decide +kernel
theorem dX7_image_48 : decode cX7_image 48 = .ok (.iload_n 1, 1) := by decide +kernel
theorem dX7_image_49 : decode cX7_image 49 = .ok (.aaload, 1) := by decide +kernel
theorem dX7_image_50 : decode cX7_image 50 = .ok (.iconst 1, 1) := by decide +kernel
theorem dX7_image_51 : decode cX7_image 51 = .ok (.putfield 223, 3) := by decide +kernel
theorem dX7_image_54 : decode cX7_image 54 = .ok (.iconst 1, 1) := by decide +kernel
theorem dX7_image_55 : decode cX7_image 55 = .ok (.ireturn, 1) := by decide +kernel
theorem dX7_restore_0 : decode cX7_restore 0 = .ok (.iload_n 1, 1) := by decide +kernel
theorem dX7_restore_1 : decode cX7_restore 1 = .ok (.iconst 0, 1) := by decide +kernel
theorem dX7_restore_2 : decode cX7_restore 2 = .ok (.iconst 1, 1) := by decide +kernel
theorem dX7_restore_3 : decode cX7_restore 3 = .ok (.invokestatic 62, 3) := by decide +kernel
theorem dX7_restore_6 : decode cX7_restore 6 = .ok (.ifCond .ne 6, 3) := by decide +kernel
theorem dX7_restore_9 : decode cX7_restore 9 = .ok (.bipush (-2), 2) := by decide +kernel
theorem dX7_restore_11 : decode cX7_restore 11 = .ok (.ireturn, 1) := by decide +kernel
theorem dX7_restore_12 : decode cX7_restore 12 = .ok (.aload_n 0, 1) := by decide +kernel
theorem dX7_restore_13 : decode cX7_restore 13 = .ok (.getfield 53, 3) := by decide +kernel
theorem dX7_restore_16 : decode cX7_restore 16 = .ok (.iload_n 1, 1) := by decide +kernel
theorem dX7_restore_17 : decode cX7_restore 17 = .ok (.aaload, 1) := by decide +kernel
theorem dX7_restore_18 : decode cX7_restore 18 = .ok (.getfield 223, 3) := by decide +kernel
theorem dX7_restore_21 : decode cX7_restore 21 = .ok (.ifCond .ne 6, 3) := by decide +kernel
theorem dX7_restore_24 : decode cX7_restore 24 = .ok (.bipush (-3), 2) := by decide +kernel
theorem dX7_restore_26 : decode cX7_restore 26 = .ok (.ireturn, 1) := by decide +kernel
theorem dX7_restore_27 : decode cX7_restore 27 = .ok (.aload_n 0, 1) := by decide +kernel
theorem dX7_restore_28 : decode cX7_restore 28 = .ok (.getfield 10, 3) := by decide +kernel
theorem dX7_restore_31 : decode cX7_restore 31 = .ok (.aload_n 0, 1) := by decide +kernel
theorem dX7_restore_32 : decode cX7_restore 32 = .ok (.getfield 53, 3) := by decide +kernel
theorem dX7_restore_35 : decode cX7_restore 35 = .ok (.iload_n 1, 1) := by decide +kernel
theorem dX7_restore_36 : decode cX7_restore 36 = .ok (.aaload, 1) := by decide +kernel
theorem dX7_restore_37 : decode cX7_restore 37 = .ok (.getfield 218, 3) := by decide +kernel
theorem dX7_restore_40 : decode cX7_restore 40 = .ok (.invokevirtual 140, 3) := by decide +kernel
theorem dX7_restore_43 : decode cX7_restore 43 = .ok (.aload_n 0, 1) := by decide +kernel
theorem dX7_restore_44 : decode cX7_restore 44 = .ok (.getfield 19, 3) := by decide +kernel
theorem dX7_restore_47 : decode cX7_restore 47 = .ok (.aload_n 0, 1) := by decide +kernel
theorem dX7_restore_48 : decode cX7_restore 48 = .ok (.getfield 53, 3) := by decide +kernel
theorem dX7_restore_51 : decode cX7_restore 51 = .ok (.iload_n 1, 1) := by decide +kernel
theorem dX7_restore_52 : decode cX7_restore 52 = .ok (.aaload, 1) := by decide +kernel
theorem dX7_restore_53 : decode cX7_restore 53 = .ok (.getfield 219, 3) := by decide +kernel
theorem dX7_restore_56 : decode cX7_restore 56 = .ok (.invokevirtual 220, 3) := by decide +kernel
theorem dX7_restore_59 : decode cX7_restore 59 = .ok (.iconst 1, 1) := by decide +kernel
theorem dX7_restore_60 : decode cX7_restore 60 = .ok (.ireturn, 1) := by decide +kernel
theorem dX7_told_0 : decode cX7_told 0 = .ok (.iload_n 1, 1) := by decide +kernel
theorem dX7_told_1 : decode cX7_told 1 = .ok (.ifCond .ge 6, 3) := by decide +kernel
theorem dX7_told_4 : decode cX7_told 4 = .ok (.bipush (-2), 2) := by decide +kernel
theorem dX7_told_6 : decode cX7_told 6 = .ok (.ireturn, 1) := by decide +kernel
theorem dX7_told_7 : decode cX7_told 7 = .ok (.iload_n 1, 1) := by decide +kernel
theorem dX7_told_8 : decode cX7_told 8 = .ok (.bipush 10, 2) := by decide +kernel
theorem dX7_told_10 : decode cX7_told 10 = .ok (.if_icmp .ge 9, 3) := by decide +kernel
theorem dX7_told_13 : decode cX7_told 13 = .ok (.aload_n 0, 1) := by decide +kernel
theorem dX7_told_14 : decode cX7_told 14 = .ok (.iload_n 1, 1) := by decide +kernel
theorem dX7_told_15 : decode cX7_told 15 = .ok (.invokevirtual 227, 3) := by decide +kernel
theorem dX7_told_18 : decode cX7_told 18 = .ok (.ireturn, 1) := by decide +kernel
theorem dX7_told_19 : decode cX7_told 19 = .ok (.iload_n 1, 1) := by decide +kernel
theorem dX7_told_20 : decode cX7_told 20 = .ok (.bipush 10, 2) := by decide +kernel
theorem dX7_told_22 : decode cX7_told 22 = .ok (.irem, 1) := by decide +kernel
theorem dX7_told_23 : decode cX7_told 23 = .ok (.istore_n 2, 1) := by decide +kernel
theorem dX7_told_24 : decode cX7_told 24 = .ok (.iload_n 1, 1) := by decide +kernel
theorem dX7_told_25 : decode cX7_told 25 = .ok (.bipush 100, 2) := by decide +kernel
theorem dX7_told_27 : decode cX7_told 27 = .ok (.if_icmp .ge 15, 3) := by decide +kernel
theorem dX7_told_30 : decode cX7_told 30 = .ok (.aload_n 0, 1) := by decide +kernel
theorem dX7_told_31 : decode cX7_told 31 = .ok (.iload_n 1, 1) := by decide +kernel
theorem dX7_told_32 : decode cX7_told 32 = .ok (.bipush 10, 2) := by decide +kernel
theorem dX7_told_34 : decode cX7_told 34 = .ok (.idiv, 1) := by decide +kernel
theorem dX7_told_35 : decode cX7_told 35 = .ok (.iconst 1, 1) := by decide +kernel
theorem dX7_told_36 : decode cX7_told 36 = .ok (.isub, 1) := by decide +kernel
theorem dX7_told_37 : decode cX7_told 37 = .ok (.iload_n 2, 1) := by decide +kernel
theorem dX7_told_38 : decode cX7_told 38 = .ok (.invokevirtual 230, 3) := by decide +kernel
theorem dX7_told_41 : decode cX7_told 41 = .ok (.ireturn, 1) := by decide +kernel
theorem dX7_told_42 : decode cX7_told 42 = .ok (.iload_n 1, 1) := by decide +kernel
theorem dX7_told_43 : decode cX7_told 43 = .ok (.sipush 200, 3) := by decide +kernel
theorem dX7_told_46 : decode cX7_told 46 = .ok (.if_icmp .ge 16, 3) := by decide +kernel
theorem dX7_told_49 : decode cX7_told 49 = .ok (.aload_n 0, 1) := by decide +kernel
theorem dX7_told_50 : decode cX7_told 50 = .ok (.iload_n 1, 1) := by decide +kernel
theorem dX7_told_51 : decode cX7_told 51 = .ok (.bipush 10, 2) := by decide +kernel
theorem dX7_told_53 : decode cX7_told 53 = .ok (.idiv, 1) := by decide +kernel
theorem dX7_told_54 : decode cX7_told 54 = .ok (.bipush 10, 2) := by decide +kernel
theorem dX7_told_56 : decode cX7_told 56 = .ok (.isub, 1) := by decide +kernel
theorem dX7_told_57 : decode cX7_told 57 = .ok (.iload_n 2, 1) := by decide +kernel
theorem dX7_told_58 : decode cX7_told 58 = .ok (.invokevirtual 233, 3) := by decide +kernel
theorem dX7_told_61 : decode cX7_told 61 = .ok (.ireturn, 1) := by decide +kernel
theorem dX7_told_62 : decode cX7_told 62 = .ok (.aload_n 0, 1) := by decide +kernel
theorem dX7_told_63 : decode cX7_told 63 = .ok (.iload_n 1, 1) := by decide +kernel
theorem dX7_told_64 : decode cX7_told 64 = .ok (.bipush 10, 2) := by decide +kernel
theorem dX7_told_66 : decode cX7_told 66 = .ok (.idiv, 1) := by decide +kernel
theorem dX7_told_67 : decode cX7_told 67 = .ok (.bipush 20, 2) := by decide +kernel
theorem dX7_told_69 : decode cX7_told 69 = .ok (.isub, 1) := by decide +kernel
theorem dX7_told_70 : decode cX7_told 70 = .ok (.iload_n 2, 1) := by decide +kernel
theorem dX7_told_71 : decode cX7_told 71 = .ok (.invokevirtual 236, 3) := by decide +kernel
theorem dX7_told_74 : decode cX7_told 74 = .ok (.ireturn, 1) := by decide +kernel
theorem dX7_toldOfAll_0 : decode cX7_toldOfAll 0 = .ok (.iload_n 1, 1) := by decide +kernel
theorem dX7_toldOfAll_1 : decode cX7_toldOfAll 1 = .ok (.tableswitch 123 0 8 #[51, 59, 67, 75, 83, 91, 99, 107, 115], 51) := by decide +kernel
theorem dX7_toldOfAll_52 : decode cX7_toldOfAll 52 = .ok (.aload_n 0, 1) := by decide +kernel
theorem dX7_toldOfAll_53 : decode cX7_toldOfAll 53 = .ok (.getfield 26, 3) := by decide +kernel
theorem dX7_toldOfAll_56 : decode cX7_toldOfAll 56 = .ok (.getfield 91, 3) := by decide +kernel
theorem dX7_toldOfAll_59 : decode cX7_toldOfAll 59 = .ok (.ireturn, 1) := by decide +kernel
theorem dX7_toldOfAll_60 : decode cX7_toldOfAll 60 = .ok (.aload_n 0, 1) := by decide +kernel
theorem dX7_toldOfAll_61 : decode cX7_toldOfAll 61 = .ok (.getfield 10, 3) := by decide +kernel
theorem dX7_toldOfAll_64 : decode cX7_toldOfAll 64 = .ok (.getfield 84, 3) := by decide +kernel
theorem dX7_toldOfAll_67 : decode cX7_toldOfAll 67 = .ok (.ireturn, 1) := by decide +kernel
theorem dX7_toldOfAll_68 : decode cX7_toldOfAll 68 = .ok (.aload_n 0, 1) := by decide +kernel
theorem dX7_toldOfAll_69 : decode cX7_toldOfAll 69 = .ok (.getfield 10, 3) := by decide +kernel
theorem dX7_toldOfAll_72 : decode cX7_toldOfAll 72 = .ok (.getfield 88, 3) := by decide +kernel
theorem dX7_toldOfAll_75 : decode cX7_toldOfAll 75 = .ok (.ireturn, 1) := by decide +kernel
theorem dX7_toldOfAll_76 : decode cX7_toldOfAll 76 = .ok (.aload_n 0, 1) := by decide +kernel
theorem dX7_toldOfAll_77 : decode cX7_toldOfAll 77 = .ok (.getfield 10, 3) := by decide +kernel
theorem dX7_toldOfAll_80 : decode cX7_toldOfAll 80 = .ok (.getfield 131, 3) := by decide +kernel
theorem dX7_toldOfAll_83 : decode cX7_toldOfAll 83 = .ok (.ireturn, 1) := by decide +kernel
theorem dX7_toldOfAll_84 : decode cX7_toldOfAll 84 = .ok (.aload_n 0, 1) := by decide +kernel
theorem dX7_toldOfAll_85 : decode cX7_toldOfAll 85 = .ok (.getfield 10, 3) := by decide +kernel
theorem dX7_toldOfAll_88 : decode cX7_toldOfAll 88 = .ok (.getfield 134, 3) := by decide +kernel
theorem dX7_toldOfAll_91 : decode cX7_toldOfAll 91 = .ok (.ireturn, 1) := by decide +kernel
theorem dX7_toldOfAll_92 : decode cX7_toldOfAll 92 = .ok (.aload_n 0, 1) := by decide +kernel
theorem dX7_toldOfAll_93 : decode cX7_toldOfAll 93 = .ok (.getfield 19, 3) := by decide +kernel
theorem dX7_toldOfAll_96 : decode cX7_toldOfAll 96 = .ok (.getfield 191, 3) := by decide +kernel
theorem dX7_toldOfAll_99 : decode cX7_toldOfAll 99 = .ok (.ireturn, 1) := by decide +kernel
theorem dX7_toldOfAll_100 : decode cX7_toldOfAll 100 = .ok (.aload_n 0, 1) := by decide +kernel
theorem dX7_toldOfAll_101 : decode cX7_toldOfAll 101 = .ok (.getfield 10, 3) := by decide +kernel
theorem dX7_toldOfAll_104 : decode cX7_toldOfAll 104 = .ok (.invokevirtual 122, 3) := by decide +kernel
theorem dX7_toldOfAll_107 : decode cX7_toldOfAll 107 = .ok (.ireturn, 1) := by decide +kernel
theorem dX7_toldOfAll_108 : decode cX7_toldOfAll 108 = .ok (.aload_n 0, 1) := by decide +kernel
theorem dX7_toldOfAll_109 : decode cX7_toldOfAll 109 = .ok (.getfield 10, 3) := by decide +kernel
theorem dX7_toldOfAll_112 : decode cX7_toldOfAll 112 = .ok (.invokevirtual 125, 3) := by decide +kernel
theorem dX7_toldOfAll_115 : decode cX7_toldOfAll 115 = .ok (.ireturn, 1) := by decide +kernel
theorem dX7_toldOfAll_116 : decode cX7_toldOfAll 116 = .ok (.aload_n 0, 1) := by decide +kernel
theorem dX7_toldOfAll_117 : decode cX7_toldOfAll 117 = .ok (.getfield 10, 3) := by decide +kernel
theorem dX7_toldOfAll_120 : decode cX7_toldOfAll 120 = .ok (.invokevirtual 128, 3) := by decide +kernel
theorem dX7_toldOfAll_123 : decode cX7_toldOfAll 123 = .ok (.ireturn, 1) := by decide +kernel
theorem dX7_toldOfAll_124 : decode cX7_toldOfAll 124 = .ok (.bipush (-2), 2) := by decide +kernel
theorem dX7_toldOfAll_126 : decode cX7_toldOfAll 126 = .ok (.ireturn, 1) := by decide +kernel
theorem dX7_toldOfOne_0 : decode cX7_toldOfOne 0 = .ok (.iload_n 1, 1) := by decide +kernel
theorem dX7_toldOfOne_1 : decode cX7_toldOfOne 1 = .ok (.invokestatic 58, 3) := by decide +kernel
theorem dX7_toldOfOne_4 : decode cX7_toldOfOne 4 = .ok (.ifCond .eq 20, 3) := by decide +kernel
theorem dX7_toldOfOne_7 : decode cX7_toldOfOne 7 = .ok (.iload_n 2, 1) := by decide +kernel
theorem dX7_toldOfOne_8 : decode cX7_toldOfOne 8 = .ok (.iconst 2, 1) := by decide +kernel
theorem dX7_toldOfOne_9 : decode cX7_toldOfOne 9 = .ok (.if_icmp .gt 15, 3) := by decide +kernel
theorem dX7_toldOfOne_12 : decode cX7_toldOfOne 12 = .ok (.aload_n 0, 1) := by decide +kernel
theorem dX7_toldOfOne_13 : decode cX7_toldOfOne 13 = .ok (.getfield 10, 3) := by decide +kernel
theorem dX7_toldOfOne_16 : decode cX7_toldOfOne 16 = .ok (.iload_n 1, 1) := by decide +kernel
theorem dX7_toldOfOne_17 : decode cX7_toldOfOne 17 = .ok (.iload_n 2, 1) := by decide +kernel
theorem dX7_toldOfOne_18 : decode cX7_toldOfOne 18 = .ok (.invokevirtual 118, 3) := by decide +kernel
theorem dX7_toldOfOne_21 : decode cX7_toldOfOne 21 = .ok (.goto 5, 3) := by decide +kernel
theorem dX7_toldOfOne_24 : decode cX7_toldOfOne 24 = .ok (.bipush (-2), 2) := by decide +kernel
theorem dX7_toldOfOne_26 : decode cX7_toldOfOne 26 = .ok (.ireturn, 1) := by decide +kernel
theorem dX7_toldOfLot_0 : decode cX7_toldOfLot 0 = .ok (.iload_n 1, 1) := by decide +kernel
theorem dX7_toldOfLot_1 : decode cX7_toldOfLot 1 = .ok (.iconst 0, 1) := by decide +kernel
theorem dX7_toldOfLot_2 : decode cX7_toldOfLot 2 = .ok (.bipush 7, 2) := by decide +kernel
theorem dX7_toldOfLot_4 : decode cX7_toldOfLot 4 = .ok (.invokestatic 62, 3) := by decide +kernel
theorem dX7_toldOfLot_7 : decode cX7_toldOfLot 7 = .ok (.ifCond .eq 8, 3) := by decide +kernel
theorem dX7_toldOfLot_10 : decode cX7_toldOfLot 10 = .ok (.iload_n 2, 1) := by decide +kernel
theorem dX7_toldOfLot_11 : decode cX7_toldOfLot 11 = .ok (.iconst 1, 1) := by decide +kernel
theorem dX7_toldOfLot_12 : decode cX7_toldOfLot 12 = .ok (.if_icmp .le 6, 3) := by decide +kernel
theorem dX7_toldOfLot_15 : decode cX7_toldOfLot 15 = .ok (.bipush (-2), 2) := by decide +kernel
theorem dX7_toldOfLot_17 : decode cX7_toldOfLot 17 = .ok (.ireturn, 1) := by decide +kernel
theorem dX7_toldOfLot_18 : decode cX7_toldOfLot 18 = .ok (.iload_n 2, 1) := by decide +kernel
theorem dX7_toldOfLot_19 : decode cX7_toldOfLot 19 = .ok (.ifCond .ne 13, 3) := by decide +kernel
theorem dX7_toldOfLot_22 : decode cX7_toldOfLot 22 = .ok (.aload_n 0, 1) := by decide +kernel
theorem dX7_toldOfLot_23 : decode cX7_toldOfLot 23 = .ok (.getfield 10, 3) := by decide +kernel
theorem dX7_toldOfLot_26 : decode cX7_toldOfLot 26 = .ok (.getfield 77, 3) := by decide +kernel
theorem dX7_toldOfLot_29 : decode cX7_toldOfLot 29 = .ok (.iload_n 1, 1) := by decide +kernel
theorem dX7_toldOfLot_30 : decode cX7_toldOfLot 30 = .ok (.iaload, 1) := by decide +kernel
theorem dX7_toldOfLot_31 : decode cX7_toldOfLot 31 = .ok (.ireturn, 1) := by decide +kernel
theorem dX7_toldOfLot_32 : decode cX7_toldOfLot 32 = .ok (.aload_n 0, 1) := by decide +kernel
theorem dX7_toldOfLot_33 : decode cX7_toldOfLot 33 = .ok (.getfield 10, 3) := by decide +kernel
theorem dX7_toldOfLot_36 : decode cX7_toldOfLot 36 = .ok (.getfield 80, 3) := by decide +kernel
theorem dX7_toldOfLot_39 : decode cX7_toldOfLot 39 = .ok (.iload_n 1, 1) := by decide +kernel
theorem dX7_toldOfLot_40 : decode cX7_toldOfLot 40 = .ok (.iaload, 1) := by decide +kernel
theorem dX7_toldOfLot_41 : decode cX7_toldOfLot 41 = .ok (.iconst (-1), 1) := by decide +kernel
theorem dX7_toldOfLot_42 : decode cX7_toldOfLot 42 = .ok (.if_icmp .ne 8, 3) := by decide +kernel
theorem dX7_toldOfLot_45 : decode cX7_toldOfLot 45 = .ok (.bipush (-6), 2) := by decide +kernel
theorem dX7_toldOfLot_47 : decode cX7_toldOfLot 47 = .ok (.goto 12, 3) := by decide +kernel
theorem dX7_toldOfLot_50 : decode cX7_toldOfLot 50 = .ok (.aload_n 0, 1) := by decide +kernel
theorem dX7_toldOfLot_51 : decode cX7_toldOfLot 51 = .ok (.getfield 10, 3) := by decide +kernel
theorem dX7_toldOfLot_54 : decode cX7_toldOfLot 54 = .ok (.getfield 80, 3) := by decide +kernel
theorem dX7_toldOfLot_57 : decode cX7_toldOfLot 57 = .ok (.iload_n 1, 1) := by decide +kernel
theorem dX7_toldOfLot_58 : decode cX7_toldOfLot 58 = .ok (.iaload, 1) := by decide +kernel
theorem dX7_toldOfLot_59 : decode cX7_toldOfLot 59 = .ok (.ireturn, 1) := by decide +kernel
theorem dX7_toldOfDebt_0 : decode cX7_toldOfDebt 0 = .ok (.iload_n 1, 1) := by decide +kernel
theorem dX7_toldOfDebt_1 : decode cX7_toldOfDebt 1 = .ok (.invokestatic 58, 3) := by decide +kernel
theorem dX7_toldOfDebt_4 : decode cX7_toldOfDebt 4 = .ok (.ifCond .eq 24, 3) := by decide +kernel
theorem dX7_toldOfDebt_7 : decode cX7_toldOfDebt 7 = .ok (.iload_n 2, 1) := by decide +kernel
theorem dX7_toldOfDebt_8 : decode cX7_toldOfDebt 8 = .ok (.invokestatic 58, 3) := by decide +kernel
theorem dX7_toldOfDebt_11 : decode cX7_toldOfDebt 11 = .ok (.ifCond .eq 17, 3) := by decide +kernel
theorem dX7_toldOfDebt_14 : decode cX7_toldOfDebt 14 = .ok (.aload_n 0, 1) := by decide +kernel
theorem dX7_toldOfDebt_15 : decode cX7_toldOfDebt 15 = .ok (.getfield 10, 3) := by decide +kernel
theorem dX7_toldOfDebt_18 : decode cX7_toldOfDebt 18 = .ok (.getfield 73, 3) := by decide +kernel
theorem dX7_toldOfDebt_21 : decode cX7_toldOfDebt 21 = .ok (.iload_n 1, 1) := by decide +kernel
theorem dX7_toldOfDebt_22 : decode cX7_toldOfDebt 22 = .ok (.aaload, 1) := by decide +kernel
theorem dX7_toldOfDebt_23 : decode cX7_toldOfDebt 23 = .ok (.iload_n 2, 1) := by decide +kernel
theorem dX7_toldOfDebt_24 : decode cX7_toldOfDebt 24 = .ok (.iaload, 1) := by decide +kernel
theorem dX7_toldOfDebt_25 : decode cX7_toldOfDebt 25 = .ok (.goto 5, 3) := by decide +kernel
theorem dX7_toldOfDebt_28 : decode cX7_toldOfDebt 28 = .ok (.bipush (-2), 2) := by decide +kernel
theorem dX7_toldOfDebt_30 : decode cX7_toldOfDebt 30 = .ok (.ireturn, 1) := by decide +kernel
theorem dX7_within_0 : decode cX7_within 0 = .ok (.iload_n 0, 1) := by decide +kernel
theorem dX7_within_1 : decode cX7_within 1 = .ok (.iload_n 1, 1) := by decide +kernel
theorem dX7_within_2 : decode cX7_within 2 = .ok (.if_icmp .lt 12, 3) := by decide +kernel
theorem dX7_within_5 : decode cX7_within 5 = .ok (.iload_n 0, 1) := by decide +kernel
theorem dX7_within_6 : decode cX7_within 6 = .ok (.iload_n 2, 1) := by decide +kernel
theorem dX7_within_7 : decode cX7_within 7 = .ok (.if_icmp .gt 7, 3) := by decide +kernel
theorem dX7_within_10 : decode cX7_within 10 = .ok (.iconst 1, 1) := by decide +kernel
theorem dX7_within_11 : decode cX7_within 11 = .ok (.goto 4, 3) := by decide +kernel
theorem dX7_within_14 : decode cX7_within 14 = .ok (.iconst 0, 1) := by decide +kernel
theorem dX7_within_15 : decode cX7_within 15 = .ok (.ireturn, 1) := by decide +kernel
theorem dX7_isOne_0 : decode cX7_isOne 0 = .ok (.iload_n 0, 1) := by decide +kernel
theorem dX7_isOne_1 : decode cX7_isOne 1 = .ok (.iconst 0, 1) := by decide +kernel
theorem dX7_isOne_2 : decode cX7_isOne 2 = .ok (.iconst 5, 1) := by decide +kernel
theorem dX7_isOne_3 : decode cX7_isOne 3 = .ok (.invokestatic 62, 3) := by decide +kernel
theorem dX7_isOne_6 : decode cX7_isOne 6 = .ok (.ireturn, 1) := by decide +kernel
theorem dX7_rateOf_0 : decode cX7_rateOf 0 = .ok (.iload_n 1, 1) := by decide +kernel
theorem dX7_rateOf_1 : decode cX7_rateOf 1 = .ok (.ifCond .gt 8, 3) := by decide +kernel
theorem dX7_rateOf_4 : decode cX7_rateOf 4 = .ok (.bipush 100, 2) := by decide +kernel
theorem dX7_rateOf_6 : decode cX7_rateOf 6 = .ok (.goto 14, 3) := by decide +kernel
theorem dX7_rateOf_9 : decode cX7_rateOf 9 = .ok (.bipush 100, 2) := by decide +kernel
theorem dX7_rateOf_11 : decode cX7_rateOf 11 = .ok (.bipush 100, 2) := by decide +kernel
theorem dX7_rateOf_13 : decode cX7_rateOf 13 = .ok (.iload_n 0, 1) := by decide +kernel
theorem dX7_rateOf_14 : decode cX7_rateOf 14 = .ok (.imul, 1) := by decide +kernel
theorem dX7_rateOf_15 : decode cX7_rateOf 15 = .ok (.iload_n 1, 1) := by decide +kernel
theorem dX7_rateOf_16 : decode cX7_rateOf 16 = .ok (.idiv, 1) := by decide +kernel
theorem dX7_rateOf_17 : decode cX7_rateOf 17 = .ok (.invokestatic 157, 3) := by decide +kernel
theorem dX7_rateOf_20 : decode cX7_rateOf 20 = .ok (.ireturn, 1) := by decide +kernel
theorem dX7_drawnNumber_0 : decode cX7_drawnNumber 0 = .ok (.iload_n 0, 1) := by decide +kernel
theorem dX7_drawnNumber_1 : decode cX7_drawnNumber 1 = .ok (.iconst 2, 1) := by decide +kernel
theorem dX7_drawnNumber_2 : decode cX7_drawnNumber 2 = .ok (.if_icmp .eq 8, 3) := by decide +kernel
theorem dX7_drawnNumber_5 : decode cX7_drawnNumber 5 = .ok (.iload_n 0, 1) := by decide +kernel
theorem dX7_drawnNumber_6 : decode cX7_drawnNumber 6 = .ok (.iconst 3, 1) := by decide +kernel
theorem dX7_drawnNumber_7 : decode cX7_drawnNumber 7 = .ok (.if_icmp .ne 8, 3) := by decide +kernel
theorem dX7_drawnNumber_10 : decode cX7_drawnNumber 10 = .ok (.iload_n 1, 1) := by decide +kernel
theorem dX7_drawnNumber_11 : decode cX7_drawnNumber 11 = .ok (.bipush 8, 2) := by decide +kernel
theorem dX7_drawnNumber_13 : decode cX7_drawnNumber 13 = .ok (.irem, 1) := by decide +kernel
theorem dX7_drawnNumber_14 : decode cX7_drawnNumber 14 = .ok (.ireturn, 1) := by decide +kernel
theorem dX7_drawnNumber_15 : decode cX7_drawnNumber 15 = .ok (.iload_n 0, 1) := by decide +kernel
theorem dX7_drawnNumber_16 : decode cX7_drawnNumber 16 = .ok (.iconst 5, 1) := by decide +kernel
theorem dX7_drawnNumber_17 : decode cX7_drawnNumber 17 = .ok (.if_icmp .ne 10, 3) := by decide +kernel
theorem dX7_drawnNumber_20 : decode cX7_drawnNumber 20 = .ok (.iload_n 1, 1) := by decide +kernel
theorem dX7_drawnNumber_21 : decode cX7_drawnNumber 21 = .ok (.bipush 6, 2) := by decide +kernel
theorem dX7_drawnNumber_23 : decode cX7_drawnNumber 23 = .ok (.irem, 1) := by decide +kernel
theorem dX7_drawnNumber_24 : decode cX7_drawnNumber 24 = .ok (.goto 9, 3) := by decide +kernel
theorem dX7_drawnNumber_27 : decode cX7_drawnNumber 27 = .ok (.iconst 1, 1) := by decide +kernel
theorem dX7_drawnNumber_28 : decode cX7_drawnNumber 28 = .ok (.iload_n 1, 1) := by decide +kernel
theorem dX7_drawnNumber_29 : decode cX7_drawnNumber 29 = .ok (.bipush 9, 2) := by decide +kernel
theorem dX7_drawnNumber_31 : decode cX7_drawnNumber 31 = .ok (.irem, 1) := by decide +kernel
theorem dX7_drawnNumber_32 : decode cX7_drawnNumber 32 = .ok (.iadd, 1) := by decide +kernel
theorem dX7_drawnNumber_33 : decode cX7_drawnNumber 33 = .ok (.ireturn, 1) := by decide +kernel
theorem dX7_choices_0 : decode cX7_choices 0 = .ok (.iload_n 1, 1) := by decide +kernel
theorem dX7_choices_1 : decode cX7_choices 1 = .ok (.ifCond .lt 8, 3) := by decide +kernel
theorem dX7_choices_4 : decode cX7_choices 4 = .ok (.iload_n 1, 1) := by decide +kernel
theorem dX7_choices_5 : decode cX7_choices 5 = .ok (.iload_n 0, 1) := by decide +kernel
theorem dX7_choices_6 : decode cX7_choices 6 = .ok (.if_icmp .le 5, 3) := by decide +kernel
theorem dX7_choices_9 : decode cX7_choices 9 = .ok (.lconst 0, 1) := by decide +kernel
theorem dX7_choices_10 : decode cX7_choices 10 = .ok (.lreturn, 1) := by decide +kernel
theorem dX7_choices_11 : decode cX7_choices 11 = .ok (.lconst 1, 1) := by decide +kernel
theorem dX7_choices_12 : decode cX7_choices 12 = .ok (.lstore_n 2, 1) := by decide +kernel
theorem dX7_choices_13 : decode cX7_choices 13 = .ok (.iconst 1, 1) := by decide +kernel
theorem dX7_choices_14 : decode cX7_choices 14 = .ok (.istore 4, 2) := by decide +kernel
theorem dX7_choices_16 : decode cX7_choices 16 = .ok (.iload 4, 2) := by decide +kernel
theorem dX7_choices_18 : decode cX7_choices 18 = .ok (.iload_n 1, 1) := by decide +kernel
theorem dX7_choices_19 : decode cX7_choices 19 = .ok (.if_icmp .gt 23, 3) := by decide +kernel
theorem dX7_choices_22 : decode cX7_choices 22 = .ok (.lload_n 2, 1) := by decide +kernel
theorem dX7_choices_23 : decode cX7_choices 23 = .ok (.iload_n 0, 1) := by decide +kernel
theorem dX7_choices_24 : decode cX7_choices 24 = .ok (.iload_n 1, 1) := by decide +kernel
theorem dX7_choices_25 : decode cX7_choices 25 = .ok (.isub, 1) := by decide +kernel
theorem dX7_choices_26 : decode cX7_choices 26 = .ok (.iload 4, 2) := by decide +kernel
theorem dX7_choices_28 : decode cX7_choices 28 = .ok (.iadd, 1) := by decide +kernel
theorem dX7_choices_29 : decode cX7_choices 29 = .ok (.i2l, 1) := by decide +kernel
theorem dX7_choices_30 : decode cX7_choices 30 = .ok (.lmul, 1) := by decide +kernel
theorem dX7_choices_31 : decode cX7_choices 31 = .ok (.iload 4, 2) := by decide +kernel
theorem dX7_choices_33 : decode cX7_choices 33 = .ok (.i2l, 1) := by decide +kernel
theorem dX7_choices_34 : decode cX7_choices 34 = .ok (.ldiv, 1) := by decide +kernel
theorem dX7_choices_35 : decode cX7_choices 35 = .ok (.lstore_n 2, 1) := by decide +kernel
theorem dX7_choices_36 : decode cX7_choices 36 = .ok (.iinc 4 1, 3) := by decide +kernel
theorem dX7_choices_39 : decode cX7_choices 39 = .ok (.goto (-23), 3) := by decide +kernel
theorem dX7_choices_42 : decode cX7_choices 42 = .ok (.lload_n 2, 1) := by decide +kernel
theorem dX7_choices_43 : decode cX7_choices 43 = .ok (.lreturn, 1) := by decide +kernel
theorem dX7_lowest_0 : decode cX7_lowest 0 = .ok (.lload_n 2, 1) := by decide +kernel
theorem dX7_lowest_1 : decode cX7_lowest 1 = .ok (.lstore 5, 2) := by decide +kernel
theorem dX7_lowest_3 : decode cX7_lowest 3 = .ok (.lload_n 0, 1) := by decide +kernel
theorem dX7_lowest_4 : decode cX7_lowest 4 = .ok (.lstore 7, 2) := by decide +kernel
theorem dX7_lowest_6 : decode cX7_lowest 6 = .ok (.iconst 0, 1) := by decide +kernel
theorem dX7_lowest_7 : decode cX7_lowest 7 = .ok (.istore 9, 2) := by decide +kernel
theorem dX7_lowest_9 : decode cX7_lowest 9 = .ok (.iload 9, 2) := by decide +kernel
theorem dX7_lowest_11 : decode cX7_lowest 11 = .ok (.sipush 200, 3) := by decide +kernel
theorem dX7_lowest_14 : decode cX7_lowest 14 = .ok (.if_icmp .ge 31, 3) := by decide +kernel
theorem dX7_lowest_17 : decode cX7_lowest 17 = .ok (.lload 7, 2) := by decide +kernel
theorem dX7_lowest_19 : decode cX7_lowest 19 = .ok (.lconst 0, 1) := by decide +kernel
theorem dX7_lowest_20 : decode cX7_lowest 20 = .ok (.lcmp, 1) := by decide +kernel
theorem dX7_lowest_21 : decode cX7_lowest 21 = .ok (.ifCond .eq 24, 3) := by decide +kernel
theorem dX7_lowest_24 : decode cX7_lowest 24 = .ok (.lload 5, 2) := by decide +kernel
theorem dX7_lowest_26 : decode cX7_lowest 26 = .ok (.lload 7, 2) := by decide +kernel
theorem dX7_lowest_28 : decode cX7_lowest 28 = .ok (.lrem, 1) := by decide +kernel
theorem dX7_lowest_29 : decode cX7_lowest 29 = .ok (.lstore 10, 2) := by decide +kernel
theorem dX7_lowest_31 : decode cX7_lowest 31 = .ok (.lload 7, 2) := by decide +kernel
theorem dX7_lowest_33 : decode cX7_lowest 33 = .ok (.lstore 5, 2) := by decide +kernel
theorem dX7_lowest_35 : decode cX7_lowest 35 = .ok (.lload 10, 2) := by decide +kernel
theorem dX7_lowest_37 : decode cX7_lowest 37 = .ok (.lstore 7, 2) := by decide +kernel
theorem dX7_lowest_39 : decode cX7_lowest 39 = .ok (.iinc 9 1, 3) := by decide +kernel
theorem dX7_lowest_42 : decode cX7_lowest 42 = .ok (.goto (-33), 3) := by decide +kernel
theorem dX7_lowest_45 : decode cX7_lowest 45 = .ok (.lload 5, 2) := by decide +kernel
theorem dX7_lowest_47 : decode cX7_lowest 47 = .ok (.lconst 0, 1) := by decide +kernel
theorem dX7_lowest_48 : decode cX7_lowest 48 = .ok (.lcmp, 1) := by decide +kernel
theorem dX7_lowest_49 : decode cX7_lowest 49 = .ok (.ifCond .ne 5, 3) := by decide +kernel
theorem dX7_lowest_52 : decode cX7_lowest 52 = .ok (.lconst 0, 1) := by decide +kernel
theorem dX7_lowest_53 : decode cX7_lowest 53 = .ok (.lreturn, 1) := by decide +kernel
theorem dX7_lowest_54 : decode cX7_lowest 54 = .ok (.iload 4, 2) := by decide +kernel
theorem dX7_lowest_56 : decode cX7_lowest 56 = .ok (.ifCond .ne 7, 3) := by decide +kernel
theorem dX7_lowest_59 : decode cX7_lowest 59 = .ok (.lload_n 0, 1) := by decide +kernel
theorem dX7_lowest_60 : decode cX7_lowest 60 = .ok (.goto 4, 3) := by decide +kernel
theorem dX7_lowest_63 : decode cX7_lowest 63 = .ok (.lload_n 2, 1) := by decide +kernel
theorem dX7_lowest_64 : decode cX7_lowest 64 = .ok (.lload 5, 2) := by decide +kernel
theorem dX7_lowest_66 : decode cX7_lowest 66 = .ok (.ldiv, 1) := by decide +kernel
theorem dX7_lowest_67 : decode cX7_lowest 67 = .ok (.lreturn, 1) := by decide +kernel
theorem dJ6_bitCount_0f7a4_0 : decode cJ6_bitCount_0f7a4 0 = .ok (.iload_n 0, 1) := by decide +kernel
theorem dJ6_bitCount_0f7a4_1 : decode cJ6_bitCount_0f7a4 1 = .ok (.iload_n 0, 1) := by decide +kernel
theorem dJ6_bitCount_0f7a4_2 : decode cJ6_bitCount_0f7a4 2 = .ok (.iconst 1, 1) := by decide +kernel
theorem dJ6_bitCount_0f7a4_3 : decode cJ6_bitCount_0f7a4 3 = .ok (.iushr, 1) := by decide +kernel
theorem dJ6_bitCount_0f7a4_4 : decode cJ6_bitCount_0f7a4 4 = .ok (.ldc_w 265, 3) := by decide +kernel
theorem dJ6_bitCount_0f7a4_7 : decode cJ6_bitCount_0f7a4 7 = .ok (.iand, 1) := by decide +kernel
theorem dJ6_bitCount_0f7a4_8 : decode cJ6_bitCount_0f7a4 8 = .ok (.isub, 1) := by decide +kernel
theorem dJ6_bitCount_0f7a4_9 : decode cJ6_bitCount_0f7a4 9 = .ok (.istore_n 0, 1) := by decide +kernel
theorem dJ6_bitCount_0f7a4_10 : decode cJ6_bitCount_0f7a4 10 = .ok (.iload_n 0, 1) := by decide +kernel
theorem dJ6_bitCount_0f7a4_11 : decode cJ6_bitCount_0f7a4 11 = .ok (.ldc_w 266, 3) := by decide +kernel
theorem dJ6_bitCount_0f7a4_14 : decode cJ6_bitCount_0f7a4 14 = .ok (.iand, 1) := by decide +kernel
theorem dJ6_bitCount_0f7a4_15 : decode cJ6_bitCount_0f7a4 15 = .ok (.iload_n 0, 1) := by decide +kernel
theorem dJ6_bitCount_0f7a4_16 : decode cJ6_bitCount_0f7a4 16 = .ok (.iconst 2, 1) := by decide +kernel
theorem dJ6_bitCount_0f7a4_17 : decode cJ6_bitCount_0f7a4 17 = .ok (.iushr, 1) := by decide +kernel
theorem dJ6_bitCount_0f7a4_18 : decode cJ6_bitCount_0f7a4 18 = .ok (.ldc_w 266, 3) := by decide +kernel
theorem dJ6_bitCount_0f7a4_21 : decode cJ6_bitCount_0f7a4 21 = .ok (.iand, 1) := by decide +kernel
theorem dJ6_bitCount_0f7a4_22 : decode cJ6_bitCount_0f7a4 22 = .ok (.iadd, 1) := by decide +kernel
theorem dJ6_bitCount_0f7a4_23 : decode cJ6_bitCount_0f7a4 23 = .ok (.istore_n 0, 1) := by decide +kernel
theorem dJ6_bitCount_0f7a4_24 : decode cJ6_bitCount_0f7a4 24 = .ok (.iload_n 0, 1) := by decide +kernel
theorem dJ6_bitCount_0f7a4_25 : decode cJ6_bitCount_0f7a4 25 = .ok (.iload_n 0, 1) := by decide +kernel
theorem dJ6_bitCount_0f7a4_26 : decode cJ6_bitCount_0f7a4 26 = .ok (.iconst 4, 1) := by decide +kernel
theorem dJ6_bitCount_0f7a4_27 : decode cJ6_bitCount_0f7a4 27 = .ok (.iushr, 1) := by decide +kernel
theorem dJ6_bitCount_0f7a4_28 : decode cJ6_bitCount_0f7a4 28 = .ok (.iadd, 1) := by decide +kernel
theorem dJ6_bitCount_0f7a4_29 : decode cJ6_bitCount_0f7a4 29 = .ok (.ldc_w 267, 3) := by decide +kernel
theorem dJ6_bitCount_0f7a4_32 : decode cJ6_bitCount_0f7a4 32 = .ok (.iand, 1) := by decide +kernel
theorem dJ6_bitCount_0f7a4_33 : decode cJ6_bitCount_0f7a4 33 = .ok (.istore_n 0, 1) := by decide +kernel
theorem dJ6_bitCount_0f7a4_34 : decode cJ6_bitCount_0f7a4 34 = .ok (.iload_n 0, 1) := by decide +kernel
theorem dJ6_bitCount_0f7a4_35 : decode cJ6_bitCount_0f7a4 35 = .ok (.iload_n 0, 1) := by decide +kernel
theorem dJ6_bitCount_0f7a4_36 : decode cJ6_bitCount_0f7a4 36 = .ok (.bipush 8, 2) := by decide +kernel
theorem dJ6_bitCount_0f7a4_38 : decode cJ6_bitCount_0f7a4 38 = .ok (.iushr, 1) := by decide +kernel
theorem dJ6_bitCount_0f7a4_39 : decode cJ6_bitCount_0f7a4 39 = .ok (.iadd, 1) := by decide +kernel
theorem dJ6_bitCount_0f7a4_40 : decode cJ6_bitCount_0f7a4 40 = .ok (.istore_n 0, 1) := by decide +kernel
theorem dJ6_bitCount_0f7a4_41 : decode cJ6_bitCount_0f7a4 41 = .ok (.iload_n 0, 1) := by decide +kernel
theorem dJ6_bitCount_0f7a4_42 : decode cJ6_bitCount_0f7a4 42 = .ok (.iload_n 0, 1) := by decide +kernel
theorem dJ6_bitCount_0f7a4_43 : decode cJ6_bitCount_0f7a4 43 = .ok (.bipush 16, 2) := by decide +kernel
theorem dJ6_bitCount_0f7a4_45 : decode cJ6_bitCount_0f7a4 45 = .ok (.iushr, 1) := by decide +kernel
theorem dJ6_bitCount_0f7a4_46 : decode cJ6_bitCount_0f7a4 46 = .ok (.iadd, 1) := by decide +kernel
theorem dJ6_bitCount_0f7a4_47 : decode cJ6_bitCount_0f7a4 47 = .ok (.istore_n 0, 1) := by decide +kernel
theorem dJ6_bitCount_0f7a4_48 : decode cJ6_bitCount_0f7a4 48 = .ok (.iload_n 0, 1) := by decide +kernel
theorem dJ6_bitCount_0f7a4_49 : decode cJ6_bitCount_0f7a4 49 = .ok (.bipush 63, 2) := by decide +kernel
theorem dJ6_bitCount_0f7a4_51 : decode cJ6_bitCount_0f7a4 51 = .ok (.iand, 1) := by decide +kernel
theorem dJ6_bitCount_0f7a4_52 : decode cJ6_bitCount_0f7a4 52 = .ok (.ireturn, 1) := by decide +kernel
theorem dJ9_max_7cf53_0 : decode cJ9_max_7cf53 0 = .ok (.iload_n 0, 1) := by decide +kernel
theorem dJ9_max_7cf53_1 : decode cJ9_max_7cf53 1 = .ok (.iload_n 1, 1) := by decide +kernel
theorem dJ9_max_7cf53_2 : decode cJ9_max_7cf53 2 = .ok (.if_icmp .lt 7, 3) := by decide +kernel
theorem dJ9_max_7cf53_5 : decode cJ9_max_7cf53 5 = .ok (.iload_n 0, 1) := by decide +kernel
theorem dJ9_max_7cf53_6 : decode cJ9_max_7cf53 6 = .ok (.goto 4, 3) := by decide +kernel
theorem dJ9_max_7cf53_9 : decode cJ9_max_7cf53 9 = .ok (.iload_n 1, 1) := by decide +kernel
theorem dJ9_max_7cf53_10 : decode cJ9_max_7cf53 10 = .ok (.ireturn, 1) := by decide +kernel
theorem dJ9_max_f86c9_0 : decode cJ9_max_f86c9 0 = .ok (.lload_n 0, 1) := by decide +kernel
theorem dJ9_max_f86c9_1 : decode cJ9_max_f86c9 1 = .ok (.lload_n 2, 1) := by decide +kernel
theorem dJ9_max_f86c9_2 : decode cJ9_max_f86c9 2 = .ok (.lcmp, 1) := by decide +kernel
theorem dJ9_max_f86c9_3 : decode cJ9_max_f86c9 3 = .ok (.ifCond .lt 7, 3) := by decide +kernel
theorem dJ9_max_f86c9_6 : decode cJ9_max_f86c9 6 = .ok (.lload_n 0, 1) := by decide +kernel
theorem dJ9_max_f86c9_7 : decode cJ9_max_f86c9 7 = .ok (.goto 4, 3) := by decide +kernel
theorem dJ9_max_f86c9_10 : decode cJ9_max_f86c9 10 = .ok (.lload_n 2, 1) := by decide +kernel
theorem dJ9_max_f86c9_11 : decode cJ9_max_f86c9 11 = .ok (.lreturn, 1) := by decide +kernel
theorem dJ9_min_7cf53_0 : decode cJ9_min_7cf53 0 = .ok (.iload_n 0, 1) := by decide +kernel
theorem dJ9_min_7cf53_1 : decode cJ9_min_7cf53 1 = .ok (.iload_n 1, 1) := by decide +kernel
theorem dJ9_min_7cf53_2 : decode cJ9_min_7cf53 2 = .ok (.if_icmp .gt 7, 3) := by decide +kernel
theorem dJ9_min_7cf53_5 : decode cJ9_min_7cf53 5 = .ok (.iload_n 0, 1) := by decide +kernel
theorem dJ9_min_7cf53_6 : decode cJ9_min_7cf53 6 = .ok (.goto 4, 3) := by decide +kernel
theorem dJ9_min_7cf53_9 : decode cJ9_min_7cf53 9 = .ok (.iload_n 1, 1) := by decide +kernel
theorem dJ9_min_7cf53_10 : decode cJ9_min_7cf53 10 = .ok (.ireturn, 1) := by decide +kernel
