theorem dX0_init_0 : decode cX0_init 0 = .ok (.aload_n 0, 1) := by decide +kernel
theorem dX0_init_1 : decode cX0_init 1 = .ok (.invokespecial 3, 3) := by decide +kernel
theorem dX0_init_4 : decode cX0_init 4 = .ok (.aload_n 0, 1) := by decide +kernel
theorem dX0_init_5 : decode cX0_init 5 = .ok (.bipush 20, 2) := by decide +kernel
theorem dX0_init_7 : decode cX0_init 7 = .ok (.newarray .int, 2) := by decide +kernel
theorem dX0_init_9 : decode cX0_init 9 = .ok (.putfield 9, 3) := by decide +kernel
theorem dX0_init_12 : decode cX0_init 12 = .ok (.aload_n 0, 1) := by decide +kernel
theorem dX0_init_13 : decode cX0_init 13 = .ok (.bipush 20, 2) := by decide +kernel
theorem dX0_init_15 : decode cX0_init 15 = .ok (.newarray .int, 2) := by decide +kernel
theorem dX0_init_17 : decode cX0_init 17 = .ok (.putfield 15, 3) := by decide +kernel
theorem dX0_init_20 : decode cX0_init 20 = .ok (.aload_n 0, 1) := by decide +kernel
theorem dX0_init_21 : decode cX0_init 21 = .ok (.bipush 20, 2) := by decide +kernel
theorem dX0_init_23 : decode cX0_init 23 = .ok (.newarray .int, 2) := by decide +kernel
theorem dX0_init_25 : decode cX0_init 25 = .ok (.putfield 18, 3) := by decide +kernel
theorem dX0_init_28 : decode cX0_init 28 = .ok (.return_, 1) := by decide +kernel
theorem dX0_size_0 : decode cX0_size 0 = .ok (.aload_n 0, 1) := by decide +kernel
theorem dX0_size_1 : decode cX0_size 1 = .ok (.getfield 21, 3) := by decide +kernel
theorem dX0_size_4 : decode cX0_size 4 = .ok (.ireturn, 1) := by decide +kernel
theorem dX0_clear_0 : decode cX0_clear 0 = .ok (.aload_n 0, 1) := by decide +kernel
theorem dX0_clear_1 : decode cX0_clear 1 = .ok (.iconst 0, 1) := by decide +kernel
theorem dX0_clear_2 : decode cX0_clear 2 = .ok (.putfield 21, 3) := by decide +kernel
theorem dX0_clear_5 : decode cX0_clear 5 = .ok (.return_, 1) := by decide +kernel
theorem dX0_add_0 : decode cX0_add 0 = .ok (.aload_n 0, 1) := by decide +kernel
theorem dX0_add_1 : decode cX0_add 1 = .ok (.getfield 21, 3) := by decide +kernel
theorem dX0_add_4 : decode cX0_add 4 = .ok (.ifCond .lt 12, 3) := by decide +kernel
theorem dX0_add_7 : decode cX0_add 7 = .ok (.aload_n 0, 1) := by decide +kernel
theorem dX0_add_8 : decode cX0_add 8 = .ok (.getfield 21, 3) := by decide +kernel
theorem dX0_add_11 : decode cX0_add 11 = .ok (.bipush 20, 2) := by decide +kernel
theorem dX0_add_13 : decode cX0_add 13 = .ok (.if_icmp .lt 5, 3) := by decide +kernel
theorem dX0_add_16 : decode cX0_add 16 = .ok (.iconst 0, 1) := by decide +kernel
theorem dX0_add_17 : decode cX0_add 17 = .ok (.ireturn, 1) := by decide +kernel
theorem dX0_add_18 : decode cX0_add 18 = .ok (.aload_n 0, 1) := by decide +kernel
theorem dX0_add_19 : decode cX0_add 19 = .ok (.getfield 9, 3) := by decide +kernel
theorem dX0_add_22 : decode cX0_add 22 = .ok (.aload_n 0, 1) := by decide +kernel
theorem dX0_add_23 : decode cX0_add 23 = .ok (.getfield 21, 3) := by decide +kernel
theorem dX0_add_26 : decode cX0_add 26 = .ok (.iload_n 1, 1) := by decide +kernel
theorem dX0_add_27 : decode cX0_add 27 = .ok (.iastore, 1) := by decide +kernel
theorem dX0_add_28 : decode cX0_add 28 = .ok (.aload_n 0, 1) := by decide +kernel
theorem dX0_add_29 : decode cX0_add 29 = .ok (.getfield 15, 3) := by decide +kernel
theorem dX0_add_32 : decode cX0_add 32 = .ok (.aload_n 0, 1) := by decide +kernel
theorem dX0_add_33 : decode cX0_add 33 = .ok (.getfield 21, 3) := by decide +kernel
theorem dX0_add_36 : decode cX0_add 36 = .ok (.iload_n 2, 1) := by decide +kernel
theorem dX0_add_37 : decode cX0_add 37 = .ok (.iastore, 1) := by decide +kernel
theorem dX0_add_38 : decode cX0_add 38 = .ok (.aload_n 0, 1) := by decide +kernel
theorem dX0_add_39 : decode cX0_add 39 = .ok (.getfield 18, 3) := by decide +kernel
theorem dX0_add_42 : decode cX0_add 42 = .ok (.aload_n 0, 1) := by decide +kernel
theorem dX0_add_43 : decode cX0_add 43 = .ok (.getfield 21, 3) := by decide +kernel
theorem dX0_add_46 : decode cX0_add 46 = .ok (.iload_n 3, 1) := by decide +kernel
theorem dX0_add_47 : decode cX0_add 47 = .ok (.iastore, 1) := by decide +kernel
theorem dX0_add_48 : decode cX0_add 48 = .ok (.aload_n 0, 1) := by decide +kernel
theorem dX0_add_49 : decode cX0_add 49 = .ok (.dup, 1) := by decide +kernel
theorem dX0_add_50 : decode cX0_add 50 = .ok (.getfield 21, 3) := by decide +kernel
theorem dX0_add_53 : decode cX0_add 53 = .ok (.iconst 1, 1) := by decide +kernel
theorem dX0_add_54 : decode cX0_add 54 = .ok (.iadd, 1) := by decide +kernel
theorem dX0_add_55 : decode cX0_add 55 = .ok (.putfield 21, 3) := by decide +kernel
theorem dX0_add_58 : decode cX0_add 58 = .ok (.iconst 1, 1) := by decide +kernel
theorem dX0_add_59 : decode cX0_add 59 = .ok (.ireturn, 1) := by decide +kernel
theorem dX0_firstWrong_0 : decode cX0_firstWrong 0 = .ok (.aload_n 1, 1) := by decide +kernel
theorem dX0_firstWrong_1 : decode cX0_firstWrong 1 = .ok (.ifnonnull 5, 3) := by decide +kernel
theorem dX0_firstWrong_4 : decode cX0_firstWrong 4 = .ok (.iconst (-1), 1) := by decide +kernel
theorem dX0_firstWrong_5 : decode cX0_firstWrong 5 = .ok (.ireturn, 1) := by decide +kernel
theorem dX0_firstWrong_6 : decode cX0_firstWrong 6 = .ok (.iconst 0, 1) := by decide +kernel
theorem dX0_firstWrong_7 : decode cX0_firstWrong 7 = .ok (.istore_n 2, 1) := by decide +kernel
theorem dX0_firstWrong_8 : decode cX0_firstWrong 8 = .ok (.iload_n 2, 1) := by decide +kernel
theorem dX0_firstWrong_9 : decode cX0_firstWrong 9 = .ok (.aload_n 0, 1) := by decide +kernel
theorem dX0_firstWrong_10 : decode cX0_firstWrong 10 = .ok (.getfield 21, 3) := by decide +kernel
theorem dX0_firstWrong_13 : decode cX0_firstWrong 13 = .ok (.if_icmp .ge 50, 3) := by decide +kernel
theorem dX0_firstWrong_16 : decode cX0_firstWrong 16 = .ok (.iload_n 2, 1) := by decide +kernel
theorem dX0_firstWrong_17 : decode cX0_firstWrong 17 = .ok (.bipush 20, 2) := by decide +kernel
theorem dX0_firstWrong_19 : decode cX0_firstWrong 19 = .ok (.if_icmp .ge 44, 3) := by decide +kernel
theorem dX0_firstWrong_22 : decode cX0_firstWrong 22 = .ok (.aload_n 0, 1) := by decide +kernel
theorem dX0_firstWrong_23 : decode cX0_firstWrong 23 = .ok (.getfield 9, 3) := by decide +kernel
theorem dX0_firstWrong_26 : decode cX0_firstWrong 26 = .ok (.iload_n 2, 1) := by decide +kernel
theorem dX0_firstWrong_27 : decode cX0_firstWrong 27 = .ok (.iaload, 1) := by decide +kernel
theorem dX0_firstWrong_28 : decode cX0_firstWrong 28 = .ok (.aload_n 1, 1) := by decide +kernel
theorem dX0_firstWrong_29 : decode cX0_firstWrong 29 = .ok (.aload_n 0, 1) := by decide +kernel
theorem dX0_firstWrong_30 : decode cX0_firstWrong 30 = .ok (.getfield 9, 3) := by decide +kernel
theorem dX0_firstWrong_33 : decode cX0_firstWrong 33 = .ok (.iload_n 2, 1) := by decide +kernel
theorem dX0_firstWrong_34 : decode cX0_firstWrong 34 = .ok (.iaload, 1) := by decide +kernel
theorem dX0_firstWrong_35 : decode cX0_firstWrong 35 = .ok (.aload_n 0, 1) := by decide +kernel
theorem dX0_firstWrong_36 : decode cX0_firstWrong 36 = .ok (.getfield 15, 3) := by decide +kernel
theorem dX0_firstWrong_39 : decode cX0_firstWrong 39 = .ok (.iload_n 2, 1) := by decide +kernel
theorem dX0_firstWrong_40 : decode cX0_firstWrong 40 = .ok (.iaload, 1) := by decide +kernel
theorem dX0_firstWrong_41 : decode cX0_firstWrong 41 = .ok (.iconst 0, 1) := by decide +kernel
theorem dX0_firstWrong_42 : decode cX0_firstWrong 42 = .ok (.invokevirtual 25, 3) := by decide +kernel
theorem dX0_firstWrong_45 : decode cX0_firstWrong 45 = .ok (.iadd, 1) := by decide +kernel
theorem dX0_firstWrong_46 : decode cX0_firstWrong 46 = .ok (.aload_n 0, 1) := by decide +kernel
theorem dX0_firstWrong_47 : decode cX0_firstWrong 47 = .ok (.getfield 18, 3) := by decide +kernel
theorem dX0_firstWrong_50 : decode cX0_firstWrong 50 = .ok (.iload_n 2, 1) := by decide +kernel
theorem dX0_firstWrong_51 : decode cX0_firstWrong 51 = .ok (.iaload, 1) := by decide +kernel
theorem dX0_firstWrong_52 : decode cX0_firstWrong 52 = .ok (.if_icmp .eq 5, 3) := by decide +kernel
theorem dX0_firstWrong_55 : decode cX0_firstWrong 55 = .ok (.iload_n 2, 1) := by decide +kernel
theorem dX0_firstWrong_56 : decode cX0_firstWrong 56 = .ok (.ireturn, 1) := by decide +kernel
theorem dX0_firstWrong_57 : decode cX0_firstWrong 57 = .ok (.iinc 2 1, 3) := by decide +kernel
theorem dX0_firstWrong_60 : decode cX0_firstWrong 60 = .ok (.goto (-52), 3) := by decide +kernel
theorem dX0_firstWrong_63 : decode cX0_firstWrong 63 = .ok (.iconst (-1), 1) := by decide +kernel
theorem dX0_firstWrong_64 : decode cX0_firstWrong 64 = .ok (.ireturn, 1) := by decide +kernel
theorem dX1_gap_0 : decode cX1_gap 0 = .ok (.aload_n 0, 1) := by decide +kernel
theorem dX1_gap_1 : decode cX1_gap 1 = .ok (.ifnull 17, 3) := by decide +kernel
theorem dX1_gap_4 : decode cX1_gap 4 = .ok (.aload_n 1, 1) := by decide +kernel
theorem dX1_gap_5 : decode cX1_gap 5 = .ok (.ifnull 13, 3) := by decide +kernel
theorem dX1_gap_8 : decode cX1_gap 8 = .ok (.aload_n 0, 1) := by decide +kernel
theorem dX1_gap_9 : decode cX1_gap 9 = .ok (.iload_n 3, 1) := by decide +kernel
theorem dX1_gap_10 : decode cX1_gap 10 = .ok (.iload 4, 2) := by decide +kernel
theorem dX1_gap_12 : decode cX1_gap 12 = .ok (.invokevirtual 9, 3) := by decide +kernel
theorem dX1_gap_15 : decode cX1_gap 15 = .ok (.ifCond .ne 5, 3) := by decide +kernel
theorem dX1_gap_18 : decode cX1_gap 18 = .ok (.iconst 0, 1) := by decide +kernel
theorem dX1_gap_19 : decode cX1_gap 19 = .ok (.ireturn, 1) := by decide +kernel
theorem dX1_gap_20 : decode cX1_gap 20 = .ok (.aload_n 0, 1) := by decide +kernel
theorem dX1_gap_21 : decode cX1_gap 21 = .ok (.iload_n 3, 1) := by decide +kernel
theorem dX1_gap_22 : decode cX1_gap 22 = .ok (.invokevirtual 15, 3) := by decide +kernel
theorem dX1_gap_25 : decode cX1_gap 25 = .ok (.istore 5, 2) := by decide +kernel
theorem dX1_gap_27 : decode cX1_gap 27 = .ok (.aload_n 0, 1) := by decide +kernel
theorem dX1_gap_28 : decode cX1_gap 28 = .ok (.iload 4, 2) := by decide +kernel
theorem dX1_gap_30 : decode cX1_gap 30 = .ok (.invokevirtual 19, 3) := by decide +kernel
theorem dX1_gap_33 : decode cX1_gap 33 = .ok (.istore 6, 2) := by decide +kernel
theorem dX1_gap_35 : decode cX1_gap 35 = .ok (.aload_n 0, 1) := by decide +kernel
theorem dX1_gap_36 : decode cX1_gap 36 = .ok (.iload_n 3, 1) := by decide +kernel
theorem dX1_gap_37 : decode cX1_gap 37 = .ok (.iload 4, 2) := by decide +kernel
theorem dX1_gap_39 : decode cX1_gap 39 = .ok (.iconst 0, 1) := by decide +kernel
theorem dX1_gap_40 : decode cX1_gap 40 = .ok (.invokevirtual 22, 3) := by decide +kernel
theorem dX1_gap_43 : decode cX1_gap 43 = .ok (.aload_n 1, 1) := by decide +kernel
theorem dX1_gap_44 : decode cX1_gap 44 = .ok (.iload_n 2, 1) := by decide +kernel
theorem dX1_gap_45 : decode cX1_gap 45 = .ok (.iload 5, 2) := by decide +kernel
theorem dX1_gap_47 : decode cX1_gap 47 = .ok (.iload 6, 2) := by decide +kernel
theorem dX1_gap_49 : decode cX1_gap 49 = .ok (.iconst 0, 1) := by decide +kernel
theorem dX1_gap_50 : decode cX1_gap 50 = .ok (.invokevirtual 26, 3) := by decide +kernel
theorem dX1_gap_53 : decode cX1_gap 53 = .ok (.isub, 1) := by decide +kernel
theorem dX1_gap_54 : decode cX1_gap 54 = .ok (.invokestatic 30, 3) := by decide +kernel
theorem dX1_gap_57 : decode cX1_gap 57 = .ok (.istore 7, 2) := by decide +kernel
theorem dX1_gap_59 : decode cX1_gap 59 = .ok (.aload_n 0, 1) := by decide +kernel
theorem dX1_gap_60 : decode cX1_gap 60 = .ok (.iload_n 3, 1) := by decide +kernel
theorem dX1_gap_61 : decode cX1_gap 61 = .ok (.iload 4, 2) := by decide +kernel
theorem dX1_gap_63 : decode cX1_gap 63 = .ok (.iconst 1, 1) := by decide +kernel
theorem dX1_gap_64 : decode cX1_gap 64 = .ok (.invokevirtual 22, 3) := by decide +kernel
theorem dX1_gap_67 : decode cX1_gap 67 = .ok (.aload_n 1, 1) := by decide +kernel
theorem dX1_gap_68 : decode cX1_gap 68 = .ok (.iload_n 2, 1) := by decide +kernel
theorem dX1_gap_69 : decode cX1_gap 69 = .ok (.iload 5, 2) := by decide +kernel
theorem dX1_gap_71 : decode cX1_gap 71 = .ok (.iload 6, 2) := by decide +kernel
theorem dX1_gap_73 : decode cX1_gap 73 = .ok (.iconst 1, 1) := by decide +kernel
theorem dX1_gap_74 : decode cX1_gap 74 = .ok (.invokevirtual 26, 3) := by decide +kernel
theorem dX1_gap_77 : decode cX1_gap 77 = .ok (.isub, 1) := by decide +kernel
theorem dX1_gap_78 : decode cX1_gap 78 = .ok (.invokestatic 30, 3) := by decide +kernel
theorem dX1_gap_81 : decode cX1_gap 81 = .ok (.istore 8, 2) := by decide +kernel
theorem dX1_gap_83 : decode cX1_gap 83 = .ok (.iload 7, 2) := by decide +kernel
theorem dX1_gap_85 : decode cX1_gap 85 = .ok (.iload 8, 2) := by decide +kernel
theorem dX1_gap_87 : decode cX1_gap 87 = .ok (.invokestatic 35, 3) := by decide +kernel
theorem dX1_gap_90 : decode cX1_gap 90 = .ok (.ireturn, 1) := by decide +kernel
theorem dX1_gaps_0 : decode cX1_gaps 0 = .ok (.aload_n 0, 1) := by decide +kernel
theorem dX1_gaps_1 : decode cX1_gaps 1 = .ok (.ifnull 7, 3) := by decide +kernel
theorem dX1_gaps_4 : decode cX1_gaps 4 = .ok (.aload_n 1, 1) := by decide +kernel
theorem dX1_gaps_5 : decode cX1_gaps 5 = .ok (.ifnonnull 5, 3) := by decide +kernel
theorem dX1_gaps_8 : decode cX1_gaps 8 = .ok (.iconst 0, 1) := by decide +kernel
theorem dX1_gaps_9 : decode cX1_gaps 9 = .ok (.ireturn, 1) := by decide +kernel
theorem dX1_gaps_10 : decode cX1_gaps 10 = .ok (.aload_n 0, 1) := by decide +kernel
theorem dX1_gaps_11 : decode cX1_gaps 11 = .ok (.aload_n 1, 1) := by decide +kernel
theorem dX1_gaps_12 : decode cX1_gaps 12 = .ok (.getfield 39, 3) := by decide +kernel
theorem dX1_gaps_15 : decode cX1_gaps 15 = .ok (.invokevirtual 43, 3) := by decide +kernel
theorem dX1_gaps_18 : decode cX1_gaps 18 = .ok (.astore_n 2, 1) := by decide +kernel
theorem dX1_gaps_19 : decode cX1_gaps 19 = .ok (.iconst 0, 1) := by decide +kernel
theorem dX1_gaps_20 : decode cX1_gaps 20 = .ok (.istore_n 3, 1) := by decide +kernel
theorem dX1_gaps_21 : decode cX1_gaps 21 = .ok (.iconst 0, 1) := by decide +kernel
theorem dX1_gaps_22 : decode cX1_gaps 22 = .ok (.istore 4, 2) := by decide +kernel
theorem dX1_gaps_24 : decode cX1_gaps 24 = .ok (.iload 4, 2) := by decide +kernel
theorem dX1_gaps_26 : decode cX1_gaps 26 = .ok (.aload_n 1, 1) := by decide +kernel
theorem dX1_gaps_27 : decode cX1_gaps 27 = .ok (.getfield 49, 3) := by decide +kernel
theorem dX1_gaps_30 : decode cX1_gaps 30 = .ok (.if_icmp .ge 51, 3) := by decide +kernel
theorem dX1_gaps_33 : decode cX1_gaps 33 = .ok (.iconst 0, 1) := by decide +kernel
theorem dX1_gaps_34 : decode cX1_gaps 34 = .ok (.istore 5, 2) := by decide +kernel
theorem dX1_gaps_36 : decode cX1_gaps 36 = .ok (.iload 5, 2) := by decide +kernel
theorem dX1_gaps_38 : decode cX1_gaps 38 = .ok (.aload_n 1, 1) := by decide +kernel
theorem dX1_gaps_39 : decode cX1_gaps 39 = .ok (.getfield 52, 3) := by decide +kernel
theorem dX1_gaps_42 : decode cX1_gaps 42 = .ok (.if_icmp .ge 33, 3) := by decide +kernel
theorem dX1_gaps_45 : decode cX1_gaps 45 = .ok (.iload_n 3, 1) := by decide +kernel
theorem dX1_gaps_46 : decode cX1_gaps 46 = .ok (.aload_n 1, 1) := by decide +kernel
theorem dX1_gaps_47 : decode cX1_gaps 47 = .ok (.aload_n 2, 1) := by decide +kernel
theorem dX1_gaps_48 : decode cX1_gaps 48 = .ok (.aload_n 0, 1) := by decide +kernel
theorem dX1_gaps_49 : decode cX1_gaps 49 = .ok (.invokevirtual 55, 3) := by decide +kernel
theorem dX1_gaps_52 : decode cX1_gaps 52 = .ok (.iload 5, 2) := by decide +kernel
theorem dX1_gaps_54 : decode cX1_gaps 54 = .ok (.iload 4, 2) := by decide +kernel
theorem dX1_gaps_56 : decode cX1_gaps 56 = .ok (.invokestatic 59, 3) := by decide +kernel
theorem dX1_gaps_59 : decode cX1_gaps 59 = .ok (.ifCond .le 7, 3) := by decide +kernel
theorem dX1_gaps_62 : decode cX1_gaps 62 = .ok (.iconst 1, 1) := by decide +kernel
theorem dX1_gaps_63 : decode cX1_gaps 63 = .ok (.goto 4, 3) := by decide +kernel
theorem dX1_gaps_66 : decode cX1_gaps 66 = .ok (.iconst 0, 1) := by decide +kernel
theorem dX1_gaps_67 : decode cX1_gaps 67 = .ok (.iadd, 1) := by decide +kernel
theorem dX1_gaps_68 : decode cX1_gaps 68 = .ok (.istore_n 3, 1) := by decide +kernel
theorem dX1_gaps_69 : decode cX1_gaps 69 = .ok (.iinc 5 1, 3) := by decide +kernel
theorem dX1_gaps_72 : decode cX1_gaps 72 = .ok (.goto (-36), 3) := by decide +kernel
theorem dX1_gaps_75 : decode cX1_gaps 75 = .ok (.iinc 4 1, 3) := by decide +kernel
theorem dX1_gaps_78 : decode cX1_gaps 78 = .ok (.goto (-54), 3) := by decide +kernel
theorem dX1_gaps_81 : decode cX1_gaps 81 = .ok (.iload_n 3, 1) := by decide +kernel
theorem dX1_gaps_82 : decode cX1_gaps 82 = .ok (.ireturn, 1) := by decide +kernel
theorem dX1_greatestGap_0 : decode cX1_greatestGap 0 = .ok (.aload_n 0, 1) := by decide +kernel
theorem dX1_greatestGap_1 : decode cX1_greatestGap 1 = .ok (.ifnull 7, 3) := by decide +kernel
theorem dX1_greatestGap_4 : decode cX1_greatestGap 4 = .ok (.aload_n 1, 1) := by decide +kernel
theorem dX1_greatestGap_5 : decode cX1_greatestGap 5 = .ok (.ifnonnull 5, 3) := by decide +kernel
theorem dX1_greatestGap_8 : decode cX1_greatestGap 8 = .ok (.iconst 0, 1) := by decide +kernel
theorem dX1_greatestGap_9 : decode cX1_greatestGap 9 = .ok (.ireturn, 1) := by decide +kernel
theorem dX1_greatestGap_10 : decode cX1_greatestGap 10 = .ok (.aload_n 0, 1) := by decide +kernel
theorem dX1_greatestGap_11 : decode cX1_greatestGap 11 = .ok (.aload_n 1, 1) := by decide +kernel
theorem dX1_greatestGap_12 : decode cX1_greatestGap 12 = .ok (.getfield 39, 3) := by decide +kernel
theorem dX1_greatestGap_15 : decode cX1_greatestGap 15 = .ok (.invokevirtual 43, 3) := by decide +kernel
theorem dX1_greatestGap_18 : decode cX1_greatestGap 18 = .ok (.astore_n 2, 1) := by decide +kernel
theorem dX1_greatestGap_19 : decode cX1_greatestGap 19 = .ok (.iconst 0, 1) := by decide +kernel
theorem dX1_greatestGap_20 : decode cX1_greatestGap 20 = .ok (.istore_n 3, 1) := by decide +kernel
theorem dX1_greatestGap_21 : decode cX1_greatestGap 21 = .ok (.iconst 0, 1) := by decide +kernel
theorem dX1_greatestGap_22 : decode cX1_greatestGap 22 = .ok (.istore 4, 2) := by decide +kernel
theorem dX1_greatestGap_24 : decode cX1_greatestGap 24 = .ok (.iload 4, 2) := by decide +kernel
theorem dX1_greatestGap_26 : decode cX1_greatestGap 26 = .ok (.aload_n 1, 1) := by decide +kernel
theorem dX1_greatestGap_27 : decode cX1_greatestGap 27 = .ok (.getfield 49, 3) := by decide +kernel
theorem dX1_greatestGap_30 : decode cX1_greatestGap 30 = .ok (.if_icmp .ge 45, 3) := by decide +kernel
theorem dX1_greatestGap_33 : decode cX1_greatestGap 33 = .ok (.iconst 0, 1) := by decide +kernel
theorem dX1_greatestGap_34 : decode cX1_greatestGap 34 = .ok (.istore 5, 2) := by decide +kernel
theorem dX1_greatestGap_36 : decode cX1_greatestGap 36 = .ok (.iload 5, 2) := by decide +kernel
theorem dX1_greatestGap_38 : decode cX1_greatestGap 38 = .ok (.aload_n 1, 1) := by decide +kernel
theorem dX1_greatestGap_39 : decode cX1_greatestGap 39 = .ok (.getfield 52, 3) := by decide +kernel
theorem dX1_greatestGap_42 : decode cX1_greatestGap 42 = .ok (.if_icmp .ge 27, 3) := by decide +kernel
theorem dX1_greatestGap_45 : decode cX1_greatestGap 45 = .ok (.iload_n 3, 1) := by decide +kernel
theorem dX1_greatestGap_46 : decode cX1_greatestGap 46 = .ok (.aload_n 1, 1) := by decide +kernel
theorem dX1_greatestGap_47 : decode cX1_greatestGap 47 = .ok (.aload_n 2, 1) := by decide +kernel
theorem dX1_greatestGap_48 : decode cX1_greatestGap 48 = .ok (.aload_n 0, 1) := by decide +kernel
theorem dX1_greatestGap_49 : decode cX1_greatestGap 49 = .ok (.invokevirtual 55, 3) := by decide +kernel
theorem dX1_greatestGap_52 : decode cX1_greatestGap 52 = .ok (.iload 5, 2) := by decide +kernel
theorem dX1_greatestGap_54 : decode cX1_greatestGap 54 = .ok (.iload 4, 2) := by decide +kernel
theorem dX1_greatestGap_56 : decode cX1_greatestGap 56 = .ok (.invokestatic 59, 3) := by decide +kernel
theorem dX1_greatestGap_59 : decode cX1_greatestGap 59 = .ok (.invokestatic 35, 3) := by decide +kernel
theorem dX1_greatestGap_62 : decode cX1_greatestGap 62 = .ok (.istore_n 3, 1) := by decide +kernel
theorem dX1_greatestGap_63 : decode cX1_greatestGap 63 = .ok (.iinc 5 1, 3) := by decide +kernel
theorem dX1_greatestGap_66 : decode cX1_greatestGap 66 = .ok (.goto (-30), 3) := by decide +kernel
theorem dX1_greatestGap_69 : decode cX1_greatestGap 69 = .ok (.iinc 4 1, 3) := by decide +kernel
theorem dX1_greatestGap_72 : decode cX1_greatestGap 72 = .ok (.goto (-48), 3) := by decide +kernel
theorem dX1_greatestGap_75 : decode cX1_greatestGap 75 = .ok (.iload_n 3, 1) := by decide +kernel
theorem dX1_greatestGap_76 : decode cX1_greatestGap 76 = .ok (.ireturn, 1) := by decide +kernel
theorem dX1_meet_0 : decode cX1_meet 0 = .ok (.aload_n 0, 1) := by decide +kernel
theorem dX1_meet_1 : decode cX1_meet 1 = .ok (.ifnull 7, 3) := by decide +kernel
theorem dX1_meet_4 : decode cX1_meet 4 = .ok (.aload_n 1, 1) := by decide +kernel
theorem dX1_meet_5 : decode cX1_meet 5 = .ok (.ifnonnull 4, 3) := by decide +kernel
theorem dX1_meet_8 : decode cX1_meet 8 = .ok (.return_, 1) := by decide +kernel
theorem dX1_meet_9 : decode cX1_meet 9 = .ok (.aload_n 0, 1) := by decide +kernel
theorem dX1_meet_10 : decode cX1_meet 10 = .ok (.aload_n 1, 1) := by decide +kernel
theorem dX1_meet_11 : decode cX1_meet 11 = .ok (.getfield 39, 3) := by decide +kernel
theorem dX1_meet_14 : decode cX1_meet 14 = .ok (.invokevirtual 43, 3) := by decide +kernel
theorem dX1_meet_17 : decode cX1_meet 17 = .ok (.astore_n 2, 1) := by decide +kernel
theorem dX1_meet_18 : decode cX1_meet 18 = .ok (.iconst 0, 1) := by decide +kernel
theorem dX1_meet_19 : decode cX1_meet 19 = .ok (.istore_n 3, 1) := by decide +kernel
theorem dX1_meet_20 : decode cX1_meet 20 = .ok (.iload_n 3, 1) := by decide +kernel
theorem dX1_meet_21 : decode cX1_meet 21 = .ok (.aload_n 1, 1) := by decide +kernel
theorem dX1_meet_22 : decode cX1_meet 22 = .ok (.getfield 49, 3) := by decide +kernel
theorem dX1_meet_25 : decode cX1_meet 25 = .ok (.if_icmp .ge 90, 3) := by decide +kernel
theorem dX1_meet_28 : decode cX1_meet 28 = .ok (.iconst 0, 1) := by decide +kernel
theorem dX1_meet_29 : decode cX1_meet 29 = .ok (.istore 4, 2) := by decide +kernel
theorem dX1_meet_31 : decode cX1_meet 31 = .ok (.iload 4, 2) := by decide +kernel
theorem dX1_meet_33 : decode cX1_meet 33 = .ok (.aload_n 1, 1) := by decide +kernel
theorem dX1_meet_34 : decode cX1_meet 34 = .ok (.getfield 52, 3) := by decide +kernel
theorem dX1_meet_37 : decode cX1_meet 37 = .ok (.if_icmp .ge 72, 3) := by decide +kernel
theorem dX1_meet_40 : decode cX1_meet 40 = .ok (.aload_n 2, 1) := by decide +kernel
theorem dX1_meet_41 : decode cX1_meet 41 = .ok (.ifnull 62, 3) := by decide +kernel
theorem dX1_meet_44 : decode cX1_meet 44 = .ok (.aload_n 1, 1) := by decide +kernel
theorem dX1_meet_45 : decode cX1_meet 45 = .ok (.iload 4, 2) := by decide +kernel
theorem dX1_meet_47 : decode cX1_meet 47 = .ok (.iload_n 3, 1) := by decide +kernel
theorem dX1_meet_48 : decode cX1_meet 48 = .ok (.invokevirtual 9, 3) := by decide +kernel
theorem dX1_meet_51 : decode cX1_meet 51 = .ok (.ifCond .eq 52, 3) := by decide +kernel
theorem dX1_meet_54 : decode cX1_meet 54 = .ok (.aload_n 1, 1) := by decide +kernel
theorem dX1_meet_55 : decode cX1_meet 55 = .ok (.iload 4, 2) := by decide +kernel
theorem dX1_meet_57 : decode cX1_meet 57 = .ok (.invokevirtual 15, 3) := by decide +kernel
theorem dX1_meet_60 : decode cX1_meet 60 = .ok (.istore 5, 2) := by decide +kernel
theorem dX1_meet_62 : decode cX1_meet 62 = .ok (.aload_n 1, 1) := by decide +kernel
theorem dX1_meet_63 : decode cX1_meet 63 = .ok (.iload_n 3, 1) := by decide +kernel
theorem dX1_meet_64 : decode cX1_meet 64 = .ok (.invokevirtual 19, 3) := by decide +kernel
theorem dX1_meet_67 : decode cX1_meet 67 = .ok (.istore 6, 2) := by decide +kernel
theorem dX1_meet_69 : decode cX1_meet 69 = .ok (.aload_n 1, 1) := by decide +kernel
theorem dX1_meet_70 : decode cX1_meet 70 = .ok (.iload 4, 2) := by decide +kernel
theorem dX1_meet_72 : decode cX1_meet 72 = .ok (.iload_n 3, 1) := by decide +kernel
theorem dX1_meet_73 : decode cX1_meet 73 = .ok (.aload_n 2, 1) := by decide +kernel
theorem dX1_meet_74 : decode cX1_meet 74 = .ok (.aload_n 0, 1) := by decide +kernel
theorem dX1_meet_75 : decode cX1_meet 75 = .ok (.invokevirtual 55, 3) := by decide +kernel
theorem dX1_meet_78 : decode cX1_meet 78 = .ok (.iload 5, 2) := by decide +kernel
theorem dX1_meet_80 : decode cX1_meet 80 = .ok (.iload 6, 2) := by decide +kernel
theorem dX1_meet_82 : decode cX1_meet 82 = .ok (.iconst 0, 1) := by decide +kernel
theorem dX1_meet_83 : decode cX1_meet 83 = .ok (.invokevirtual 26, 3) := by decide +kernel
theorem dX1_meet_86 : decode cX1_meet 86 = .ok (.aload_n 2, 1) := by decide +kernel
theorem dX1_meet_87 : decode cX1_meet 87 = .ok (.aload_n 0, 1) := by decide +kernel
theorem dX1_meet_88 : decode cX1_meet 88 = .ok (.invokevirtual 55, 3) := by decide +kernel
theorem dX1_meet_91 : decode cX1_meet 91 = .ok (.iload 5, 2) := by decide +kernel
theorem dX1_meet_93 : decode cX1_meet 93 = .ok (.iload 6, 2) := by decide +kernel
theorem dX1_meet_95 : decode cX1_meet 95 = .ok (.iconst 1, 1) := by decide +kernel
theorem dX1_meet_96 : decode cX1_meet 96 = .ok (.invokevirtual 26, 3) := by decide +kernel
theorem dX1_meet_99 : decode cX1_meet 99 = .ok (.invokevirtual 65, 3) := by decide +kernel
theorem dX1_meet_102 : decode cX1_meet 102 = .ok (.pop, 1) := by decide +kernel
theorem dX1_meet_103 : decode cX1_meet 103 = .ok (.iinc 4 1, 3) := by decide +kernel
theorem dX1_meet_106 : decode cX1_meet 106 = .ok (.goto (-75), 3) := by decide +kernel
theorem dX1_meet_109 : decode cX1_meet 109 = .ok (.iinc 3 1, 3) := by decide +kernel
theorem dX1_meet_112 : decode cX1_meet 112 = .ok (.goto (-92), 3) := by decide +kernel
theorem dX1_meet_115 : decode cX1_meet 115 = .ok (.return_, 1) := by decide +kernel
theorem dX2_init_0 : decode cX2_init 0 = .ok (.aload_n 0, 1) := by decide +kernel
theorem dX2_init_1 : decode cX2_init 1 = .ok (.invokespecial 3, 3) := by decide +kernel
theorem dX2_init_4 : decode cX2_init 4 = .ok (.aload_n 0, 1) := by decide +kernel
theorem dX2_init_5 : decode cX2_init 5 = .ok (.iconst 4, 1) := by decide +kernel
theorem dX2_init_6 : decode cX2_init 6 = .ok (.newarray .int, 2) := by decide +kernel
theorem dX2_init_8 : decode cX2_init 8 = .ok (.putfield 11, 3) := by decide +kernel
theorem dX2_init_11 : decode cX2_init 11 = .ok (.aload_n 0, 1) := by decide +kernel
theorem dX2_init_12 : decode cX2_init 12 = .ok (.iconst 4, 1) := by decide +kernel
theorem dX2_init_13 : decode cX2_init 13 = .ok (.newarray .int, 2) := by decide +kernel
theorem dX2_init_15 : decode cX2_init 15 = .ok (.putfield 15, 3) := by decide +kernel
theorem dX2_init_18 : decode cX2_init 18 = .ok (.aload_n 0, 1) := by decide +kernel
theorem dX2_init_19 : decode cX2_init 19 = .ok (.iconst 4, 1) := by decide +kernel
theorem dX2_init_20 : decode cX2_init 20 = .ok (.newarray .long, 2) := by decide +kernel
theorem dX2_init_22 : decode cX2_init 22 = .ok (.putfield 18, 3) := by decide +kernel
theorem dX2_init_25 : decode cX2_init 25 = .ok (.aload_n 0, 1) := by decide +kernel
theorem dX2_init_26 : decode cX2_init 26 = .ok (.iconst 4, 1) := by decide +kernel
theorem dX2_init_27 : decode cX2_init 27 = .ok (.newarray .long, 2) := by decide +kernel
theorem dX2_init_29 : decode cX2_init 29 = .ok (.putfield 22, 3) := by decide +kernel
theorem dX2_init_32 : decode cX2_init 32 = .ok (.return_, 1) := by decide +kernel
theorem dX2_look_0 : decode cX2_look 0 = .ok (.aload_n 1, 1) := by decide +kernel
theorem dX2_look_1 : decode cX2_look 1 = .ok (.ifnonnull 4, 3) := by decide +kernel
theorem dX2_look_4 : decode cX2_look 4 = .ok (.return_, 1) := by decide +kernel
theorem dX2_look_5 : decode cX2_look 5 = .ok (.aload_n 0, 1) := by decide +kernel
theorem dX2_look_6 : decode cX2_look 6 = .ok (.aload_n 1, 1) := by decide +kernel
theorem dX2_look_7 : decode cX2_look 7 = .ok (.invokevirtual 25, 3) := by decide +kernel
theorem dX2_look_10 : decode cX2_look 10 = .ok (.putfield 31, 3) := by decide +kernel
theorem dX2_look_13 : decode cX2_look 13 = .ok (.iconst 0, 1) := by decide +kernel
theorem dX2_look_14 : decode cX2_look 14 = .ok (.istore 4, 2) := by decide +kernel
theorem dX2_look_16 : decode cX2_look 16 = .ok (.iload 4, 2) := by decide +kernel
theorem dX2_look_18 : decode cX2_look 18 = .ok (.iconst 4, 1) := by decide +kernel
theorem dX2_look_19 : decode cX2_look 19 = .ok (.if_icmp .ge 121, 3) := by decide +kernel
theorem dX2_look_22 : decode cX2_look 22 = .ok (.iload 4, 2) := by decide +kernel
theorem dX2_look_24 : decode cX2_look 24 = .ok (.iconst 1, 1) := by decide +kernel
theorem dX2_look_25 : decode cX2_look 25 = .ok (.if_icmp .eq 9, 3) := by decide +kernel
theorem dX2_look_28 : decode cX2_look 28 = .ok (.iload 4, 2) := by decide +kernel
theorem dX2_look_30 : decode cX2_look 30 = .ok (.iconst 2, 1) := by decide +kernel
theorem dX2_look_31 : decode cX2_look 31 = .ok (.if_icmp .ne 9, 3) := by decide +kernel
theorem dX2_look_34 : decode cX2_look 34 = .ok (.iload_n 2, 1) := by decide +kernel
theorem dX2_look_35 : decode cX2_look 35 = .ok (.iconst 1, 1) := by decide +kernel
theorem dX2_look_36 : decode cX2_look 36 = .ok (.iadd, 1) := by decide +kernel
theorem dX2_look_37 : decode cX2_look 37 = .ok (.goto 4, 3) := by decide +kernel
theorem dX2_look_40 : decode cX2_look 40 = .ok (.iload_n 2, 1) := by decide +kernel
theorem dX2_look_41 : decode cX2_look 41 = .ok (.istore 5, 2) := by decide +kernel
theorem dX2_look_43 : decode cX2_look 43 = .ok (.iload 4, 2) := by decide +kernel
theorem dX2_look_45 : decode cX2_look 45 = .ok (.iconst 2, 1) := by decide +kernel
theorem dX2_look_46 : decode cX2_look 46 = .ok (.if_icmp .lt 9, 3) := by decide +kernel
theorem dX2_look_49 : decode cX2_look 49 = .ok (.iload_n 3, 1) := by decide +kernel
theorem dX2_look_50 : decode cX2_look 50 = .ok (.iconst 1, 1) := by decide +kernel
theorem dX2_look_51 : decode cX2_look 51 = .ok (.iadd, 1) := by decide +kernel
theorem dX2_look_52 : decode cX2_look 52 = .ok (.goto 4, 3) := by decide +kernel
theorem dX2_look_55 : decode cX2_look 55 = .ok (.iload_n 3, 1) := by decide +kernel
theorem dX2_look_56 : decode cX2_look 56 = .ok (.istore 6, 2) := by decide +kernel
theorem dX2_look_58 : decode cX2_look 58 = .ok (.aload_n 0, 1) := by decide +kernel
theorem dX2_look_59 : decode cX2_look 59 = .ok (.getfield 11, 3) := by decide +kernel
theorem dX2_look_62 : decode cX2_look 62 = .ok (.iload 4, 2) := by decide +kernel
theorem dX2_look_64 : decode cX2_look 64 = .ok (.aload_n 1, 1) := by decide +kernel
theorem dX2_look_65 : decode cX2_look 65 = .ok (.iload 5, 2) := by decide +kernel
theorem dX2_look_67 : decode cX2_look 67 = .ok (.iload 6, 2) := by decide +kernel
theorem dX2_look_69 : decode cX2_look 69 = .ok (.iconst 0, 1) := by decide +kernel
theorem dX2_look_70 : decode cX2_look 70 = .ok (.invokevirtual 34, 3) := by decide +kernel
theorem dX2_look_73 : decode cX2_look 73 = .ok (.iastore, 1) := by decide +kernel
theorem dX2_look_74 : decode cX2_look 74 = .ok (.aload_n 0, 1) := by decide +kernel
theorem dX2_look_75 : decode cX2_look 75 = .ok (.getfield 15, 3) := by decide +kernel
theorem dX2_look_78 : decode cX2_look 78 = .ok (.iload 4, 2) := by decide +kernel
theorem dX2_look_80 : decode cX2_look 80 = .ok (.aload_n 1, 1) := by decide +kernel
theorem dX2_look_81 : decode cX2_look 81 = .ok (.iload 5, 2) := by decide +kernel
theorem dX2_look_83 : decode cX2_look 83 = .ok (.iload 6, 2) := by decide +kernel
theorem dX2_look_85 : decode cX2_look 85 = .ok (.iconst 1, 1) := by decide +kernel
theorem dX2_look_86 : decode cX2_look 86 = .ok (.invokevirtual 34, 3) := by decide +kernel
theorem dX2_look_89 : decode cX2_look 89 = .ok (.iastore, 1) := by decide +kernel
theorem dX2_look_90 : decode cX2_look 90 = .ok (.aload_n 0, 1) := by decide +kernel
theorem dX2_look_91 : decode cX2_look 91 = .ok (.getfield 18, 3) := by decide +kernel
theorem dX2_look_94 : decode cX2_look 94 = .ok (.iload 4, 2) := by decide +kernel
theorem dX2_look_96 : decode cX2_look 96 = .ok (.aload_n 1, 1) := by decide +kernel
theorem dX2_look_97 : decode cX2_look 97 = .ok (.iload 5, 2) := by decide +kernel
theorem dX2_look_99 : decode cX2_look 99 = .ok (.invokevirtual 38, 3) := by decide +kernel
theorem dX2_look_102 : decode cX2_look 102 = .ok (.aload_n 0, 1) := by decide +kernel
theorem dX2_look_103 : decode cX2_look 103 = .ok (.getfield 11, 3) := by decide +kernel
theorem dX2_look_106 : decode cX2_look 106 = .ok (.iload 4, 2) := by decide +kernel
theorem dX2_look_108 : decode cX2_look 108 = .ok (.iaload, 1) := by decide +kernel
theorem dX2_look_109 : decode cX2_look 109 = .ok (.iadd, 1) := by decide +kernel
theorem dX2_look_110 : decode cX2_look 110 = .ok (.i2l, 1) := by decide +kernel
theorem dX2_look_111 : decode cX2_look 111 = .ok (.lastore, 1) := by decide +kernel
theorem dX2_look_112 : decode cX2_look 112 = .ok (.aload_n 0, 1) := by decide +kernel
theorem dX2_look_113 : decode cX2_look 113 = .ok (.getfield 22, 3) := by decide +kernel
theorem dX2_look_116 : decode cX2_look 116 = .ok (.iload 4, 2) := by decide +kernel
theorem dX2_look_118 : decode cX2_look 118 = .ok (.aload_n 1, 1) := by decide +kernel
theorem dX2_look_119 : decode cX2_look 119 = .ok (.iload 6, 2) := by decide +kernel
theorem dX2_look_121 : decode cX2_look 121 = .ok (.invokevirtual 42, 3) := by decide +kernel
theorem dX2_look_124 : decode cX2_look 124 = .ok (.aload_n 0, 1) := by decide +kernel
theorem dX2_look_125 : decode cX2_look 125 = .ok (.getfield 15, 3) := by decide +kernel
theorem dX2_look_128 : decode cX2_look 128 = .ok (.iload 4, 2) := by decide +kernel
theorem dX2_look_130 : decode cX2_look 130 = .ok (.iaload, 1) := by decide +kernel
theorem dX2_look_131 : decode cX2_look 131 = .ok (.iadd, 1) := by decide +kernel
theorem dX2_look_132 : decode cX2_look 132 = .ok (.i2l, 1) := by decide +kernel
theorem dX2_look_133 : decode cX2_look 133 = .ok (.lastore, 1) := by decide +kernel
theorem dX2_look_134 : decode cX2_look 134 = .ok (.iinc 4 1, 3) := by decide +kernel
theorem dX2_look_137 : decode cX2_look 137 = .ok (.goto (-121), 3) := by decide +kernel
theorem dX2_look_140 : decode cX2_look 140 = .ok (.return_, 1) := by decide +kernel
theorem dX2_steepnessOf_0 : decode cX2_steepnessOf 0 = .ok (.aload_n 0, 1) := by decide +kernel
theorem dX2_steepnessOf_1 : decode cX2_steepnessOf 1 = .ok (.ifnull 9, 3) := by decide +kernel
theorem dX2_steepnessOf_4 : decode cX2_steepnessOf 4 = .ok (.aload_n 0, 1) := by decide +kernel
theorem dX2_steepnessOf_5 : decode cX2_steepnessOf 5 = .ok (.arraylength, 1) := by decide +kernel
theorem dX2_steepnessOf_6 : decode cX2_steepnessOf 6 = .ok (.iconst 4, 1) := by decide +kernel
theorem dX2_steepnessOf_7 : decode cX2_steepnessOf 7 = .ok (.if_icmp .eq 5, 3) := by decide +kernel
theorem dX2_steepnessOf_10 : decode cX2_steepnessOf 10 = .ok (.iconst 0, 1) := by decide +kernel
theorem dX2_steepnessOf_11 : decode cX2_steepnessOf 11 = .ok (.ireturn, 1) := by decide +kernel
theorem dX2_steepnessOf_12 : decode cX2_steepnessOf 12 = .ok (.aload_n 0, 1) := by decide +kernel
theorem dX2_steepnessOf_13 : decode cX2_steepnessOf 13 = .ok (.iconst 1, 1) := by decide +kernel
theorem dX2_steepnessOf_14 : decode cX2_steepnessOf 14 = .ok (.iaload, 1) := by decide +kernel
theorem dX2_steepnessOf_15 : decode cX2_steepnessOf 15 = .ok (.aload_n 0, 1) := by decide +kernel
theorem dX2_steepnessOf_16 : decode cX2_steepnessOf 16 = .ok (.iconst 0, 1) := by decide +kernel
theorem dX2_steepnessOf_17 : decode cX2_steepnessOf 17 = .ok (.iaload, 1) := by decide +kernel
theorem dX2_steepnessOf_18 : decode cX2_steepnessOf 18 = .ok (.isub, 1) := by decide +kernel
theorem dX2_steepnessOf_19 : decode cX2_steepnessOf 19 = .ok (.invokestatic 45, 3) := by decide +kernel
theorem dX2_steepnessOf_22 : decode cX2_steepnessOf 22 = .ok (.aload_n 0, 1) := by decide +kernel
theorem dX2_steepnessOf_23 : decode cX2_steepnessOf 23 = .ok (.iconst 2, 1) := by decide +kernel
theorem dX2_steepnessOf_24 : decode cX2_steepnessOf 24 = .ok (.iaload, 1) := by decide +kernel
theorem dX2_steepnessOf_25 : decode cX2_steepnessOf 25 = .ok (.aload_n 0, 1) := by decide +kernel
theorem dX2_steepnessOf_26 : decode cX2_steepnessOf 26 = .ok (.iconst 3, 1) := by decide +kernel
theorem dX2_steepnessOf_27 : decode cX2_steepnessOf 27 = .ok (.iaload, 1) := by decide +kernel
theorem dX2_steepnessOf_28 : decode cX2_steepnessOf 28 = .ok (.isub, 1) := by decide +kernel
theorem dX2_steepnessOf_29 : decode cX2_steepnessOf 29 = .ok (.invokestatic 45, 3) := by decide +kernel
theorem dX2_steepnessOf_32 : decode cX2_steepnessOf 32 = .ok (.invokestatic 50, 3) := by decide +kernel
theorem dX2_steepnessOf_35 : decode cX2_steepnessOf 35 = .ok (.istore_n 1, 1) := by decide +kernel
theorem dX2_steepnessOf_36 : decode cX2_steepnessOf 36 = .ok (.aload_n 0, 1) := by decide +kernel
theorem dX2_steepnessOf_37 : decode cX2_steepnessOf 37 = .ok (.iconst 3, 1) := by decide +kernel
theorem dX2_steepnessOf_38 : decode cX2_steepnessOf 38 = .ok (.iaload, 1) := by decide +kernel
theorem dX2_steepnessOf_39 : decode cX2_steepnessOf 39 = .ok (.aload_n 0, 1) := by decide +kernel
theorem dX2_steepnessOf_40 : decode cX2_steepnessOf 40 = .ok (.iconst 0, 1) := by decide +kernel
theorem dX2_steepnessOf_41 : decode cX2_steepnessOf 41 = .ok (.iaload, 1) := by decide +kernel
theorem dX2_steepnessOf_42 : decode cX2_steepnessOf 42 = .ok (.isub, 1) := by decide +kernel
theorem dX2_steepnessOf_43 : decode cX2_steepnessOf 43 = .ok (.invokestatic 45, 3) := by decide +kernel
theorem dX2_steepnessOf_46 : decode cX2_steepnessOf 46 = .ok (.aload_n 0, 1) := by decide +kernel
theorem dX2_steepnessOf_47 : decode cX2_steepnessOf 47 = .ok (.iconst 2, 1) := by decide +kernel
theorem dX2_steepnessOf_48 : decode cX2_steepnessOf 48 = .ok (.iaload, 1) := by decide +kernel
theorem dX2_steepnessOf_49 : decode cX2_steepnessOf 49 = .ok (.aload_n 0, 1) := by decide +kernel
theorem dX2_steepnessOf_50 : decode cX2_steepnessOf 50 = .ok (.iconst 1, 1) := by decide +kernel
theorem dX2_steepnessOf_51 : decode cX2_steepnessOf 51 = .ok (.iaload, 1) := by decide +kernel
theorem dX2_steepnessOf_52 : decode cX2_steepnessOf 52 = .ok (.isub, 1) := by decide +kernel
theorem dX2_steepnessOf_53 : decode cX2_steepnessOf 53 = .ok (.invokestatic 45, 3) := by decide +kernel
theorem dX2_steepnessOf_56 : decode cX2_steepnessOf 56 = .ok (.invokestatic 50, 3) := by decide +kernel
theorem dX2_steepnessOf_59 : decode cX2_steepnessOf 59 = .ok (.istore_n 2, 1) := by decide +kernel
theorem dX2_steepnessOf_60 : decode cX2_steepnessOf 60 = .ok (.iload_n 1, 1) := by decide +kernel
theorem dX2_steepnessOf_61 : decode cX2_steepnessOf 61 = .ok (.iload_n 2, 1) := by decide +kernel
theorem dX2_steepnessOf_62 : decode cX2_steepnessOf 62 = .ok (.iadd, 1) := by decide +kernel
theorem dX2_steepnessOf_63 : decode cX2_steepnessOf 63 = .ok (.ireturn, 1) := by decide +kernel
theorem dX2_steepness_0 : decode cX2_steepness 0 = .ok (.aload_n 0, 1) := by decide +kernel
theorem dX2_steepness_1 : decode cX2_steepness 1 = .ok (.getfield 11, 3) := by decide +kernel
theorem dX2_steepness_4 : decode cX2_steepness 4 = .ok (.invokestatic 54, 3) := by decide +kernel
theorem dX2_steepness_7 : decode cX2_steepness 7 = .ok (.aload_n 0, 1) := by decide +kernel
theorem dX2_steepness_8 : decode cX2_steepness 8 = .ok (.getfield 15, 3) := by decide +kernel
theorem dX2_steepness_11 : decode cX2_steepness 11 = .ok (.invokestatic 54, 3) := by decide +kernel
theorem dX2_steepness_14 : decode cX2_steepness 14 = .ok (.invokestatic 50, 3) := by decide +kernel
theorem dX2_steepness_17 : decode cX2_steepness 17 = .ok (.ireturn, 1) := by decide +kernel
theorem dX2_isSure_0 : decode cX2_isSure 0 = .ok (.iconst 2, 1) := by decide +kernel
theorem dX2_isSure_1 : decode cX2_isSure 1 = .ok (.aload_n 0, 1) := by decide +kernel
theorem dX2_isSure_2 : decode cX2_isSure 2 = .ok (.invokevirtual 58, 3) := by decide +kernel
theorem dX2_isSure_5 : decode cX2_isSure 5 = .ok (.imul, 1) := by decide +kernel
theorem dX2_isSure_6 : decode cX2_isSure 6 = .ok (.aload_n 0, 1) := by decide +kernel
theorem dX2_isSure_7 : decode cX2_isSure 7 = .ok (.getfield 31, 3) := by decide +kernel
theorem dX2_isSure_10 : decode cX2_isSure 10 = .ok (.if_icmp .ge 7, 3) := by decide +kernel
theorem dX2_isSure_13 : decode cX2_isSure 13 = .ok (.iconst 1, 1) := by decide +kernel
theorem dX2_isSure_14 : decode cX2_isSure 14 = .ok (.goto 4, 3) := by decide +kernel
theorem dX2_isSure_17 : decode cX2_isSure 17 = .ok (.iconst 0, 1) := by decide +kernel
theorem dX2_isSure_18 : decode cX2_isSure 18 = .ok (.ireturn, 1) := by decide +kernel
theorem dX2_crossed_0 : decode cX2_crossed 0 = .ok (.iload_n 1, 1) := by decide +kernel
theorem dX2_crossed_1 : decode cX2_crossed 1 = .ok (.iconst 4, 1) := by decide +kernel
theorem dX2_crossed_2 : decode cX2_crossed 2 = .ok (.invokestatic 61, 3) := by decide +kernel
theorem dX2_crossed_5 : decode cX2_crossed 5 = .ok (.istore_n 3, 1) := by decide +kernel
theorem dX2_crossed_6 : decode cX2_crossed 6 = .ok (.iload_n 2, 1) := by decide +kernel
theorem dX2_crossed_7 : decode cX2_crossed 7 = .ok (.iconst 4, 1) := by decide +kernel
theorem dX2_crossed_8 : decode cX2_crossed 8 = .ok (.invokestatic 61, 3) := by decide +kernel
theorem dX2_crossed_11 : decode cX2_crossed 11 = .ok (.istore 4, 2) := by decide +kernel
theorem dX2_crossed_13 : decode cX2_crossed 13 = .ok (.aload_n 0, 1) := by decide +kernel
theorem dX2_crossed_14 : decode cX2_crossed 14 = .ok (.getfield 18, 3) := by decide +kernel
theorem dX2_crossed_17 : decode cX2_crossed 17 = .ok (.iload_n 3, 1) := by decide +kernel
theorem dX2_crossed_18 : decode cX2_crossed 18 = .ok (.laload, 1) := by decide +kernel
theorem dX2_crossed_19 : decode cX2_crossed 19 = .ok (.aload_n 0, 1) := by decide +kernel
theorem dX2_crossed_20 : decode cX2_crossed 20 = .ok (.getfield 22, 3) := by decide +kernel
theorem dX2_crossed_23 : decode cX2_crossed 23 = .ok (.iload 4, 2) := by decide +kernel
theorem dX2_crossed_25 : decode cX2_crossed 25 = .ok (.laload, 1) := by decide +kernel
theorem dX2_crossed_26 : decode cX2_crossed 26 = .ok (.lmul, 1) := by decide +kernel
theorem dX2_crossed_27 : decode cX2_crossed 27 = .ok (.aload_n 0, 1) := by decide +kernel
theorem dX2_crossed_28 : decode cX2_crossed 28 = .ok (.getfield 18, 3) := by decide +kernel
theorem dX2_crossed_31 : decode cX2_crossed 31 = .ok (.iload 4, 2) := by decide +kernel
theorem dX2_crossed_33 : decode cX2_crossed 33 = .ok (.laload, 1) := by decide +kernel
theorem dX2_crossed_34 : decode cX2_crossed 34 = .ok (.aload_n 0, 1) := by decide +kernel
theorem dX2_crossed_35 : decode cX2_crossed 35 = .ok (.getfield 22, 3) := by decide +kernel
theorem dX2_crossed_38 : decode cX2_crossed 38 = .ok (.iload_n 3, 1) := by decide +kernel
theorem dX2_crossed_39 : decode cX2_crossed 39 = .ok (.laload, 1) := by decide +kernel
theorem dX2_crossed_40 : decode cX2_crossed 40 = .ok (.lmul, 1) := by decide +kernel
theorem dX2_crossed_41 : decode cX2_crossed 41 = .ok (.lsub, 1) := by decide +kernel
theorem dX2_crossed_42 : decode cX2_crossed 42 = .ok (.lreturn, 1) := by decide +kernel
theorem dX2_area_0 : decode cX2_area 0 = .ok (.lconst 0, 1) := by decide +kernel
theorem dX2_area_1 : decode cX2_area 1 = .ok (.lstore_n 1, 1) := by decide +kernel
theorem dX2_area_2 : decode cX2_area 2 = .ok (.iconst 0, 1) := by decide +kernel
theorem dX2_area_3 : decode cX2_area 3 = .ok (.istore_n 3, 1) := by decide +kernel
theorem dX2_area_4 : decode cX2_area 4 = .ok (.iload_n 3, 1) := by decide +kernel
theorem dX2_area_5 : decode cX2_area 5 = .ok (.iconst 4, 1) := by decide +kernel
theorem dX2_area_6 : decode cX2_area 6 = .ok (.if_icmp .ge 20, 3) := by decide +kernel
theorem dX2_area_9 : decode cX2_area 9 = .ok (.lload_n 1, 1) := by decide +kernel
theorem dX2_area_10 : decode cX2_area 10 = .ok (.aload_n 0, 1) := by decide +kernel
theorem dX2_area_11 : decode cX2_area 11 = .ok (.iload_n 3, 1) := by decide +kernel
theorem dX2_area_12 : decode cX2_area 12 = .ok (.iload_n 3, 1) := by decide +kernel
theorem dX2_area_13 : decode cX2_area 13 = .ok (.iconst 1, 1) := by decide +kernel
theorem dX2_area_14 : decode cX2_area 14 = .ok (.iadd, 1) := by decide +kernel
theorem dX2_area_15 : decode cX2_area 15 = .ok (.invokevirtual 64, 3) := by decide +kernel
theorem dX2_area_18 : decode cX2_area 18 = .ok (.ladd, 1) := by decide +kernel
theorem dX2_area_19 : decode cX2_area 19 = .ok (.lstore_n 1, 1) := by decide +kernel
theorem dX2_area_20 : decode cX2_area 20 = .ok (.iinc 3 1, 3) := by decide +kernel
theorem dX2_area_23 : decode cX2_area 23 = .ok (.goto (-19), 3) := by decide +kernel
theorem dX2_area_26 : decode cX2_area 26 = .ok (.lload_n 1, 1) := by decide +kernel
theorem dX2_area_27 : decode cX2_area 27 = .ok (.lreturn, 1) := by decide +kernel
theorem dX2_isFolded_0 : decode cX2_isFolded 0 = .ok (.iconst 0, 1) := by decide +kernel
theorem dX2_isFolded_1 : decode cX2_isFolded 1 = .ok (.istore_n 1, 1) := by decide +kernel
theorem dX2_isFolded_2 : decode cX2_isFolded 2 = .ok (.iload_n 1, 1) := by decide +kernel
theorem dX2_isFolded_3 : decode cX2_isFolded 3 = .ok (.iconst 4, 1) := by decide +kernel
theorem dX2_isFolded_4 : decode cX2_isFolded 4 = .ok (.if_icmp .ge 44, 3) := by decide +kernel
theorem dX2_isFolded_7 : decode cX2_isFolded 7 = .ok (.aload_n 0, 1) := by decide +kernel
theorem dX2_isFolded_8 : decode cX2_isFolded 8 = .ok (.iload_n 1, 1) := by decide +kernel
theorem dX2_isFolded_9 : decode cX2_isFolded 9 = .ok (.iconst 1, 1) := by decide +kernel
theorem dX2_isFolded_10 : decode cX2_isFolded 10 = .ok (.isub, 1) := by decide +kernel
theorem dX2_isFolded_11 : decode cX2_isFolded 11 = .ok (.iload_n 1, 1) := by decide +kernel
theorem dX2_isFolded_12 : decode cX2_isFolded 12 = .ok (.invokevirtual 64, 3) := by decide +kernel
theorem dX2_isFolded_15 : decode cX2_isFolded 15 = .ok (.aload_n 0, 1) := by decide +kernel
theorem dX2_isFolded_16 : decode cX2_isFolded 16 = .ok (.iload_n 1, 1) := by decide +kernel
theorem dX2_isFolded_17 : decode cX2_isFolded 17 = .ok (.iload_n 1, 1) := by decide +kernel
theorem dX2_isFolded_18 : decode cX2_isFolded 18 = .ok (.iconst 1, 1) := by decide +kernel
theorem dX2_isFolded_19 : decode cX2_isFolded 19 = .ok (.iadd, 1) := by decide +kernel
theorem dX2_isFolded_20 : decode cX2_isFolded 20 = .ok (.invokevirtual 64, 3) := by decide +kernel
theorem dX2_isFolded_23 : decode cX2_isFolded 23 = .ok (.ladd, 1) := by decide +kernel
theorem dX2_isFolded_24 : decode cX2_isFolded 24 = .ok (.aload_n 0, 1) := by decide +kernel
theorem dX2_isFolded_25 : decode cX2_isFolded 25 = .ok (.iload_n 1, 1) := by decide +kernel
theorem dX2_isFolded_26 : decode cX2_isFolded 26 = .ok (.iconst 1, 1) := by decide +kernel
theorem dX2_isFolded_27 : decode cX2_isFolded 27 = .ok (.iadd, 1) := by decide +kernel
theorem dX2_isFolded_28 : decode cX2_isFolded 28 = .ok (.iload_n 1, 1) := by decide +kernel
theorem dX2_isFolded_29 : decode cX2_isFolded 29 = .ok (.iconst 1, 1) := by decide +kernel
theorem dX2_isFolded_30 : decode cX2_isFolded 30 = .ok (.isub, 1) := by decide +kernel
theorem dX2_isFolded_31 : decode cX2_isFolded 31 = .ok (.invokevirtual 64, 3) := by decide +kernel
theorem dX2_isFolded_34 : decode cX2_isFolded 34 = .ok (.ladd, 1) := by decide +kernel
theorem dX2_isFolded_35 : decode cX2_isFolded 35 = .ok (.lconst 0, 1) := by decide +kernel
theorem dX2_isFolded_36 : decode cX2_isFolded 36 = .ok (.lcmp, 1) := by decide +kernel
theorem dX2_isFolded_37 : decode cX2_isFolded 37 = .ok (.ifCond .gt 5, 3) := by decide +kernel
theorem dX2_isFolded_40 : decode cX2_isFolded 40 = .ok (.iconst 1, 1) := by decide +kernel
theorem dX2_isFolded_41 : decode cX2_isFolded 41 = .ok (.ireturn, 1) := by decide +kernel
theorem dX2_isFolded_42 : decode cX2_isFolded 42 = .ok (.iinc 1 1, 3) := by decide +kernel
theorem dX2_isFolded_45 : decode cX2_isFolded 45 = .ok (.goto (-43), 3) := by decide +kernel
theorem dX2_isFolded_48 : decode cX2_isFolded 48 = .ok (.iconst 0, 1) := by decide +kernel
theorem dX2_isFolded_49 : decode cX2_isFolded 49 = .ok (.ireturn, 1) := by decide +kernel
theorem dX3_init_0 : decode cX3_init 0 = .ok (.aload_n 0, 1) := by decide +kernel
theorem dX3_init_1 : decode cX3_init 1 = .ok (.invokespecial 1, 3) := by decide +kernel
theorem dX3_init_4 : decode cX3_init 4 = .ok (.return_, 1) := by decide +kernel
theorem dX3_seedNow_0 : decode cX3_seedNow 0 = .ok (.aload_n 0, 1) := by decide +kernel
theorem dX3_seedNow_1 : decode cX3_seedNow 1 = .ok (.getfield 7, 3) := by decide +kernel
theorem dX3_seedNow_4 : decode cX3_seedNow 4 = .ok (.ireturn, 1) := by decide +kernel
theorem dX3_setSeed_0 : decode cX3_setSeed 0 = .ok (.aload_n 0, 1) := by decide +kernel
theorem dX3_setSeed_1 : decode cX3_setSeed 1 = .ok (.iload_n 1, 1) := by decide +kernel
theorem dX3_setSeed_2 : decode cX3_setSeed 2 = .ok (.putfield 7, 3) := by decide +kernel
theorem dX3_setSeed_5 : decode cX3_setSeed 5 = .ok (.return_, 1) := by decide +kernel
theorem dX3_draw_0 : decode cX3_draw 0 = .ok (.aload_n 0, 1) := by decide +kernel
theorem dX3_draw_1 : decode cX3_draw 1 = .ok (.aload_n 0, 1) := by decide +kernel
theorem dX3_draw_2 : decode cX3_draw 2 = .ok (.getfield 7, 3) := by decide +kernel
theorem dX3_draw_5 : decode cX3_draw 5 = .ok (.i2l, 1) := by decide +kernel
theorem dX3_draw_6 : decode cX3_draw 6 = .ok (.ldc2_w 13, 3) := by decide +kernel
theorem dX3_draw_9 : decode cX3_draw 9 = .ok (.lmul, 1) := by decide +kernel
theorem dX3_draw_10 : decode cX3_draw 10 = .ok (.ldc2_w 15, 3) := by decide +kernel
theorem dX3_draw_13 : decode cX3_draw 13 = .ok (.ladd, 1) := by decide +kernel
theorem dX3_draw_14 : decode cX3_draw 14 = .ok (.ldc2_w 17, 3) := by decide +kernel
theorem dX3_draw_17 : decode cX3_draw 17 = .ok (.land, 1) := by decide +kernel
theorem dX3_draw_18 : decode cX3_draw 18 = .ok (.l2i, 1) := by decide +kernel
theorem dX3_draw_19 : decode cX3_draw 19 = .ok (.putfield 7, 3) := by decide +kernel
theorem dX3_draw_22 : decode cX3_draw 22 = .ok (.iload_n 1, 1) := by decide +kernel
theorem dX3_draw_23 : decode cX3_draw 23 = .ok (.ifCond .le 15, 3) := by decide +kernel
theorem dX3_draw_26 : decode cX3_draw 26 = .ok (.aload_n 0, 1) := by decide +kernel
theorem dX3_draw_27 : decode cX3_draw 27 = .ok (.getfield 7, 3) := by decide +kernel
theorem dX3_draw_30 : decode cX3_draw 30 = .ok (.ldc 19, 2) := by decide +kernel
theorem dX3_draw_32 : decode cX3_draw 32 = .ok (.idiv, 1) := by decide +kernel
theorem dX3_draw_33 : decode cX3_draw 33 = .ok (.iload_n 1, 1) := by decide +kernel
theorem dX3_draw_34 : decode cX3_draw 34 = .ok (.irem, 1) := by decide +kernel
theorem dX3_draw_35 : decode cX3_draw 35 = .ok (.goto 4, 3) := by decide +kernel
theorem dX3_draw_38 : decode cX3_draw 38 = .ok (.iconst 0, 1) := by decide +kernel
theorem dX3_draw_39 : decode cX3_draw 39 = .ok (.ireturn, 1) := by decide +kernel
theorem dX3_shiftNode_0 : decode cX3_shiftNode 0 = .ok (.aload_n 1, 1) := by decide +kernel
theorem dX3_shiftNode_1 : decode cX3_shiftNode 1 = .ok (.ifnonnull 7, 3) := by decide +kernel
theorem dX3_shiftNode_4 : decode cX3_shiftNode 4 = .ok (.aconst_null, 1) := by decide +kernel
theorem dX3_shiftNode_5 : decode cX3_shiftNode 5 = .ok (.goto 15, 3) := by decide +kernel
theorem dX3_shiftNode_8 : decode cX3_shiftNode 8 = .ok (.aload_n 1, 1) := by decide +kernel
theorem dX3_shiftNode_9 : decode cX3_shiftNode 9 = .ok (.aload_n 0, 1) := by decide +kernel
theorem dX3_shiftNode_10 : decode cX3_shiftNode 10 = .ok (.aload_n 1, 1) := by decide +kernel
theorem dX3_shiftNode_11 : decode cX3_shiftNode 11 = .ok (.invokevirtual 20, 3) := by decide +kernel
theorem dX3_shiftNode_14 : decode cX3_shiftNode 14 = .ok (.invokevirtual 26, 3) := by decide +kernel
theorem dX3_shiftNode_17 : decode cX3_shiftNode 17 = .ok (.invokevirtual 30, 3) := by decide +kernel
theorem dX3_shiftNode_20 : decode cX3_shiftNode 20 = .ok (.astore_n 2, 1) := by decide +kernel
theorem dX3_shiftNode_21 : decode cX3_shiftNode 21 = .ok (.aload_n 2, 1) := by decide +kernel
theorem dX3_shiftNode_22 : decode cX3_shiftNode 22 = .ok (.ifnonnull 4, 3) := by decide +kernel
theorem dX3_shiftNode_25 : decode cX3_shiftNode 25 = .ok (.return_, 1) := by decide +kernel
theorem dX3_shiftNode_26 : decode cX3_shiftNode 26 = .ok (.aload_n 0, 1) := by decide +kernel
theorem dX3_shiftNode_27 : decode cX3_shiftNode 27 = .ok (.aload_n 2, 1) := by decide +kernel
theorem dX3_shiftNode_28 : decode cX3_shiftNode 28 = .ok (.getfield 34, 3) := by decide +kernel
theorem dX3_shiftNode_31 : decode cX3_shiftNode 31 = .ok (.invokevirtual 26, 3) := by decide +kernel
theorem dX3_shiftNode_34 : decode cX3_shiftNode 34 = .ok (.istore_n 3, 1) := by decide +kernel
theorem dX3_shiftNode_35 : decode cX3_shiftNode 35 = .ok (.aload_n 0, 1) := by decide +kernel
theorem dX3_shiftNode_36 : decode cX3_shiftNode 36 = .ok (.aload_n 2, 1) := by decide +kernel
theorem dX3_shiftNode_37 : decode cX3_shiftNode 37 = .ok (.getfield 39, 3) := by decide +kernel
theorem dX3_shiftNode_40 : decode cX3_shiftNode 40 = .ok (.invokevirtual 26, 3) := by decide +kernel
theorem dX3_shiftNode_43 : decode cX3_shiftNode 43 = .ok (.istore 4, 2) := by decide +kernel
theorem dX3_shiftNode_45 : decode cX3_shiftNode 45 = .ok (.aload_n 0, 1) := by decide +kernel
theorem dX3_shiftNode_46 : decode cX3_shiftNode 46 = .ok (.sipush 401, 3) := by decide +kernel
theorem dX3_shiftNode_49 : decode cX3_shiftNode 49 = .ok (.invokevirtual 26, 3) := by decide +kernel
theorem dX3_shiftNode_52 : decode cX3_shiftNode 52 = .ok (.sipush 200, 3) := by decide +kernel
theorem dX3_shiftNode_55 : decode cX3_shiftNode 55 = .ok (.isub, 1) := by decide +kernel
theorem dX3_shiftNode_56 : decode cX3_shiftNode 56 = .ok (.istore 5, 2) := by decide +kernel
theorem dX3_shiftNode_58 : decode cX3_shiftNode 58 = .ok (.aload_n 0, 1) := by decide +kernel
theorem dX3_shiftNode_59 : decode cX3_shiftNode 59 = .ok (.sipush 401, 3) := by decide +kernel
theorem dX3_shiftNode_62 : decode cX3_shiftNode 62 = .ok (.invokevirtual 26, 3) := by decide +kernel
theorem dX3_shiftNode_65 : decode cX3_shiftNode 65 = .ok (.sipush 200, 3) := by decide +kernel
theorem dX3_shiftNode_68 : decode cX3_shiftNode 68 = .ok (.isub, 1) := by decide +kernel
theorem dX3_shiftNode_69 : decode cX3_shiftNode 69 = .ok (.istore 6, 2) := by decide +kernel
theorem dX3_shiftNode_71 : decode cX3_shiftNode 71 = .ok (.aload_n 2, 1) := by decide +kernel
theorem dX3_shiftNode_72 : decode cX3_shiftNode 72 = .ok (.iload_n 3, 1) := by decide +kernel
theorem dX3_shiftNode_73 : decode cX3_shiftNode 73 = .ok (.iload 4, 2) := by decide +kernel
theorem dX3_shiftNode_75 : decode cX3_shiftNode 75 = .ok (.iload 5, 2) := by decide +kernel
theorem dX3_shiftNode_77 : decode cX3_shiftNode 77 = .ok (.iload 6, 2) := by decide +kernel
theorem dX3_shiftNode_79 : decode cX3_shiftNode 79 = .ok (.invokevirtual 42, 3) := by decide +kernel
theorem dX3_shiftNode_82 : decode cX3_shiftNode 82 = .ok (.pop, 1) := by decide +kernel
theorem dX3_shiftNode_83 : decode cX3_shiftNode 83 = .ok (.return_, 1) := by decide +kernel
theorem dX4_init_0 : decode cX4_init 0 = .ok (.aload_n 0, 1) := by decide +kernel
theorem dX4_init_1 : decode cX4_init 1 = .ok (.invokespecial 3, 3) := by decide +kernel
theorem dX4_init_4 : decode cX4_init 4 = .ok (.aload_n 0, 1) := by decide +kernel
theorem dX4_init_5 : decode cX4_init 5 = .ok (.bipush 50, 2) := by decide +kernel
theorem dX4_init_7 : decode cX4_init 7 = .ok (.newarray .int, 2) := by decide +kernel
theorem dX4_init_9 : decode cX4_init 9 = .ok (.putfield 9, 3) := by decide +kernel
theorem dX4_init_12 : decode cX4_init 12 = .ok (.return_, 1) := by decide +kernel
theorem dX4_place_0 : decode cX4_place 0 = .ok (.aload_n 0, 1) := by decide +kernel
theorem dX4_place_1 : decode cX4_place 1 = .ok (.iload_n 1, 1) := by decide +kernel
theorem dX4_place_2 : decode cX4_place 2 = .ok (.putfield 15, 3) := by decide +kernel
theorem dX4_place_5 : decode cX4_place 5 = .ok (.aload_n 0, 1) := by decide +kernel
theorem dX4_place_6 : decode cX4_place 6 = .ok (.iload_n 2, 1) := by decide +kernel
theorem dX4_place_7 : decode cX4_place 7 = .ok (.putfield 19, 3) := by decide +kernel
theorem dX4_place_10 : decode cX4_place 10 = .ok (.aload_n 0, 1) := by decide +kernel
theorem dX4_place_11 : decode cX4_place 11 = .ok (.iload_n 3, 1) := by decide +kernel
theorem dX4_place_12 : decode cX4_place 12 = .ok (.putfield 22, 3) := by decide +kernel
theorem dX4_place_15 : decode cX4_place 15 = .ok (.aload_n 0, 1) := by decide +kernel
theorem dX4_place_16 : decode cX4_place 16 = .ok (.iload 4, 2) := by decide +kernel
theorem dX4_place_18 : decode cX4_place 18 = .ok (.putfield 25, 3) := by decide +kernel
theorem dX4_place_21 : decode cX4_place 21 = .ok (.aload_n 0, 1) := by decide +kernel
theorem dX4_place_22 : decode cX4_place 22 = .ok (.iload 5, 2) := by decide +kernel
theorem dX4_place_24 : decode cX4_place 24 = .ok (.putfield 28, 3) := by decide +kernel
theorem dX4_place_27 : decode cX4_place 27 = .ok (.aload_n 0, 1) := by decide +kernel
theorem dX4_place_28 : decode cX4_place 28 = .ok (.iload 6, 2) := by decide +kernel
theorem dX4_place_30 : decode cX4_place 30 = .ok (.putfield 31, 3) := by decide +kernel
theorem dX4_place_33 : decode cX4_place 33 = .ok (.return_, 1) := by decide +kernel
theorem dX4_copyFrom_0 : decode cX4_copyFrom 0 = .ok (.aload_n 1, 1) := by decide +kernel
theorem dX4_copyFrom_1 : decode cX4_copyFrom 1 = .ok (.ifnull 46, 3) := by decide +kernel
theorem dX4_copyFrom_4 : decode cX4_copyFrom 4 = .ok (.aload_n 0, 1) := by decide +kernel
theorem dX4_copyFrom_5 : decode cX4_copyFrom 5 = .ok (.aload_n 1, 1) := by decide +kernel
theorem dX4_copyFrom_6 : decode cX4_copyFrom 6 = .ok (.getfield 15, 3) := by decide +kernel
theorem dX4_copyFrom_9 : decode cX4_copyFrom 9 = .ok (.aload_n 1, 1) := by decide +kernel
theorem dX4_copyFrom_10 : decode cX4_copyFrom 10 = .ok (.getfield 19, 3) := by decide +kernel
theorem dX4_copyFrom_13 : decode cX4_copyFrom 13 = .ok (.aload_n 1, 1) := by decide +kernel
theorem dX4_copyFrom_14 : decode cX4_copyFrom 14 = .ok (.getfield 22, 3) := by decide +kernel
theorem dX4_copyFrom_17 : decode cX4_copyFrom 17 = .ok (.aload_n 1, 1) := by decide +kernel
theorem dX4_copyFrom_18 : decode cX4_copyFrom 18 = .ok (.getfield 25, 3) := by decide +kernel
theorem dX4_copyFrom_21 : decode cX4_copyFrom 21 = .ok (.aload_n 1, 1) := by decide +kernel
theorem dX4_copyFrom_22 : decode cX4_copyFrom 22 = .ok (.getfield 28, 3) := by decide +kernel
theorem dX4_copyFrom_25 : decode cX4_copyFrom 25 = .ok (.aload_n 1, 1) := by decide +kernel
theorem dX4_copyFrom_26 : decode cX4_copyFrom 26 = .ok (.getfield 31, 3) := by decide +kernel
theorem dX4_copyFrom_29 : decode cX4_copyFrom 29 = .ok (.invokevirtual 34, 3) := by decide +kernel
theorem dX4_copyFrom_32 : decode cX4_copyFrom 32 = .ok (.aload_n 1, 1) := by decide +kernel
theorem dX4_copyFrom_33 : decode cX4_copyFrom 33 = .ok (.getfield 9, 3) := by decide +kernel
theorem dX4_copyFrom_36 : decode cX4_copyFrom 36 = .ok (.iconst 0, 1) := by decide +kernel
theorem dX4_copyFrom_37 : decode cX4_copyFrom 37 = .ok (.aload_n 0, 1) := by decide +kernel
theorem dX4_copyFrom_38 : decode cX4_copyFrom 38 = .ok (.getfield 9, 3) := by decide +kernel
theorem dX4_copyFrom_41 : decode cX4_copyFrom 41 = .ok (.iconst 0, 1) := by decide +kernel
theorem dX4_copyFrom_42 : decode cX4_copyFrom 42 = .ok (.bipush 50, 2) := by decide +kernel
theorem dX4_copyFrom_44 : decode cX4_copyFrom 44 = .ok (.invokestatic 38, 3) := by decide +kernel
theorem dX4_copyFrom_47 : decode cX4_copyFrom 47 = .ok (.return_, 1) := by decide +kernel
theorem dX4_hasNode_0 : decode cX4_hasNode 0 = .ok (.iload_n 1, 1) := by decide +kernel
theorem dX4_hasNode_1 : decode cX4_hasNode 1 = .ok (.ifCond .lt 27, 3) := by decide +kernel
theorem dX4_hasNode_4 : decode cX4_hasNode 4 = .ok (.iload_n 1, 1) := by decide +kernel
theorem dX4_hasNode_5 : decode cX4_hasNode 5 = .ok (.aload_n 0, 1) := by decide +kernel
theorem dX4_hasNode_6 : decode cX4_hasNode 6 = .ok (.getfield 28, 3) := by decide +kernel
theorem dX4_hasNode_9 : decode cX4_hasNode 9 = .ok (.if_icmp .ge 19, 3) := by decide +kernel
theorem dX4_hasNode_12 : decode cX4_hasNode 12 = .ok (.iload_n 2, 1) := by decide +kernel
theorem dX4_hasNode_13 : decode cX4_hasNode 13 = .ok (.ifCond .lt 15, 3) := by decide +kernel
theorem dX4_hasNode_16 : decode cX4_hasNode 16 = .ok (.iload_n 2, 1) := by decide +kernel
theorem dX4_hasNode_17 : decode cX4_hasNode 17 = .ok (.aload_n 0, 1) := by decide +kernel
theorem dX4_hasNode_18 : decode cX4_hasNode 18 = .ok (.getfield 31, 3) := by decide +kernel
theorem dX4_hasNode_21 : decode cX4_hasNode 21 = .ok (.if_icmp .ge 7, 3) := by decide +kernel
theorem dX4_hasNode_24 : decode cX4_hasNode 24 = .ok (.iconst 1, 1) := by decide +kernel
theorem dX4_hasNode_25 : decode cX4_hasNode 25 = .ok (.goto 4, 3) := by decide +kernel
theorem dX4_hasNode_28 : decode cX4_hasNode 28 = .ok (.iconst 0, 1) := by decide +kernel
theorem dX4_hasNode_29 : decode cX4_hasNode 29 = .ok (.ireturn, 1) := by decide +kernel
theorem dX4_hasCell_0 : decode cX4_hasCell 0 = .ok (.iload_n 1, 1) := by decide +kernel
theorem dX4_hasCell_1 : decode cX4_hasCell 1 = .ok (.ifCond .lt 31, 3) := by decide +kernel
theorem dX4_hasCell_4 : decode cX4_hasCell 4 = .ok (.iload_n 1, 1) := by decide +kernel
theorem dX4_hasCell_5 : decode cX4_hasCell 5 = .ok (.aload_n 0, 1) := by decide +kernel
theorem dX4_hasCell_6 : decode cX4_hasCell 6 = .ok (.getfield 28, 3) := by decide +kernel
theorem dX4_hasCell_9 : decode cX4_hasCell 9 = .ok (.iconst 1, 1) := by decide +kernel
theorem dX4_hasCell_10 : decode cX4_hasCell 10 = .ok (.isub, 1) := by decide +kernel
theorem dX4_hasCell_11 : decode cX4_hasCell 11 = .ok (.if_icmp .ge 21, 3) := by decide +kernel
theorem dX4_hasCell_14 : decode cX4_hasCell 14 = .ok (.iload_n 2, 1) := by decide +kernel
theorem dX4_hasCell_15 : decode cX4_hasCell 15 = .ok (.ifCond .lt 17, 3) := by decide +kernel
theorem dX4_hasCell_18 : decode cX4_hasCell 18 = .ok (.iload_n 2, 1) := by decide +kernel
theorem dX4_hasCell_19 : decode cX4_hasCell 19 = .ok (.aload_n 0, 1) := by decide +kernel
theorem dX4_hasCell_20 : decode cX4_hasCell 20 = .ok (.getfield 31, 3) := by decide +kernel
theorem dX4_hasCell_23 : decode cX4_hasCell 23 = .ok (.iconst 1, 1) := by decide +kernel
theorem dX4_hasCell_24 : decode cX4_hasCell 24 = .ok (.isub, 1) := by decide +kernel
theorem dX4_hasCell_25 : decode cX4_hasCell 25 = .ok (.if_icmp .ge 7, 3) := by decide +kernel
theorem dX4_hasCell_28 : decode cX4_hasCell 28 = .ok (.iconst 1, 1) := by decide +kernel
theorem dX4_hasCell_29 : decode cX4_hasCell 29 = .ok (.goto 4, 3) := by decide +kernel
theorem dX4_hasCell_32 : decode cX4_hasCell 32 = .ok (.iconst 0, 1) := by decide +kernel
theorem dX4_hasCell_33 : decode cX4_hasCell 33 = .ok (.ireturn, 1) := by decide +kernel
theorem dX4_isOnBorder_0 : decode cX4_isOnBorder 0 = .ok (.iload_n 1, 1) := by decide +kernel
theorem dX4_isOnBorder_1 : decode cX4_isOnBorder 1 = .ok (.ifCond .eq 27, 3) := by decide +kernel
theorem dX4_isOnBorder_4 : decode cX4_isOnBorder 4 = .ok (.iload_n 1, 1) := by decide +kernel
theorem dX4_isOnBorder_5 : decode cX4_isOnBorder 5 = .ok (.aload_n 0, 1) := by decide +kernel
theorem dX4_isOnBorder_6 : decode cX4_isOnBorder 6 = .ok (.getfield 28, 3) := by decide +kernel
theorem dX4_isOnBorder_9 : decode cX4_isOnBorder 9 = .ok (.iconst 1, 1) := by decide +kernel
theorem dX4_isOnBorder_10 : decode cX4_isOnBorder 10 = .ok (.isub, 1) := by decide +kernel
theorem dX4_isOnBorder_11 : decode cX4_isOnBorder 11 = .ok (.if_icmp .eq 17, 3) := by decide +kernel
theorem dX4_isOnBorder_14 : decode cX4_isOnBorder 14 = .ok (.iload_n 2, 1) := by decide +kernel
theorem dX4_isOnBorder_15 : decode cX4_isOnBorder 15 = .ok (.ifCond .eq 13, 3) := by decide +kernel
theorem dX4_isOnBorder_18 : decode cX4_isOnBorder 18 = .ok (.iload_n 2, 1) := by decide +kernel
theorem dX4_isOnBorder_19 : decode cX4_isOnBorder 19 = .ok (.aload_n 0, 1) := by decide +kernel
theorem dX4_isOnBorder_20 : decode cX4_isOnBorder 20 = .ok (.getfield 31, 3) := by decide +kernel
theorem dX4_isOnBorder_23 : decode cX4_isOnBorder 23 = .ok (.iconst 1, 1) := by decide +kernel
theorem dX4_isOnBorder_24 : decode cX4_isOnBorder 24 = .ok (.isub, 1) := by decide +kernel
theorem dX4_isOnBorder_25 : decode cX4_isOnBorder 25 = .ok (.if_icmp .ne 7, 3) := by decide +kernel
theorem dX4_isOnBorder_28 : decode cX4_isOnBorder 28 = .ok (.iconst 1, 1) := by decide +kernel
theorem dX4_isOnBorder_29 : decode cX4_isOnBorder 29 = .ok (.goto 4, 3) := by decide +kernel
theorem dX4_isOnBorder_32 : decode cX4_isOnBorder 32 = .ok (.iconst 0, 1) := by decide +kernel
theorem dX4_isOnBorder_33 : decode cX4_isOnBorder 33 = .ok (.ireturn, 1) := by decide +kernel
theorem dX4_right_0 : decode cX4_right 0 = .ok (.aload_n 0, 1) := by decide +kernel
theorem dX4_right_1 : decode cX4_right 1 = .ok (.getfield 19, 3) := by decide +kernel
theorem dX4_right_4 : decode cX4_right 4 = .ok (.aload_n 0, 1) := by decide +kernel
theorem dX4_right_5 : decode cX4_right 5 = .ok (.getfield 28, 3) := by decide +kernel
theorem dX4_right_8 : decode cX4_right 8 = .ok (.iconst 1, 1) := by decide +kernel
theorem dX4_right_9 : decode cX4_right 9 = .ok (.isub, 1) := by decide +kernel
theorem dX4_right_10 : decode cX4_right 10 = .ok (.aload_n 0, 1) := by decide +kernel
theorem dX4_right_11 : decode cX4_right 11 = .ok (.getfield 25, 3) := by decide +kernel
theorem dX4_right_14 : decode cX4_right 14 = .ok (.imul, 1) := by decide +kernel
theorem dX4_right_15 : decode cX4_right 15 = .ok (.iadd, 1) := by decide +kernel
theorem dX4_right_16 : decode cX4_right 16 = .ok (.ireturn, 1) := by decide +kernel
theorem dX4_bottom_0 : decode cX4_bottom 0 = .ok (.aload_n 0, 1) := by decide +kernel
theorem dX4_bottom_1 : decode cX4_bottom 1 = .ok (.getfield 22, 3) := by decide +kernel
theorem dX4_bottom_4 : decode cX4_bottom 4 = .ok (.aload_n 0, 1) := by decide +kernel
theorem dX4_bottom_5 : decode cX4_bottom 5 = .ok (.getfield 31, 3) := by decide +kernel
theorem dX4_bottom_8 : decode cX4_bottom 8 = .ok (.iconst 1, 1) := by decide +kernel
theorem dX4_bottom_9 : decode cX4_bottom 9 = .ok (.isub, 1) := by decide +kernel
theorem dX4_bottom_10 : decode cX4_bottom 10 = .ok (.aload_n 0, 1) := by decide +kernel
theorem dX4_bottom_11 : decode cX4_bottom 11 = .ok (.getfield 25, 3) := by decide +kernel
theorem dX4_bottom_14 : decode cX4_bottom 14 = .ok (.imul, 1) := by decide +kernel
theorem dX4_bottom_15 : decode cX4_bottom 15 = .ok (.iadd, 1) := by decide +kernel
theorem dX4_bottom_16 : decode cX4_bottom 16 = .ok (.ireturn, 1) := by decide +kernel
theorem dX4_side_0 : decode cX4_side 0 = .ok (.aload_n 0, 1) := by decide +kernel
theorem dX4_side_1 : decode cX4_side 1 = .ok (.getfield 25, 3) := by decide +kernel
theorem dX4_side_4 : decode cX4_side 4 = .ok (.bipush 64, 2) := by decide +kernel
theorem dX4_side_6 : decode cX4_side 6 = .ok (.imul, 1) := by decide +kernel
theorem dX4_side_7 : decode cX4_side 7 = .ok (.ireturn, 1) := by decide +kernel
theorem dX4_columnPlace_0 : decode cX4_columnPlace 0 = .ok (.aload_n 0, 1) := by decide +kernel
theorem dX4_columnPlace_1 : decode cX4_columnPlace 1 = .ok (.getfield 19, 3) := by decide +kernel
theorem dX4_columnPlace_4 : decode cX4_columnPlace 4 = .ok (.iload_n 1, 1) := by decide +kernel
theorem dX4_columnPlace_5 : decode cX4_columnPlace 5 = .ok (.aload_n 0, 1) := by decide +kernel
theorem dX4_columnPlace_6 : decode cX4_columnPlace 6 = .ok (.getfield 25, 3) := by decide +kernel
theorem dX4_columnPlace_9 : decode cX4_columnPlace 9 = .ok (.imul, 1) := by decide +kernel
theorem dX4_columnPlace_10 : decode cX4_columnPlace 10 = .ok (.iadd, 1) := by decide +kernel
theorem dX4_columnPlace_11 : decode cX4_columnPlace 11 = .ok (.bipush 64, 2) := by decide +kernel
theorem dX4_columnPlace_13 : decode cX4_columnPlace 13 = .ok (.imul, 1) := by decide +kernel
theorem dX4_columnPlace_14 : decode cX4_columnPlace 14 = .ok (.ireturn, 1) := by decide +kernel
theorem dX4_rowPlace_0 : decode cX4_rowPlace 0 = .ok (.aload_n 0, 1) := by decide +kernel
theorem dX4_rowPlace_1 : decode cX4_rowPlace 1 = .ok (.getfield 22, 3) := by decide +kernel
theorem dX4_rowPlace_4 : decode cX4_rowPlace 4 = .ok (.iload_n 1, 1) := by decide +kernel
theorem dX4_rowPlace_5 : decode cX4_rowPlace 5 = .ok (.aload_n 0, 1) := by decide +kernel
theorem dX4_rowPlace_6 : decode cX4_rowPlace 6 = .ok (.getfield 25, 3) := by decide +kernel
theorem dX4_rowPlace_9 : decode cX4_rowPlace 9 = .ok (.imul, 1) := by decide +kernel
theorem dX4_rowPlace_10 : decode cX4_rowPlace 10 = .ok (.iadd, 1) := by decide +kernel
theorem dX4_rowPlace_11 : decode cX4_rowPlace 11 = .ok (.bipush 64, 2) := by decide +kernel
theorem dX4_rowPlace_13 : decode cX4_rowPlace 13 = .ok (.imul, 1) := by decide +kernel
theorem dX4_rowPlace_14 : decode cX4_rowPlace 14 = .ok (.ireturn, 1) := by decide +kernel
theorem dX4_isOnGround_0 : decode cX4_isOnGround 0 = .ok (.iload_n 1, 1) := by decide +kernel
theorem dX4_isOnGround_1 : decode cX4_isOnGround 1 = .ok (.aload_n 0, 1) := by decide +kernel
theorem dX4_isOnGround_2 : decode cX4_isOnGround 2 = .ok (.getfield 19, 3) := by decide +kernel
theorem dX4_isOnGround_5 : decode cX4_isOnGround 5 = .ok (.bipush 64, 2) := by decide +kernel
theorem dX4_isOnGround_7 : decode cX4_isOnGround 7 = .ok (.imul, 1) := by decide +kernel
theorem dX4_isOnGround_8 : decode cX4_isOnGround 8 = .ok (.if_icmp .lt 40, 3) := by decide +kernel
theorem dX4_isOnGround_11 : decode cX4_isOnGround 11 = .ok (.iload_n 1, 1) := by decide +kernel
theorem dX4_isOnGround_12 : decode cX4_isOnGround 12 = .ok (.aload_n 0, 1) := by decide +kernel
theorem dX4_isOnGround_13 : decode cX4_isOnGround 13 = .ok (.invokevirtual 44, 3) := by decide +kernel
theorem dX4_isOnGround_16 : decode cX4_isOnGround 16 = .ok (.bipush 64, 2) := by decide +kernel
theorem dX4_isOnGround_18 : decode cX4_isOnGround 18 = .ok (.imul, 1) := by decide +kernel
theorem dX4_isOnGround_19 : decode cX4_isOnGround 19 = .ok (.if_icmp .gt 29, 3) := by decide +kernel
theorem dX4_isOnGround_22 : decode cX4_isOnGround 22 = .ok (.iload_n 2, 1) := by decide +kernel
theorem dX4_isOnGround_23 : decode cX4_isOnGround 23 = .ok (.aload_n 0, 1) := by decide +kernel
theorem dX4_isOnGround_24 : decode cX4_isOnGround 24 = .ok (.getfield 22, 3) := by decide +kernel
theorem dX4_isOnGround_27 : decode cX4_isOnGround 27 = .ok (.bipush 64, 2) := by decide +kernel
theorem dX4_isOnGround_29 : decode cX4_isOnGround 29 = .ok (.imul, 1) := by decide +kernel
theorem dX4_isOnGround_30 : decode cX4_isOnGround 30 = .ok (.if_icmp .lt 18, 3) := by decide +kernel
theorem dX4_isOnGround_33 : decode cX4_isOnGround 33 = .ok (.iload_n 2, 1) := by decide +kernel
theorem dX4_isOnGround_34 : decode cX4_isOnGround 34 = .ok (.aload_n 0, 1) := by decide +kernel
theorem dX4_isOnGround_35 : decode cX4_isOnGround 35 = .ok (.invokevirtual 48, 3) := by decide +kernel
theorem dX4_isOnGround_38 : decode cX4_isOnGround 38 = .ok (.bipush 64, 2) := by decide +kernel
theorem dX4_isOnGround_40 : decode cX4_isOnGround 40 = .ok (.imul, 1) := by decide +kernel
theorem dX4_isOnGround_41 : decode cX4_isOnGround 41 = .ok (.if_icmp .gt 7, 3) := by decide +kernel
theorem dX4_isOnGround_44 : decode cX4_isOnGround 44 = .ok (.iconst 1, 1) := by decide +kernel
theorem dX4_isOnGround_45 : decode cX4_isOnGround 45 = .ok (.goto 4, 3) := by decide +kernel
theorem dX4_isOnGround_48 : decode cX4_isOnGround 48 = .ok (.iconst 0, 1) := by decide +kernel
theorem dX4_isOnGround_49 : decode cX4_isOnGround 49 = .ok (.ireturn, 1) := by decide +kernel
theorem dX4_offset_0 : decode cX4_offset 0 = .ok (.iconst 2, 1) := by decide +kernel
theorem dX4_offset_1 : decode cX4_offset 1 = .ok (.iload_n 2, 1) := by decide +kernel
theorem dX4_offset_2 : decode cX4_offset 2 = .ok (.iconst 5, 1) := by decide +kernel
theorem dX4_offset_3 : decode cX4_offset 3 = .ok (.imul, 1) := by decide +kernel
theorem dX4_offset_4 : decode cX4_offset 4 = .ok (.iload_n 1, 1) := by decide +kernel
theorem dX4_offset_5 : decode cX4_offset 5 = .ok (.iadd, 1) := by decide +kernel
theorem dX4_offset_6 : decode cX4_offset 6 = .ok (.imul, 1) := by decide +kernel
theorem dX4_offset_7 : decode cX4_offset 7 = .ok (.iload_n 3, 1) := by decide +kernel
theorem dX4_offset_8 : decode cX4_offset 8 = .ok (.iadd, 1) := by decide +kernel
theorem dX4_offset_9 : decode cX4_offset 9 = .ok (.istore 4, 2) := by decide +kernel
theorem dX4_offset_11 : decode cX4_offset 11 = .ok (.iload 4, 2) := by decide +kernel
theorem dX4_offset_13 : decode cX4_offset 13 = .ok (.ifCond .lt 23, 3) := by decide +kernel
theorem dX4_offset_16 : decode cX4_offset 16 = .ok (.iload 4, 2) := by decide +kernel
theorem dX4_offset_18 : decode cX4_offset 18 = .ok (.aload_n 0, 1) := by decide +kernel
theorem dX4_offset_19 : decode cX4_offset 19 = .ok (.getfield 9, 3) := by decide +kernel
theorem dX4_offset_22 : decode cX4_offset 22 = .ok (.arraylength, 1) := by decide +kernel
theorem dX4_offset_23 : decode cX4_offset 23 = .ok (.if_icmp .ge 13, 3) := by decide +kernel
theorem dX4_offset_26 : decode cX4_offset 26 = .ok (.aload_n 0, 1) := by decide +kernel
theorem dX4_offset_27 : decode cX4_offset 27 = .ok (.getfield 9, 3) := by decide +kernel
theorem dX4_offset_30 : decode cX4_offset 30 = .ok (.iload 4, 2) := by decide +kernel
theorem dX4_offset_32 : decode cX4_offset 32 = .ok (.iaload, 1) := by decide +kernel
theorem dX4_offset_33 : decode cX4_offset 33 = .ok (.goto 4, 3) := by decide +kernel
theorem dX4_offset_36 : decode cX4_offset 36 = .ok (.iconst 0, 1) := by decide +kernel
theorem dX4_offset_37 : decode cX4_offset 37 = .ok (.ireturn, 1) := by decide +kernel
theorem dX4_setOffset_0 : decode cX4_setOffset 0 = .ok (.iconst 2, 1) := by decide +kernel
theorem dX4_setOffset_1 : decode cX4_setOffset 1 = .ok (.iload_n 2, 1) := by decide +kernel
theorem dX4_setOffset_2 : decode cX4_setOffset 2 = .ok (.iconst 5, 1) := by decide +kernel
theorem dX4_setOffset_3 : decode cX4_setOffset 3 = .ok (.imul, 1) := by decide +kernel
theorem dX4_setOffset_4 : decode cX4_setOffset 4 = .ok (.iload_n 1, 1) := by decide +kernel
theorem dX4_setOffset_5 : decode cX4_setOffset 5 = .ok (.iadd, 1) := by decide +kernel
theorem dX4_setOffset_6 : decode cX4_setOffset 6 = .ok (.imul, 1) := by decide +kernel
theorem dX4_setOffset_7 : decode cX4_setOffset 7 = .ok (.istore 5, 2) := by decide +kernel
theorem dX4_setOffset_9 : decode cX4_setOffset 9 = .ok (.iload 5, 2) := by decide +kernel
theorem dX4_setOffset_11 : decode cX4_setOffset 11 = .ok (.ifCond .lt 15, 3) := by decide +kernel
theorem dX4_setOffset_14 : decode cX4_setOffset 14 = .ok (.iload 5, 2) := by decide +kernel
theorem dX4_setOffset_16 : decode cX4_setOffset 16 = .ok (.iconst 1, 1) := by decide +kernel
theorem dX4_setOffset_17 : decode cX4_setOffset 17 = .ok (.iadd, 1) := by decide +kernel
theorem dX4_setOffset_18 : decode cX4_setOffset 18 = .ok (.aload_n 0, 1) := by decide +kernel
theorem dX4_setOffset_19 : decode cX4_setOffset 19 = .ok (.getfield 9, 3) := by decide +kernel
theorem dX4_setOffset_22 : decode cX4_setOffset 22 = .ok (.arraylength, 1) := by decide +kernel
theorem dX4_setOffset_23 : decode cX4_setOffset 23 = .ok (.if_icmp .lt 5, 3) := by decide +kernel
theorem dX4_setOffset_26 : decode cX4_setOffset 26 = .ok (.iconst 0, 1) := by decide +kernel
theorem dX4_setOffset_27 : decode cX4_setOffset 27 = .ok (.ireturn, 1) := by decide +kernel
theorem dX4_setOffset_28 : decode cX4_setOffset 28 = .ok (.aload_n 0, 1) := by decide +kernel
theorem dX4_setOffset_29 : decode cX4_setOffset 29 = .ok (.getfield 9, 3) := by decide +kernel
theorem dX4_setOffset_32 : decode cX4_setOffset 32 = .ok (.iload 5, 2) := by decide +kernel
theorem dX4_setOffset_34 : decode cX4_setOffset 34 = .ok (.iaload, 1) := by decide +kernel
theorem dX4_setOffset_35 : decode cX4_setOffset 35 = .ok (.iload_n 3, 1) := by decide +kernel
theorem dX4_setOffset_36 : decode cX4_setOffset 36 = .ok (.if_icmp .ne 17, 3) := by decide +kernel
theorem dX4_setOffset_39 : decode cX4_setOffset 39 = .ok (.aload_n 0, 1) := by decide +kernel
theorem dX4_setOffset_40 : decode cX4_setOffset 40 = .ok (.getfield 9, 3) := by decide +kernel
theorem dX4_setOffset_43 : decode cX4_setOffset 43 = .ok (.iload 5, 2) := by decide +kernel
theorem dX4_setOffset_45 : decode cX4_setOffset 45 = .ok (.iconst 1, 1) := by decide +kernel
theorem dX4_setOffset_46 : decode cX4_setOffset 46 = .ok (.iadd, 1) := by decide +kernel
theorem dX4_setOffset_47 : decode cX4_setOffset 47 = .ok (.iaload, 1) := by decide +kernel
theorem dX4_setOffset_48 : decode cX4_setOffset 48 = .ok (.iload 4, 2) := by decide +kernel
theorem dX4_setOffset_50 : decode cX4_setOffset 50 = .ok (.if_icmp .eq 7, 3) := by decide +kernel
theorem dX4_setOffset_53 : decode cX4_setOffset 53 = .ok (.iconst 1, 1) := by decide +kernel
theorem dX4_setOffset_54 : decode cX4_setOffset 54 = .ok (.goto 4, 3) := by decide +kernel
theorem dX4_setOffset_57 : decode cX4_setOffset 57 = .ok (.iconst 0, 1) := by decide +kernel
theorem dX4_setOffset_58 : decode cX4_setOffset 58 = .ok (.istore 6, 2) := by decide +kernel
theorem dX4_setOffset_60 : decode cX4_setOffset 60 = .ok (.aload_n 0, 1) := by decide +kernel
theorem dX4_setOffset_61 : decode cX4_setOffset 61 = .ok (.getfield 9, 3) := by decide +kernel
theorem dX4_setOffset_64 : decode cX4_setOffset 64 = .ok (.iload 5, 2) := by decide +kernel
theorem dX4_setOffset_66 : decode cX4_setOffset 66 = .ok (.iload_n 3, 1) := by decide +kernel
theorem dX4_setOffset_67 : decode cX4_setOffset 67 = .ok (.iastore, 1) := by decide +kernel
theorem dX4_setOffset_68 : decode cX4_setOffset 68 = .ok (.aload_n 0, 1) := by decide +kernel
theorem dX4_setOffset_69 : decode cX4_setOffset 69 = .ok (.getfield 9, 3) := by decide +kernel
theorem dX4_setOffset_72 : decode cX4_setOffset 72 = .ok (.iload 5, 2) := by decide +kernel
theorem dX4_setOffset_74 : decode cX4_setOffset 74 = .ok (.iconst 1, 1) := by decide +kernel
theorem dX4_setOffset_75 : decode cX4_setOffset 75 = .ok (.iadd, 1) := by decide +kernel
theorem dX4_setOffset_76 : decode cX4_setOffset 76 = .ok (.iload 4, 2) := by decide +kernel
theorem dX4_setOffset_78 : decode cX4_setOffset 78 = .ok (.iastore, 1) := by decide +kernel
theorem dX4_setOffset_79 : decode cX4_setOffset 79 = .ok (.iload 6, 2) := by decide +kernel
theorem dX4_setOffset_81 : decode cX4_setOffset 81 = .ok (.ireturn, 1) := by decide +kernel
theorem dX4_setOffsets_0 : decode cX4_setOffsets 0 = .ok (.iconst 0, 1) := by decide +kernel
theorem dX4_setOffsets_1 : decode cX4_setOffsets 1 = .ok (.istore_n 3, 1) := by decide +kernel
theorem dX4_setOffsets_2 : decode cX4_setOffsets 2 = .ok (.iconst 0, 1) := by decide +kernel
theorem dX4_setOffsets_3 : decode cX4_setOffsets 3 = .ok (.istore 4, 2) := by decide +kernel
theorem dX4_setOffsets_5 : decode cX4_setOffsets 5 = .ok (.iload 4, 2) := by decide +kernel
theorem dX4_setOffsets_7 : decode cX4_setOffsets 7 = .ok (.aload_n 0, 1) := by decide +kernel
theorem dX4_setOffsets_8 : decode cX4_setOffsets 8 = .ok (.getfield 31, 3) := by decide +kernel
theorem dX4_setOffsets_11 : decode cX4_setOffsets 11 = .ok (.if_icmp .ge 48, 3) := by decide +kernel
theorem dX4_setOffsets_14 : decode cX4_setOffsets 14 = .ok (.iconst 0, 1) := by decide +kernel
theorem dX4_setOffsets_15 : decode cX4_setOffsets 15 = .ok (.istore 5, 2) := by decide +kernel
theorem dX4_setOffsets_17 : decode cX4_setOffsets 17 = .ok (.iload 5, 2) := by decide +kernel
theorem dX4_setOffsets_19 : decode cX4_setOffsets 19 = .ok (.aload_n 0, 1) := by decide +kernel
theorem dX4_setOffsets_20 : decode cX4_setOffsets 20 = .ok (.getfield 28, 3) := by decide +kernel
theorem dX4_setOffsets_23 : decode cX4_setOffsets 23 = .ok (.if_icmp .ge 30, 3) := by decide +kernel
theorem dX4_setOffsets_26 : decode cX4_setOffsets 26 = .ok (.iload_n 3, 1) := by decide +kernel
theorem dX4_setOffsets_27 : decode cX4_setOffsets 27 = .ok (.aload_n 0, 1) := by decide +kernel
theorem dX4_setOffsets_28 : decode cX4_setOffsets 28 = .ok (.iload 5, 2) := by decide +kernel
theorem dX4_setOffsets_30 : decode cX4_setOffsets 30 = .ok (.iload 4, 2) := by decide +kernel
theorem dX4_setOffsets_32 : decode cX4_setOffsets 32 = .ok (.iload_n 1, 1) := by decide +kernel
theorem dX4_setOffsets_33 : decode cX4_setOffsets 33 = .ok (.iload_n 2, 1) := by decide +kernel
theorem dX4_setOffsets_34 : decode cX4_setOffsets 34 = .ok (.invokevirtual 51, 3) := by decide +kernel
theorem dX4_setOffsets_37 : decode cX4_setOffsets 37 = .ok (.ifCond .eq 7, 3) := by decide +kernel
theorem dX4_setOffsets_40 : decode cX4_setOffsets 40 = .ok (.iconst 1, 1) := by decide +kernel
theorem dX4_setOffsets_41 : decode cX4_setOffsets 41 = .ok (.goto 4, 3) := by decide +kernel
theorem dX4_setOffsets_44 : decode cX4_setOffsets 44 = .ok (.iconst 0, 1) := by decide +kernel
theorem dX4_setOffsets_45 : decode cX4_setOffsets 45 = .ok (.iadd, 1) := by decide +kernel
theorem dX4_setOffsets_46 : decode cX4_setOffsets 46 = .ok (.istore_n 3, 1) := by decide +kernel
theorem dX4_setOffsets_47 : decode cX4_setOffsets 47 = .ok (.iinc 5 1, 3) := by decide +kernel
theorem dX4_setOffsets_50 : decode cX4_setOffsets 50 = .ok (.goto (-33), 3) := by decide +kernel
theorem dX4_setOffsets_53 : decode cX4_setOffsets 53 = .ok (.iinc 4 1, 3) := by decide +kernel
theorem dX4_setOffsets_56 : decode cX4_setOffsets 56 = .ok (.goto (-51), 3) := by decide +kernel
theorem dX4_setOffsets_59 : decode cX4_setOffsets 59 = .ok (.iload_n 3, 1) := by decide +kernel
theorem dX4_setOffsets_60 : decode cX4_setOffsets 60 = .ok (.ireturn, 1) := by decide +kernel
theorem dX4_shiftedNodes_0 : decode cX4_shiftedNodes 0 = .ok (.iconst 0, 1) := by decide +kernel
theorem dX4_shiftedNodes_1 : decode cX4_shiftedNodes 1 = .ok (.istore_n 1, 1) := by decide +kernel
theorem dX4_shiftedNodes_2 : decode cX4_shiftedNodes 2 = .ok (.iconst 0, 1) := by decide +kernel
theorem dX4_shiftedNodes_3 : decode cX4_shiftedNodes 3 = .ok (.istore_n 2, 1) := by decide +kernel
theorem dX4_shiftedNodes_4 : decode cX4_shiftedNodes 4 = .ok (.iload_n 2, 1) := by decide +kernel
theorem dX4_shiftedNodes_5 : decode cX4_shiftedNodes 5 = .ok (.aload_n 0, 1) := by decide +kernel
theorem dX4_shiftedNodes_6 : decode cX4_shiftedNodes 6 = .ok (.getfield 31, 3) := by decide +kernel
theorem dX4_shiftedNodes_9 : decode cX4_shiftedNodes 9 = .ok (.if_icmp .ge 53, 3) := by decide +kernel
theorem dX4_shiftedNodes_12 : decode cX4_shiftedNodes 12 = .ok (.iconst 0, 1) := by decide +kernel
theorem dX4_shiftedNodes_13 : decode cX4_shiftedNodes 13 = .ok (.istore_n 3, 1) := by decide +kernel
theorem dX4_shiftedNodes_14 : decode cX4_shiftedNodes 14 = .ok (.iload_n 3, 1) := by decide +kernel
theorem dX4_shiftedNodes_15 : decode cX4_shiftedNodes 15 = .ok (.aload_n 0, 1) := by decide +kernel
theorem dX4_shiftedNodes_16 : decode cX4_shiftedNodes 16 = .ok (.getfield 28, 3) := by decide +kernel
theorem dX4_shiftedNodes_19 : decode cX4_shiftedNodes 19 = .ok (.if_icmp .ge 37, 3) := by decide +kernel
theorem dX4_shiftedNodes_22 : decode cX4_shiftedNodes 22 = .ok (.iload_n 1, 1) := by decide +kernel
theorem dX4_shiftedNodes_23 : decode cX4_shiftedNodes 23 = .ok (.aload_n 0, 1) := by decide +kernel
theorem dX4_shiftedNodes_24 : decode cX4_shiftedNodes 24 = .ok (.iload_n 3, 1) := by decide +kernel
theorem dX4_shiftedNodes_25 : decode cX4_shiftedNodes 25 = .ok (.iload_n 2, 1) := by decide +kernel
theorem dX4_shiftedNodes_26 : decode cX4_shiftedNodes 26 = .ok (.iconst 0, 1) := by decide +kernel
theorem dX4_shiftedNodes_27 : decode cX4_shiftedNodes 27 = .ok (.invokevirtual 55, 3) := by decide +kernel
theorem dX4_shiftedNodes_30 : decode cX4_shiftedNodes 30 = .ok (.ifCond .ne 13, 3) := by decide +kernel
theorem dX4_shiftedNodes_33 : decode cX4_shiftedNodes 33 = .ok (.aload_n 0, 1) := by decide +kernel
theorem dX4_shiftedNodes_34 : decode cX4_shiftedNodes 34 = .ok (.iload_n 3, 1) := by decide +kernel
theorem dX4_shiftedNodes_35 : decode cX4_shiftedNodes 35 = .ok (.iload_n 2, 1) := by decide +kernel
theorem dX4_shiftedNodes_36 : decode cX4_shiftedNodes 36 = .ok (.iconst 1, 1) := by decide +kernel
theorem dX4_shiftedNodes_37 : decode cX4_shiftedNodes 37 = .ok (.invokevirtual 55, 3) := by decide +kernel
theorem dX4_shiftedNodes_40 : decode cX4_shiftedNodes 40 = .ok (.ifCond .eq 7, 3) := by decide +kernel
theorem dX4_shiftedNodes_43 : decode cX4_shiftedNodes 43 = .ok (.iconst 1, 1) := by decide +kernel
theorem dX4_shiftedNodes_44 : decode cX4_shiftedNodes 44 = .ok (.goto 4, 3) := by decide +kernel
theorem dX4_shiftedNodes_47 : decode cX4_shiftedNodes 47 = .ok (.iconst 0, 1) := by decide +kernel
theorem dX4_shiftedNodes_48 : decode cX4_shiftedNodes 48 = .ok (.iadd, 1) := by decide +kernel
theorem dX4_shiftedNodes_49 : decode cX4_shiftedNodes 49 = .ok (.istore_n 1, 1) := by decide +kernel
theorem dX4_shiftedNodes_50 : decode cX4_shiftedNodes 50 = .ok (.iinc 3 1, 3) := by decide +kernel
theorem dX4_shiftedNodes_53 : decode cX4_shiftedNodes 53 = .ok (.goto (-39), 3) := by decide +kernel
theorem dX4_shiftedNodes_56 : decode cX4_shiftedNodes 56 = .ok (.iinc 2 1, 3) := by decide +kernel
theorem dX4_shiftedNodes_59 : decode cX4_shiftedNodes 59 = .ok (.goto (-55), 3) := by decide +kernel
theorem dX4_shiftedNodes_62 : decode cX4_shiftedNodes 62 = .ok (.iload_n 1, 1) := by decide +kernel
theorem dX4_shiftedNodes_63 : decode cX4_shiftedNodes 63 = .ok (.ireturn, 1) := by decide +kernel
theorem dX4_cellAhead_0 : decode cX4_cellAhead 0 = .ok (.iload_n 1, 1) := by decide +kernel
theorem dX4_cellAhead_1 : decode cX4_cellAhead 1 = .ok (.ifCond .le 15, 3) := by decide +kernel
theorem dX4_cellAhead_4 : decode cX4_cellAhead 4 = .ok (.iload_n 0, 1) := by decide +kernel
theorem dX4_cellAhead_5 : decode cX4_cellAhead 5 = .ok (.iload_n 1, 1) := by decide +kernel
theorem dX4_cellAhead_6 : decode cX4_cellAhead 6 = .ok (.idiv, 1) := by decide +kernel
theorem dX4_cellAhead_7 : decode cX4_cellAhead 7 = .ok (.iload_n 2, 1) := by decide +kernel
theorem dX4_cellAhead_8 : decode cX4_cellAhead 8 = .ok (.iconst 2, 1) := by decide +kernel
theorem dX4_cellAhead_9 : decode cX4_cellAhead 9 = .ok (.isub, 1) := by decide +kernel
theorem dX4_cellAhead_10 : decode cX4_cellAhead 10 = .ok (.invokestatic 59, 3) := by decide +kernel
theorem dX4_cellAhead_13 : decode cX4_cellAhead 13 = .ok (.goto 4, 3) := by decide +kernel
theorem dX4_cellAhead_16 : decode cX4_cellAhead 16 = .ok (.iconst 0, 1) := by decide +kernel
theorem dX4_cellAhead_17 : decode cX4_cellAhead 17 = .ok (.ireturn, 1) := by decide +kernel
theorem dX4_offsetBy_0 : decode cX4_offsetBy 0 = .ok (.iload_n 2, 1) := by decide +kernel
theorem dX4_offsetBy_1 : decode cX4_offsetBy 1 = .ok (.aload_n 0, 1) := by decide +kernel
theorem dX4_offsetBy_2 : decode cX4_offsetBy 2 = .ok (.iconst 0, 1) := by decide +kernel
theorem dX4_offsetBy_3 : decode cX4_offsetBy 3 = .ok (.invokevirtual 65, 3) := by decide +kernel
theorem dX4_offsetBy_6 : decode cX4_offsetBy 6 = .ok (.isub, 1) := by decide +kernel
theorem dX4_offsetBy_7 : decode cX4_offsetBy 7 = .ok (.aload_n 0, 1) := by decide +kernel
theorem dX4_offsetBy_8 : decode cX4_offsetBy 8 = .ok (.invokevirtual 69, 3) := by decide +kernel
theorem dX4_offsetBy_11 : decode cX4_offsetBy 11 = .ok (.aload_n 0, 1) := by decide +kernel
theorem dX4_offsetBy_12 : decode cX4_offsetBy 12 = .ok (.getfield 28, 3) := by decide +kernel
theorem dX4_offsetBy_15 : decode cX4_offsetBy 15 = .ok (.invokestatic 72, 3) := by decide +kernel
theorem dX4_offsetBy_18 : decode cX4_offsetBy 18 = .ok (.istore 5, 2) := by decide +kernel
theorem dX4_offsetBy_20 : decode cX4_offsetBy 20 = .ok (.iload_n 3, 1) := by decide +kernel
theorem dX4_offsetBy_21 : decode cX4_offsetBy 21 = .ok (.aload_n 0, 1) := by decide +kernel
theorem dX4_offsetBy_22 : decode cX4_offsetBy 22 = .ok (.iconst 0, 1) := by decide +kernel
theorem dX4_offsetBy_23 : decode cX4_offsetBy 23 = .ok (.invokevirtual 75, 3) := by decide +kernel
theorem dX4_offsetBy_26 : decode cX4_offsetBy 26 = .ok (.isub, 1) := by decide +kernel
theorem dX4_offsetBy_27 : decode cX4_offsetBy 27 = .ok (.aload_n 0, 1) := by decide +kernel
theorem dX4_offsetBy_28 : decode cX4_offsetBy 28 = .ok (.invokevirtual 69, 3) := by decide +kernel
theorem dX4_offsetBy_31 : decode cX4_offsetBy 31 = .ok (.aload_n 0, 1) := by decide +kernel
theorem dX4_offsetBy_32 : decode cX4_offsetBy 32 = .ok (.getfield 31, 3) := by decide +kernel
theorem dX4_offsetBy_35 : decode cX4_offsetBy 35 = .ok (.invokestatic 72, 3) := by decide +kernel
theorem dX4_offsetBy_38 : decode cX4_offsetBy 38 = .ok (.istore 6, 2) := by decide +kernel
theorem dX4_offsetBy_40 : decode cX4_offsetBy 40 = .ok (.iload_n 2, 1) := by decide +kernel
theorem dX4_offsetBy_41 : decode cX4_offsetBy 41 = .ok (.aload_n 0, 1) := by decide +kernel
theorem dX4_offsetBy_42 : decode cX4_offsetBy 42 = .ok (.iload 5, 2) := by decide +kernel
theorem dX4_offsetBy_44 : decode cX4_offsetBy 44 = .ok (.invokevirtual 65, 3) := by decide +kernel
theorem dX4_offsetBy_47 : decode cX4_offsetBy 47 = .ok (.isub, 1) := by decide +kernel
theorem dX4_offsetBy_48 : decode cX4_offsetBy 48 = .ok (.istore 7, 2) := by decide +kernel
theorem dX4_offsetBy_50 : decode cX4_offsetBy 50 = .ok (.iload_n 3, 1) := by decide +kernel
theorem dX4_offsetBy_51 : decode cX4_offsetBy 51 = .ok (.aload_n 0, 1) := by decide +kernel
theorem dX4_offsetBy_52 : decode cX4_offsetBy 52 = .ok (.iload 6, 2) := by decide +kernel
theorem dX4_offsetBy_54 : decode cX4_offsetBy 54 = .ok (.invokevirtual 75, 3) := by decide +kernel
theorem dX4_offsetBy_57 : decode cX4_offsetBy 57 = .ok (.isub, 1) := by decide +kernel
theorem dX4_offsetBy_58 : decode cX4_offsetBy 58 = .ok (.istore 8, 2) := by decide +kernel
theorem dX4_offsetBy_60 : decode cX4_offsetBy 60 = .ok (.iload_n 1, 1) := by decide +kernel
theorem dX4_offsetBy_61 : decode cX4_offsetBy 61 = .ok (.iconst 1, 1) := by decide +kernel
theorem dX4_offsetBy_62 : decode cX4_offsetBy 62 = .ok (.if_icmp .ne 50, 3) := by decide +kernel
theorem dX4_offsetBy_65 : decode cX4_offsetBy 65 = .ok (.aload_n 0, 1) := by decide +kernel
theorem dX4_offsetBy_66 : decode cX4_offsetBy 66 = .ok (.iconst 2, 1) := by decide +kernel
theorem dX4_offsetBy_67 : decode cX4_offsetBy 67 = .ok (.iload 7, 2) := by decide +kernel
theorem dX4_offsetBy_69 : decode cX4_offsetBy 69 = .ok (.imul, 1) := by decide +kernel
theorem dX4_offsetBy_70 : decode cX4_offsetBy 70 = .ok (.aload_n 0, 1) := by decide +kernel
theorem dX4_offsetBy_71 : decode cX4_offsetBy 71 = .ok (.invokevirtual 69, 3) := by decide +kernel
theorem dX4_offsetBy_74 : decode cX4_offsetBy 74 = .ok (.if_icmp .ge 8, 3) := by decide +kernel
theorem dX4_offsetBy_77 : decode cX4_offsetBy 77 = .ok (.iload 5, 2) := by decide +kernel
theorem dX4_offsetBy_79 : decode cX4_offsetBy 79 = .ok (.goto 7, 3) := by decide +kernel
theorem dX4_offsetBy_82 : decode cX4_offsetBy 82 = .ok (.iload 5, 2) := by decide +kernel
theorem dX4_offsetBy_84 : decode cX4_offsetBy 84 = .ok (.iconst 1, 1) := by decide +kernel
theorem dX4_offsetBy_85 : decode cX4_offsetBy 85 = .ok (.iadd, 1) := by decide +kernel
theorem dX4_offsetBy_86 : decode cX4_offsetBy 86 = .ok (.iconst 2, 1) := by decide +kernel
theorem dX4_offsetBy_87 : decode cX4_offsetBy 87 = .ok (.iload 8, 2) := by decide +kernel
theorem dX4_offsetBy_89 : decode cX4_offsetBy 89 = .ok (.imul, 1) := by decide +kernel
theorem dX4_offsetBy_90 : decode cX4_offsetBy 90 = .ok (.aload_n 0, 1) := by decide +kernel
theorem dX4_offsetBy_91 : decode cX4_offsetBy 91 = .ok (.invokevirtual 69, 3) := by decide +kernel
theorem dX4_offsetBy_94 : decode cX4_offsetBy 94 = .ok (.if_icmp .ge 8, 3) := by decide +kernel
theorem dX4_offsetBy_97 : decode cX4_offsetBy 97 = .ok (.iload 6, 2) := by decide +kernel
theorem dX4_offsetBy_99 : decode cX4_offsetBy 99 = .ok (.goto 7, 3) := by decide +kernel
theorem dX4_offsetBy_102 : decode cX4_offsetBy 102 = .ok (.iload 6, 2) := by decide +kernel
theorem dX4_offsetBy_104 : decode cX4_offsetBy 104 = .ok (.iconst 1, 1) := by decide +kernel
theorem dX4_offsetBy_105 : decode cX4_offsetBy 105 = .ok (.iadd, 1) := by decide +kernel
theorem dX4_offsetBy_106 : decode cX4_offsetBy 106 = .ok (.iload 4, 2) := by decide +kernel
theorem dX4_offsetBy_108 : decode cX4_offsetBy 108 = .ok (.invokevirtual 55, 3) := by decide +kernel
theorem dX4_offsetBy_111 : decode cX4_offsetBy 111 = .ok (.ireturn, 1) := by decide +kernel
theorem dX4_offsetBy_112 : decode cX4_offsetBy 112 = .ok (.aload_n 0, 1) := by decide +kernel
theorem dX4_offsetBy_113 : decode cX4_offsetBy 113 = .ok (.invokevirtual 69, 3) := by decide +kernel
theorem dX4_offsetBy_116 : decode cX4_offsetBy 116 = .ok (.i2l, 1) := by decide +kernel
theorem dX4_offsetBy_117 : decode cX4_offsetBy 117 = .ok (.lstore 9, 2) := by decide +kernel
theorem dX4_offsetBy_119 : decode cX4_offsetBy 119 = .ok (.aload_n 0, 1) := by decide +kernel
theorem dX4_offsetBy_120 : decode cX4_offsetBy 120 = .ok (.iload 5, 2) := by decide +kernel
theorem dX4_offsetBy_122 : decode cX4_offsetBy 122 = .ok (.iload 6, 2) := by decide +kernel
theorem dX4_offsetBy_124 : decode cX4_offsetBy 124 = .ok (.iload 4, 2) := by decide +kernel
theorem dX4_offsetBy_126 : decode cX4_offsetBy 126 = .ok (.invokevirtual 55, 3) := by decide +kernel
theorem dX4_offsetBy_129 : decode cX4_offsetBy 129 = .ok (.i2l, 1) := by decide +kernel
theorem dX4_offsetBy_130 : decode cX4_offsetBy 130 = .ok (.lstore 11, 2) := by decide +kernel
theorem dX4_offsetBy_132 : decode cX4_offsetBy 132 = .ok (.aload_n 0, 1) := by decide +kernel
theorem dX4_offsetBy_133 : decode cX4_offsetBy 133 = .ok (.iload 5, 2) := by decide +kernel
theorem dX4_offsetBy_135 : decode cX4_offsetBy 135 = .ok (.iconst 1, 1) := by decide +kernel
theorem dX4_offsetBy_136 : decode cX4_offsetBy 136 = .ok (.iadd, 1) := by decide +kernel
theorem dX4_offsetBy_137 : decode cX4_offsetBy 137 = .ok (.iload 6, 2) := by decide +kernel
theorem dX4_offsetBy_139 : decode cX4_offsetBy 139 = .ok (.iload 4, 2) := by decide +kernel
theorem dX4_offsetBy_141 : decode cX4_offsetBy 141 = .ok (.invokevirtual 55, 3) := by decide +kernel
theorem dX4_offsetBy_144 : decode cX4_offsetBy 144 = .ok (.i2l, 1) := by decide +kernel
theorem dX4_offsetBy_145 : decode cX4_offsetBy 145 = .ok (.lstore 13, 2) := by decide +kernel
theorem dX4_offsetBy_147 : decode cX4_offsetBy 147 = .ok (.aload_n 0, 1) := by decide +kernel
theorem dX4_offsetBy_148 : decode cX4_offsetBy 148 = .ok (.iload 5, 2) := by decide +kernel
theorem dX4_offsetBy_150 : decode cX4_offsetBy 150 = .ok (.iload 6, 2) := by decide +kernel
theorem dX4_offsetBy_152 : decode cX4_offsetBy 152 = .ok (.iconst 1, 1) := by decide +kernel
theorem dX4_offsetBy_153 : decode cX4_offsetBy 153 = .ok (.iadd, 1) := by decide +kernel
theorem dX4_offsetBy_154 : decode cX4_offsetBy 154 = .ok (.iload 4, 2) := by decide +kernel
theorem dX4_offsetBy_156 : decode cX4_offsetBy 156 = .ok (.invokevirtual 55, 3) := by decide +kernel
theorem dX4_offsetBy_159 : decode cX4_offsetBy 159 = .ok (.i2l, 1) := by decide +kernel
theorem dX4_offsetBy_160 : decode cX4_offsetBy 160 = .ok (.lstore 15, 2) := by decide +kernel
theorem dX4_offsetBy_162 : decode cX4_offsetBy 162 = .ok (.aload_n 0, 1) := by decide +kernel
theorem dX4_offsetBy_163 : decode cX4_offsetBy 163 = .ok (.iload 5, 2) := by decide +kernel
theorem dX4_offsetBy_165 : decode cX4_offsetBy 165 = .ok (.iconst 1, 1) := by decide +kernel
theorem dX4_offsetBy_166 : decode cX4_offsetBy 166 = .ok (.iadd, 1) := by decide +kernel
theorem dX4_offsetBy_167 : decode cX4_offsetBy 167 = .ok (.iload 6, 2) := by decide +kernel
theorem dX4_offsetBy_169 : decode cX4_offsetBy 169 = .ok (.iconst 1, 1) := by decide +kernel
theorem dX4_offsetBy_170 : decode cX4_offsetBy 170 = .ok (.iadd, 1) := by decide +kernel
theorem dX4_offsetBy_171 : decode cX4_offsetBy 171 = .ok (.iload 4, 2) := by decide +kernel
theorem dX4_offsetBy_173 : decode cX4_offsetBy 173 = .ok (.invokevirtual 55, 3) := by decide +kernel
theorem dX4_offsetBy_176 : decode cX4_offsetBy 176 = .ok (.i2l, 1) := by decide +kernel
theorem dX4_offsetBy_177 : decode cX4_offsetBy 177 = .ok (.lstore 17, 2) := by decide +kernel
theorem dX4_offsetBy_179 : decode cX4_offsetBy 179 = .ok (.iload_n 1, 1) := by decide +kernel
theorem dX4_offsetBy_180 : decode cX4_offsetBy 180 = .ok (.ifCond .ne 67, 3) := by decide +kernel
theorem dX4_offsetBy_183 : decode cX4_offsetBy 183 = .ok (.lload 11, 2) := by decide +kernel
theorem dX4_offsetBy_185 : decode cX4_offsetBy 185 = .ok (.lload 9, 2) := by decide +kernel
theorem dX4_offsetBy_187 : decode cX4_offsetBy 187 = .ok (.iload 7, 2) := by decide +kernel
theorem dX4_offsetBy_189 : decode cX4_offsetBy 189 = .ok (.i2l, 1) := by decide +kernel
theorem dX4_offsetBy_190 : decode cX4_offsetBy 190 = .ok (.lsub, 1) := by decide +kernel
theorem dX4_offsetBy_191 : decode cX4_offsetBy 191 = .ok (.lmul, 1) := by decide +kernel
theorem dX4_offsetBy_192 : decode cX4_offsetBy 192 = .ok (.lload 9, 2) := by decide +kernel
theorem dX4_offsetBy_194 : decode cX4_offsetBy 194 = .ok (.iload 8, 2) := by decide +kernel
theorem dX4_offsetBy_196 : decode cX4_offsetBy 196 = .ok (.i2l, 1) := by decide +kernel
theorem dX4_offsetBy_197 : decode cX4_offsetBy 197 = .ok (.lsub, 1) := by decide +kernel
theorem dX4_offsetBy_198 : decode cX4_offsetBy 198 = .ok (.lmul, 1) := by decide +kernel
theorem dX4_offsetBy_199 : decode cX4_offsetBy 199 = .ok (.lload 13, 2) := by decide +kernel
theorem dX4_offsetBy_201 : decode cX4_offsetBy 201 = .ok (.iload 7, 2) := by decide +kernel
theorem dX4_offsetBy_203 : decode cX4_offsetBy 203 = .ok (.i2l, 1) := by decide +kernel
theorem dX4_offsetBy_204 : decode cX4_offsetBy 204 = .ok (.lmul, 1) := by decide +kernel
theorem dX4_offsetBy_205 : decode cX4_offsetBy 205 = .ok (.lload 9, 2) := by decide +kernel
theorem dX4_offsetBy_207 : decode cX4_offsetBy 207 = .ok (.iload 8, 2) := by decide +kernel
theorem dX4_offsetBy_209 : decode cX4_offsetBy 209 = .ok (.i2l, 1) := by decide +kernel
theorem dX4_offsetBy_210 : decode cX4_offsetBy 210 = .ok (.lsub, 1) := by decide +kernel
theorem dX4_offsetBy_211 : decode cX4_offsetBy 211 = .ok (.lmul, 1) := by decide +kernel
theorem dX4_offsetBy_212 : decode cX4_offsetBy 212 = .ok (.ladd, 1) := by decide +kernel
theorem dX4_offsetBy_213 : decode cX4_offsetBy 213 = .ok (.lload 15, 2) := by decide +kernel
theorem dX4_offsetBy_215 : decode cX4_offsetBy 215 = .ok (.lload 9, 2) := by decide +kernel
theorem dX4_offsetBy_217 : decode cX4_offsetBy 217 = .ok (.iload 7, 2) := by decide +kernel
theorem dX4_offsetBy_219 : decode cX4_offsetBy 219 = .ok (.i2l, 1) := by decide +kernel
theorem dX4_offsetBy_220 : decode cX4_offsetBy 220 = .ok (.lsub, 1) := by decide +kernel
theorem dX4_offsetBy_221 : decode cX4_offsetBy 221 = .ok (.lmul, 1) := by decide +kernel
theorem dX4_offsetBy_222 : decode cX4_offsetBy 222 = .ok (.iload 8, 2) := by decide +kernel
theorem dX4_offsetBy_224 : decode cX4_offsetBy 224 = .ok (.i2l, 1) := by decide +kernel
theorem dX4_offsetBy_225 : decode cX4_offsetBy 225 = .ok (.lmul, 1) := by decide +kernel
theorem dX4_offsetBy_226 : decode cX4_offsetBy 226 = .ok (.ladd, 1) := by decide +kernel
theorem dX4_offsetBy_227 : decode cX4_offsetBy 227 = .ok (.lload 17, 2) := by decide +kernel
theorem dX4_offsetBy_229 : decode cX4_offsetBy 229 = .ok (.iload 7, 2) := by decide +kernel
theorem dX4_offsetBy_231 : decode cX4_offsetBy 231 = .ok (.i2l, 1) := by decide +kernel
theorem dX4_offsetBy_232 : decode cX4_offsetBy 232 = .ok (.lmul, 1) := by decide +kernel
theorem dX4_offsetBy_233 : decode cX4_offsetBy 233 = .ok (.iload 8, 2) := by decide +kernel
theorem dX4_offsetBy_235 : decode cX4_offsetBy 235 = .ok (.i2l, 1) := by decide +kernel
theorem dX4_offsetBy_236 : decode cX4_offsetBy 236 = .ok (.lmul, 1) := by decide +kernel
theorem dX4_offsetBy_237 : decode cX4_offsetBy 237 = .ok (.ladd, 1) := by decide +kernel
theorem dX4_offsetBy_238 : decode cX4_offsetBy 238 = .ok (.lload 9, 2) := by decide +kernel
theorem dX4_offsetBy_240 : decode cX4_offsetBy 240 = .ok (.lload 9, 2) := by decide +kernel
theorem dX4_offsetBy_242 : decode cX4_offsetBy 242 = .ok (.lmul, 1) := by decide +kernel
theorem dX4_offsetBy_243 : decode cX4_offsetBy 243 = .ok (.invokestatic 78, 3) := by decide +kernel
theorem dX4_offsetBy_246 : decode cX4_offsetBy 246 = .ok (.ireturn, 1) := by decide +kernel
theorem dX4_offsetBy_247 : decode cX4_offsetBy 247 = .ok (.iload 7, 2) := by decide +kernel
theorem dX4_offsetBy_249 : decode cX4_offsetBy 249 = .ok (.iload 8, 2) := by decide +kernel
theorem dX4_offsetBy_251 : decode cX4_offsetBy 251 = .ok (.if_icmp .lt 34, 3) := by decide +kernel
theorem dX4_offsetBy_254 : decode cX4_offsetBy 254 = .ok (.lload 11, 2) := by decide +kernel
theorem dX4_offsetBy_256 : decode cX4_offsetBy 256 = .ok (.lload 9, 2) := by decide +kernel
theorem dX4_offsetBy_258 : decode cX4_offsetBy 258 = .ok (.lmul, 1) := by decide +kernel
theorem dX4_offsetBy_259 : decode cX4_offsetBy 259 = .ok (.lload 13, 2) := by decide +kernel
theorem dX4_offsetBy_261 : decode cX4_offsetBy 261 = .ok (.lload 11, 2) := by decide +kernel
theorem dX4_offsetBy_263 : decode cX4_offsetBy 263 = .ok (.lsub, 1) := by decide +kernel
theorem dX4_offsetBy_264 : decode cX4_offsetBy 264 = .ok (.iload 7, 2) := by decide +kernel
theorem dX4_offsetBy_266 : decode cX4_offsetBy 266 = .ok (.i2l, 1) := by decide +kernel
theorem dX4_offsetBy_267 : decode cX4_offsetBy 267 = .ok (.lmul, 1) := by decide +kernel
theorem dX4_offsetBy_268 : decode cX4_offsetBy 268 = .ok (.ladd, 1) := by decide +kernel
theorem dX4_offsetBy_269 : decode cX4_offsetBy 269 = .ok (.lload 17, 2) := by decide +kernel
theorem dX4_offsetBy_271 : decode cX4_offsetBy 271 = .ok (.lload 13, 2) := by decide +kernel
theorem dX4_offsetBy_273 : decode cX4_offsetBy 273 = .ok (.lsub, 1) := by decide +kernel
theorem dX4_offsetBy_274 : decode cX4_offsetBy 274 = .ok (.iload 8, 2) := by decide +kernel
theorem dX4_offsetBy_276 : decode cX4_offsetBy 276 = .ok (.i2l, 1) := by decide +kernel
theorem dX4_offsetBy_277 : decode cX4_offsetBy 277 = .ok (.lmul, 1) := by decide +kernel
theorem dX4_offsetBy_278 : decode cX4_offsetBy 278 = .ok (.ladd, 1) := by decide +kernel
theorem dX4_offsetBy_279 : decode cX4_offsetBy 279 = .ok (.lload 9, 2) := by decide +kernel
theorem dX4_offsetBy_281 : decode cX4_offsetBy 281 = .ok (.invokestatic 78, 3) := by decide +kernel
theorem dX4_offsetBy_284 : decode cX4_offsetBy 284 = .ok (.ireturn, 1) := by decide +kernel
theorem dX4_offsetBy_285 : decode cX4_offsetBy 285 = .ok (.lload 11, 2) := by decide +kernel
theorem dX4_offsetBy_287 : decode cX4_offsetBy 287 = .ok (.lload 9, 2) := by decide +kernel
theorem dX4_offsetBy_289 : decode cX4_offsetBy 289 = .ok (.lmul, 1) := by decide +kernel
theorem dX4_offsetBy_290 : decode cX4_offsetBy 290 = .ok (.lload 17, 2) := by decide +kernel
theorem dX4_offsetBy_292 : decode cX4_offsetBy 292 = .ok (.lload 15, 2) := by decide +kernel
theorem dX4_offsetBy_294 : decode cX4_offsetBy 294 = .ok (.lsub, 1) := by decide +kernel
theorem dX4_offsetBy_295 : decode cX4_offsetBy 295 = .ok (.iload 7, 2) := by decide +kernel
theorem dX4_offsetBy_297 : decode cX4_offsetBy 297 = .ok (.i2l, 1) := by decide +kernel
theorem dX4_offsetBy_298 : decode cX4_offsetBy 298 = .ok (.lmul, 1) := by decide +kernel
theorem dX4_offsetBy_299 : decode cX4_offsetBy 299 = .ok (.ladd, 1) := by decide +kernel
theorem dX4_offsetBy_300 : decode cX4_offsetBy 300 = .ok (.lload 15, 2) := by decide +kernel
theorem dX4_offsetBy_302 : decode cX4_offsetBy 302 = .ok (.lload 11, 2) := by decide +kernel
theorem dX4_offsetBy_304 : decode cX4_offsetBy 304 = .ok (.lsub, 1) := by decide +kernel
theorem dX4_offsetBy_305 : decode cX4_offsetBy 305 = .ok (.iload 8, 2) := by decide +kernel
theorem dX4_offsetBy_307 : decode cX4_offsetBy 307 = .ok (.i2l, 1) := by decide +kernel
theorem dX4_offsetBy_308 : decode cX4_offsetBy 308 = .ok (.lmul, 1) := by decide +kernel
theorem dX4_offsetBy_309 : decode cX4_offsetBy 309 = .ok (.ladd, 1) := by decide +kernel
theorem dX4_offsetBy_310 : decode cX4_offsetBy 310 = .ok (.lload 9, 2) := by decide +kernel
theorem dX4_offsetBy_312 : decode cX4_offsetBy 312 = .ok (.invokestatic 78, 3) := by decide +kernel
theorem dX4_offsetBy_315 : decode cX4_offsetBy 315 = .ok (.ireturn, 1) := by decide +kernel
theorem dX4_rounded_0 : decode cX4_rounded 0 = .ok (.lload_n 2, 1) := by decide +kernel
theorem dX4_rounded_1 : decode cX4_rounded 1 = .ok (.lconst 0, 1) := by decide +kernel
theorem dX4_rounded_2 : decode cX4_rounded 2 = .ok (.lcmp, 1) := by decide +kernel
theorem dX4_rounded_3 : decode cX4_rounded 3 = .ok (.ifCond .le 22, 3) := by decide +kernel
theorem dX4_rounded_6 : decode cX4_rounded 6 = .ok (.ldc2_w 82, 3) := by decide +kernel
theorem dX4_rounded_9 : decode cX4_rounded 9 = .ok (.lload_n 0, 1) := by decide +kernel
theorem dX4_rounded_10 : decode cX4_rounded 10 = .ok (.lmul, 1) := by decide +kernel
theorem dX4_rounded_11 : decode cX4_rounded 11 = .ok (.lload_n 2, 1) := by decide +kernel
theorem dX4_rounded_12 : decode cX4_rounded 12 = .ok (.ladd, 1) := by decide +kernel
theorem dX4_rounded_13 : decode cX4_rounded 13 = .ok (.ldc2_w 82, 3) := by decide +kernel
theorem dX4_rounded_16 : decode cX4_rounded 16 = .ok (.lload_n 2, 1) := by decide +kernel
theorem dX4_rounded_17 : decode cX4_rounded 17 = .ok (.lmul, 1) := by decide +kernel
theorem dX4_rounded_18 : decode cX4_rounded 18 = .ok (.invokestatic 84, 3) := by decide +kernel
theorem dX4_rounded_21 : decode cX4_rounded 21 = .ok (.l2i, 1) := by decide +kernel
theorem dX4_rounded_22 : decode cX4_rounded 22 = .ok (.goto 4, 3) := by decide +kernel
theorem dX4_rounded_25 : decode cX4_rounded 25 = .ok (.iconst 0, 1) := by decide +kernel
theorem dX4_rounded_26 : decode cX4_rounded 26 = .ok (.ireturn, 1) := by decide +kernel
theorem dX5_init_0 : decode cX5_init 0 = .ok (.aload_n 0, 1) := by decide +kernel
theorem dX5_init_1 : decode cX5_init 1 = .ok (.invokespecial 3, 3) := by decide +kernel
theorem dX5_init_4 : decode cX5_init 4 = .ok (.aload_n 0, 1) := by decide +kernel
theorem dX5_init_5 : decode cX5_init 5 = .ok (.bipush 16, 2) := by decide +kernel
theorem dX5_init_7 : decode cX5_init 7 = .ok (.anewarray 9, 3) := by decide +kernel
theorem dX5_init_10 : decode cX5_init 10 = .ok (.putfield 11, 3) := by decide +kernel
theorem dX5_init_13 : decode cX5_init 13 = .ok (.iconst 0, 1) := by decide +kernel
theorem dX5_init_14 : decode cX5_init 14 = .ok (.istore_n 1, 1) := by decide +kernel
theorem dX5_init_15 : decode cX5_init 15 = .ok (.iload_n 1, 1) := by decide +kernel
theorem dX5_init_16 : decode cX5_init 16 = .ok (.bipush 16, 2) := by decide +kernel
theorem dX5_init_18 : decode cX5_init 18 = .ok (.if_icmp .ge 22, 3) := by decide +kernel
theorem dX5_init_21 : decode cX5_init 21 = .ok (.aload_n 0, 1) := by decide +kernel
theorem dX5_init_22 : decode cX5_init 22 = .ok (.getfield 11, 3) := by decide +kernel
theorem dX5_init_25 : decode cX5_init 25 = .ok (.iload_n 1, 1) := by decide +kernel
theorem dX5_init_26 : decode cX5_init 26 = .ok (.new 9, 3) := by decide +kernel
theorem dX5_init_29 : decode cX5_init 29 = .ok (.dup, 1) := by decide +kernel
theorem dX5_init_30 : decode cX5_init 30 = .ok (.invokespecial 17, 3) := by decide +kernel
theorem dX5_init_33 : decode cX5_init 33 = .ok (.aastore, 1) := by decide +kernel
theorem dX5_init_34 : decode cX5_init 34 = .ok (.iinc 1 1, 3) := by decide +kernel
theorem dX5_init_37 : decode cX5_init 37 = .ok (.goto (-22), 3) := by decide +kernel
theorem dX5_init_40 : decode cX5_init 40 = .ok (.return_, 1) := by decide +kernel
theorem dX5_size_0 : decode cX5_size 0 = .ok (.aload_n 0, 1) := by decide +kernel
theorem dX5_size_1 : decode cX5_size 1 = .ok (.getfield 18, 3) := by decide +kernel
theorem dX5_size_4 : decode cX5_size 4 = .ok (.ireturn, 1) := by decide +kernel
theorem dX5_clear_0 : decode cX5_clear 0 = .ok (.aload_n 0, 1) := by decide +kernel
theorem dX5_clear_1 : decode cX5_clear 1 = .ok (.iconst 0, 1) := by decide +kernel
theorem dX5_clear_2 : decode cX5_clear 2 = .ok (.putfield 18, 3) := by decide +kernel
theorem dX5_clear_5 : decode cX5_clear 5 = .ok (.return_, 1) := by decide +kernel
theorem dX5_push_0 : decode cX5_push 0 = .ok (.aload_n 0, 1) := by decide +kernel
theorem dX5_push_1 : decode cX5_push 1 = .ok (.getfield 11, 3) := by decide +kernel
theorem dX5_push_4 : decode cX5_push 4 = .ok (.aload_n 0, 1) := by decide +kernel
theorem dX5_push_5 : decode cX5_push 5 = .ok (.getfield 22, 3) := by decide +kernel
theorem dX5_push_8 : decode cX5_push 8 = .ok (.bipush 16, 2) := by decide +kernel
theorem dX5_push_10 : decode cX5_push 10 = .ok (.invokestatic 25, 3) := by decide +kernel
theorem dX5_push_13 : decode cX5_push 13 = .ok (.aaload, 1) := by decide +kernel
theorem dX5_push_14 : decode cX5_push 14 = .ok (.astore_n 2, 1) := by decide +kernel
theorem dX5_push_15 : decode cX5_push 15 = .ok (.aload_n 2, 1) := by decide +kernel
theorem dX5_push_16 : decode cX5_push 16 = .ok (.ifnonnull 4, 3) := by decide +kernel
theorem dX5_push_19 : decode cX5_push 19 = .ok (.return_, 1) := by decide +kernel
theorem dX5_push_20 : decode cX5_push 20 = .ok (.aload_n 2, 1) := by decide +kernel
theorem dX5_push_21 : decode cX5_push 21 = .ok (.aload_n 1, 1) := by decide +kernel
theorem dX5_push_22 : decode cX5_push 22 = .ok (.invokevirtual 31, 3) := by decide +kernel
theorem dX5_push_25 : decode cX5_push 25 = .ok (.aload_n 0, 1) := by decide +kernel
theorem dX5_push_26 : decode cX5_push 26 = .ok (.aload_n 0, 1) := by decide +kernel
theorem dX5_push_27 : decode cX5_push 27 = .ok (.getfield 22, 3) := by decide +kernel
theorem dX5_push_30 : decode cX5_push 30 = .ok (.iconst 1, 1) := by decide +kernel
theorem dX5_push_31 : decode cX5_push 31 = .ok (.iadd, 1) := by decide +kernel
theorem dX5_push_32 : decode cX5_push 32 = .ok (.bipush 16, 2) := by decide +kernel
theorem dX5_push_34 : decode cX5_push 34 = .ok (.invokestatic 25, 3) := by decide +kernel
theorem dX5_push_37 : decode cX5_push 37 = .ok (.putfield 22, 3) := by decide +kernel
theorem dX5_push_40 : decode cX5_push 40 = .ok (.aload_n 0, 1) := by decide +kernel
theorem dX5_push_41 : decode cX5_push 41 = .ok (.aload_n 0, 1) := by decide +kernel
theorem dX5_push_42 : decode cX5_push 42 = .ok (.getfield 18, 3) := by decide +kernel
theorem dX5_push_45 : decode cX5_push 45 = .ok (.iconst 1, 1) := by decide +kernel
theorem dX5_push_46 : decode cX5_push 46 = .ok (.iadd, 1) := by decide +kernel
theorem dX5_push_47 : decode cX5_push 47 = .ok (.bipush 16, 2) := by decide +kernel
theorem dX5_push_49 : decode cX5_push 49 = .ok (.invokestatic 35, 3) := by decide +kernel
theorem dX5_push_52 : decode cX5_push 52 = .ok (.putfield 18, 3) := by decide +kernel
theorem dX5_push_55 : decode cX5_push 55 = .ok (.return_, 1) := by decide +kernel
theorem dX5_takeBack_0 : decode cX5_takeBack 0 = .ok (.aload_n 1, 1) := by decide +kernel
theorem dX5_takeBack_1 : decode cX5_takeBack 1 = .ok (.ifnonnull 4, 3) := by decide +kernel
theorem dX5_takeBack_4 : decode cX5_takeBack 4 = .ok (.return_, 1) := by decide +kernel
theorem dX5_takeBack_5 : decode cX5_takeBack 5 = .ok (.aload_n 0, 1) := by decide +kernel
theorem dX5_takeBack_6 : decode cX5_takeBack 6 = .ok (.aload_n 0, 1) := by decide +kernel
theorem dX5_takeBack_7 : decode cX5_takeBack 7 = .ok (.getfield 22, 3) := by decide +kernel
theorem dX5_takeBack_10 : decode cX5_takeBack 10 = .ok (.iload_n 2, 1) := by decide +kernel
theorem dX5_takeBack_11 : decode cX5_takeBack 11 = .ok (.isub, 1) := by decide +kernel
theorem dX5_takeBack_12 : decode cX5_takeBack 12 = .ok (.bipush 16, 2) := by decide +kernel
theorem dX5_takeBack_14 : decode cX5_takeBack 14 = .ok (.invokestatic 25, 3) := by decide +kernel
theorem dX5_takeBack_17 : decode cX5_takeBack 17 = .ok (.putfield 22, 3) := by decide +kernel
theorem dX5_takeBack_20 : decode cX5_takeBack 20 = .ok (.aload_n 0, 1) := by decide +kernel
theorem dX5_takeBack_21 : decode cX5_takeBack 21 = .ok (.aload_n 0, 1) := by decide +kernel
theorem dX5_takeBack_22 : decode cX5_takeBack 22 = .ok (.getfield 18, 3) := by decide +kernel
theorem dX5_takeBack_25 : decode cX5_takeBack 25 = .ok (.iload_n 2, 1) := by decide +kernel
theorem dX5_takeBack_26 : decode cX5_takeBack 26 = .ok (.isub, 1) := by decide +kernel
theorem dX5_takeBack_27 : decode cX5_takeBack 27 = .ok (.iconst 0, 1) := by decide +kernel
theorem dX5_takeBack_28 : decode cX5_takeBack 28 = .ok (.invokestatic 38, 3) := by decide +kernel
theorem dX5_takeBack_31 : decode cX5_takeBack 31 = .ok (.putfield 18, 3) := by decide +kernel
theorem dX5_takeBack_34 : decode cX5_takeBack 34 = .ok (.aload_n 1, 1) := by decide +kernel
theorem dX5_takeBack_35 : decode cX5_takeBack 35 = .ok (.aload_n 0, 1) := by decide +kernel
theorem dX5_takeBack_36 : decode cX5_takeBack 36 = .ok (.getfield 11, 3) := by decide +kernel
theorem dX5_takeBack_39 : decode cX5_takeBack 39 = .ok (.aload_n 0, 1) := by decide +kernel
theorem dX5_takeBack_40 : decode cX5_takeBack 40 = .ok (.getfield 22, 3) := by decide +kernel
theorem dX5_takeBack_43 : decode cX5_takeBack 43 = .ok (.aaload, 1) := by decide +kernel
theorem dX5_takeBack_44 : decode cX5_takeBack 44 = .ok (.invokevirtual 31, 3) := by decide +kernel
theorem dX5_takeBack_47 : decode cX5_takeBack 47 = .ok (.return_, 1) := by decide +kernel
theorem dX6_init_0 : decode cX6_init 0 = .ok (.aload_n 0, 1) := by decide +kernel
theorem dX6_init_1 : decode cX6_init 1 = .ok (.invokespecial 1, 3) := by decide +kernel
theorem dX6_init_4 : decode cX6_init 4 = .ok (.aload_n 0, 1) := by decide +kernel
theorem dX6_init_5 : decode cX6_init 5 = .ok (.new 7, 3) := by decide +kernel
theorem dX6_init_8 : decode cX6_init 8 = .ok (.dup, 1) := by decide +kernel
theorem dX6_init_9 : decode cX6_init 9 = .ok (.invokespecial 9, 3) := by decide +kernel
theorem dX6_init_12 : decode cX6_init 12 = .ok (.putfield 10, 3) := by decide +kernel
theorem dX6_init_15 : decode cX6_init 15 = .ok (.return_, 1) := by decide +kernel
theorem dX6_wasTaken_0 : decode cX6_wasTaken 0 = .ok (.aload_n 0, 1) := by decide +kernel
theorem dX6_wasTaken_1 : decode cX6_wasTaken 1 = .ok (.getfield 16, 3) := by decide +kernel
theorem dX6_wasTaken_4 : decode cX6_wasTaken 4 = .ok (.ireturn, 1) := by decide +kernel
theorem dX6_take_0 : decode cX6_take 0 = .ok (.aload_n 2, 1) := by decide +kernel
theorem dX6_take_1 : decode cX6_take 1 = .ok (.ifnonnull 4, 3) := by decide +kernel
theorem dX6_take_4 : decode cX6_take 4 = .ok (.return_, 1) := by decide +kernel
theorem dX6_take_5 : decode cX6_take 5 = .ok (.aload_n 0, 1) := by decide +kernel
theorem dX6_take_6 : decode cX6_take 6 = .ok (.getfield 10, 3) := by decide +kernel
theorem dX6_take_9 : decode cX6_take 9 = .ok (.aload_n 1, 1) := by decide +kernel
theorem dX6_take_10 : decode cX6_take 10 = .ok (.invokevirtual 20, 3) := by decide +kernel
theorem dX6_take_13 : decode cX6_take 13 = .ok (.aload_n 0, 1) := by decide +kernel
theorem dX6_take_14 : decode cX6_take 14 = .ok (.aload_n 2, 1) := by decide +kernel
theorem dX6_take_15 : decode cX6_take 15 = .ok (.invokevirtual 24, 3) := by decide +kernel
theorem dX6_take_18 : decode cX6_take 18 = .ok (.putfield 30, 3) := by decide +kernel
theorem dX6_take_21 : decode cX6_take 21 = .ok (.aload_n 0, 1) := by decide +kernel
theorem dX6_take_22 : decode cX6_take 22 = .ok (.iconst 1, 1) := by decide +kernel
theorem dX6_take_23 : decode cX6_take 23 = .ok (.putfield 16, 3) := by decide +kernel
theorem dX6_take_26 : decode cX6_take 26 = .ok (.return_, 1) := by decide +kernel
theorem dX6_give_0 : decode cX6_give 0 = .ok (.aload_n 1, 1) := by decide +kernel
theorem dX6_give_1 : decode cX6_give 1 = .ok (.ifnull 7, 3) := by decide +kernel
theorem dX6_give_4 : decode cX6_give 4 = .ok (.aload_n 2, 1) := by decide +kernel
theorem dX6_give_5 : decode cX6_give 5 = .ok (.ifnonnull 4, 3) := by decide +kernel
theorem dX6_give_8 : decode cX6_give 8 = .ok (.return_, 1) := by decide +kernel
theorem dX6_give_9 : decode cX6_give 9 = .ok (.aload_n 1, 1) := by decide +kernel
theorem dX6_give_10 : decode cX6_give 10 = .ok (.aload_n 0, 1) := by decide +kernel
theorem dX6_give_11 : decode cX6_give 11 = .ok (.getfield 10, 3) := by decide +kernel
theorem dX6_give_14 : decode cX6_give 14 = .ok (.invokevirtual 20, 3) := by decide +kernel
theorem dX6_give_17 : decode cX6_give 17 = .ok (.aload_n 2, 1) := by decide +kernel
theorem dX6_give_18 : decode cX6_give 18 = .ok (.aload_n 0, 1) := by decide +kernel
theorem dX6_give_19 : decode cX6_give 19 = .ok (.getfield 30, 3) := by decide +kernel
theorem dX6_give_22 : decode cX6_give 22 = .ok (.invokevirtual 34, 3) := by decide +kernel
theorem dX6_give_25 : decode cX6_give 25 = .ok (.return_, 1) := by decide +kernel
theorem dX7_init_0 : decode cX7_init 0 = .ok (.aload_n 0, 1) := by decide +kernel
theorem dX7_init_1 : decode cX7_init 1 = .ok (.invokespecial 3, 3) := by decide +kernel
theorem dX7_init_4 : decode cX7_init 4 = .ok (.aload_n 0, 1) := by decide +kernel
theorem dX7_init_5 : decode cX7_init 5 = .ok (.bipush 61, 2) := by decide +kernel
theorem dX7_init_7 : decode cX7_init 7 = .ok (.newarray .int, 2) := by decide +kernel
theorem dX7_init_9 : decode cX7_init 9 = .ok (.putfield 9, 3) := by decide +kernel
theorem dX7_init_12 : decode cX7_init 12 = .ok (.aload_n 0, 1) := by decide +kernel
theorem dX7_init_13 : decode cX7_init 13 = .ok (.bipush 61, 2) := by decide +kernel
theorem dX7_init_15 : decode cX7_init 15 = .ok (.newarray .int, 2) := by decide +kernel
theorem dX7_init_17 : decode cX7_init 17 = .ok (.putfield 15, 3) := by decide +kernel
theorem dX7_init_20 : decode cX7_init 20 = .ok (.return_, 1) := by decide +kernel
theorem dX7_run_0 : decode cX7_run 0 = .ok (.aload_n 1, 1) := by decide +kernel
theorem dX7_run_1 : decode cX7_run 1 = .ok (.ifnonnull 4, 3) := by decide +kernel
theorem dX7_run_4 : decode cX7_run 4 = .ok (.return_, 1) := by decide +kernel
theorem dX7_run_5 : decode cX7_run 5 = .ok (.aload_n 0, 1) := by decide +kernel
theorem dX7_run_6 : decode cX7_run 6 = .ok (.getfield 9, 3) := by decide +kernel
theorem dX7_run_9 : decode cX7_run 9 = .ok (.iconst 0, 1) := by decide +kernel
theorem dX7_run_10 : decode cX7_run 10 = .ok (.iload_n 2, 1) := by decide +kernel
theorem dX7_run_11 : decode cX7_run 11 = .ok (.iastore, 1) := by decide +kernel
theorem dX7_run_12 : decode cX7_run 12 = .ok (.aload_n 0, 1) := by decide +kernel
theorem dX7_run_13 : decode cX7_run 13 = .ok (.getfield 15, 3) := by decide +kernel
theorem dX7_run_16 : decode cX7_run 16 = .ok (.iconst 0, 1) := by decide +kernel
theorem dX7_run_17 : decode cX7_run 17 = .ok (.iload_n 3, 1) := by decide +kernel
theorem dX7_run_18 : decode cX7_run 18 = .ok (.iastore, 1) := by decide +kernel
theorem dX7_run_19 : decode cX7_run 19 = .ok (.aload_n 0, 1) := by decide +kernel
theorem dX7_run_20 : decode cX7_run 20 = .ok (.iconst 0, 1) := by decide +kernel
theorem dX7_run_21 : decode cX7_run 21 = .ok (.putfield 18, 3) := by decide +kernel
theorem dX7_run_24 : decode cX7_run 24 = .ok (.aload_n 0, 1) := by decide +kernel
theorem dX7_run_25 : decode cX7_run 25 = .ok (.iload_n 2, 1) := by decide +kernel
theorem dX7_run_26 : decode cX7_run 26 = .ok (.iload_n 3, 1) := by decide +kernel
theorem dX7_run_27 : decode cX7_run 27 = .ok (.invokestatic 22, 3) := by decide +kernel
theorem dX7_run_30 : decode cX7_run 30 = .ok (.ifCond .eq 7, 3) := by decide +kernel
theorem dX7_run_33 : decode cX7_run 33 = .ok (.iconst 3, 1) := by decide +kernel
theorem dX7_run_34 : decode cX7_run 34 = .ok (.goto 4, 3) := by decide +kernel
theorem dX7_run_37 : decode cX7_run 37 = .ok (.iconst 2, 1) := by decide +kernel
theorem dX7_run_38 : decode cX7_run 38 = .ok (.putfield 26, 3) := by decide +kernel
theorem dX7_run_41 : decode cX7_run 41 = .ok (.iconst 1, 1) := by decide +kernel
theorem dX7_run_42 : decode cX7_run 42 = .ok (.istore 4, 2) := by decide +kernel
theorem dX7_run_44 : decode cX7_run 44 = .ok (.iload 4, 2) := by decide +kernel
theorem dX7_run_46 : decode cX7_run 46 = .ok (.bipush 60, 2) := by decide +kernel
theorem dX7_run_48 : decode cX7_run 48 = .ok (.if_icmp .gt 91, 3) := by decide +kernel
theorem dX7_run_51 : decode cX7_run 51 = .ok (.aload_n 0, 1) := by decide +kernel
theorem dX7_run_52 : decode cX7_run 52 = .ok (.getfield 26, 3) := by decide +kernel
theorem dX7_run_55 : decode cX7_run 55 = .ok (.iconst 3, 1) := by decide +kernel
theorem dX7_run_56 : decode cX7_run 56 = .ok (.if_icmp .ne 83, 3) := by decide +kernel
theorem dX7_run_59 : decode cX7_run 59 = .ok (.aload_n 0, 1) := by decide +kernel
theorem dX7_run_60 : decode cX7_run 60 = .ok (.getfield 9, 3) := by decide +kernel
theorem dX7_run_63 : decode cX7_run 63 = .ok (.iload 4, 2) := by decide +kernel
theorem dX7_run_65 : decode cX7_run 65 = .ok (.iconst 1, 1) := by decide +kernel
theorem dX7_run_66 : decode cX7_run 66 = .ok (.isub, 1) := by decide +kernel
theorem dX7_run_67 : decode cX7_run 67 = .ok (.iaload, 1) := by decide +kernel
theorem dX7_run_68 : decode cX7_run 68 = .ok (.istore 5, 2) := by decide +kernel
theorem dX7_run_70 : decode cX7_run 70 = .ok (.aload_n 0, 1) := by decide +kernel
theorem dX7_run_71 : decode cX7_run 71 = .ok (.getfield 15, 3) := by decide +kernel
theorem dX7_run_74 : decode cX7_run 74 = .ok (.iload 4, 2) := by decide +kernel
theorem dX7_run_76 : decode cX7_run 76 = .ok (.iconst 1, 1) := by decide +kernel
theorem dX7_run_77 : decode cX7_run 77 = .ok (.isub, 1) := by decide +kernel
theorem dX7_run_78 : decode cX7_run 78 = .ok (.iaload, 1) := by decide +kernel
theorem dX7_run_79 : decode cX7_run 79 = .ok (.istore 6, 2) := by decide +kernel
theorem dX7_run_81 : decode cX7_run 81 = .ok (.aload_n 0, 1) := by decide +kernel
theorem dX7_run_82 : decode cX7_run 82 = .ok (.getfield 9, 3) := by decide +kernel
theorem dX7_run_85 : decode cX7_run 85 = .ok (.iload 4, 2) := by decide +kernel
theorem dX7_run_87 : decode cX7_run 87 = .ok (.iload_n 2, 1) := by decide +kernel
theorem dX7_run_88 : decode cX7_run 88 = .ok (.aload_n 1, 1) := by decide +kernel
theorem dX7_run_89 : decode cX7_run 89 = .ok (.iload 5, 2) := by decide +kernel
theorem dX7_run_91 : decode cX7_run 91 = .ok (.iload 6, 2) := by decide +kernel
theorem dX7_run_93 : decode cX7_run 93 = .ok (.iconst 0, 1) := by decide +kernel
theorem dX7_run_94 : decode cX7_run 94 = .ok (.invokevirtual 29, 3) := by decide +kernel
theorem dX7_run_97 : decode cX7_run 97 = .ok (.isub, 1) := by decide +kernel
theorem dX7_run_98 : decode cX7_run 98 = .ok (.iastore, 1) := by decide +kernel
theorem dX7_run_99 : decode cX7_run 99 = .ok (.aload_n 0, 1) := by decide +kernel
theorem dX7_run_100 : decode cX7_run 100 = .ok (.getfield 15, 3) := by decide +kernel
theorem dX7_run_103 : decode cX7_run 103 = .ok (.iload 4, 2) := by decide +kernel
theorem dX7_run_105 : decode cX7_run 105 = .ok (.iload_n 3, 1) := by decide +kernel
theorem dX7_run_106 : decode cX7_run 106 = .ok (.aload_n 1, 1) := by decide +kernel
theorem dX7_run_107 : decode cX7_run 107 = .ok (.iload 5, 2) := by decide +kernel
theorem dX7_run_109 : decode cX7_run 109 = .ok (.iload 6, 2) := by decide +kernel
theorem dX7_run_111 : decode cX7_run 111 = .ok (.iconst 1, 1) := by decide +kernel
theorem dX7_run_112 : decode cX7_run 112 = .ok (.invokevirtual 29, 3) := by decide +kernel
theorem dX7_run_115 : decode cX7_run 115 = .ok (.isub, 1) := by decide +kernel
theorem dX7_run_116 : decode cX7_run 116 = .ok (.iastore, 1) := by decide +kernel
theorem dX7_run_117 : decode cX7_run 117 = .ok (.aload_n 0, 1) := by decide +kernel
theorem dX7_run_118 : decode cX7_run 118 = .ok (.iload 4, 2) := by decide +kernel
theorem dX7_run_120 : decode cX7_run 120 = .ok (.putfield 18, 3) := by decide +kernel
theorem dX7_run_123 : decode cX7_run 123 = .ok (.aload_n 0, 1) := by decide +kernel
theorem dX7_run_124 : decode cX7_run 124 = .ok (.aload_n 0, 1) := by decide +kernel
theorem dX7_run_125 : decode cX7_run 125 = .ok (.iload 4, 2) := by decide +kernel
theorem dX7_run_127 : decode cX7_run 127 = .ok (.invokevirtual 35, 3) := by decide +kernel
theorem dX7_run_130 : decode cX7_run 130 = .ok (.putfield 26, 3) := by decide +kernel
theorem dX7_run_133 : decode cX7_run 133 = .ok (.iinc 4 1, 3) := by decide +kernel
theorem dX7_run_136 : decode cX7_run 136 = .ok (.goto (-92), 3) := by decide +kernel
theorem dX7_run_139 : decode cX7_run 139 = .ok (.return_, 1) := by decide +kernel
theorem dX7_kindOf_0 : decode cX7_kindOf 0 = .ok (.iload_n 1, 1) := by decide +kernel
theorem dX7_kindOf_1 : decode cX7_kindOf 1 = .ok (.iconst 1, 1) := by decide +kernel
theorem dX7_kindOf_2 : decode cX7_kindOf 2 = .ok (.if_icmp .lt 9, 3) := by decide +kernel
theorem dX7_kindOf_5 : decode cX7_kindOf 5 = .ok (.iload_n 1, 1) := by decide +kernel
theorem dX7_kindOf_6 : decode cX7_kindOf 6 = .ok (.bipush 60, 2) := by decide +kernel
theorem dX7_kindOf_8 : decode cX7_kindOf 8 = .ok (.if_icmp .le 5, 3) := by decide +kernel
theorem dX7_kindOf_11 : decode cX7_kindOf 11 = .ok (.iconst 3, 1) := by decide +kernel
theorem dX7_kindOf_12 : decode cX7_kindOf 12 = .ok (.ireturn, 1) := by decide +kernel
theorem dX7_kindOf_13 : decode cX7_kindOf 13 = .ok (.aload_n 0, 1) := by decide +kernel
theorem dX7_kindOf_14 : decode cX7_kindOf 14 = .ok (.getfield 9, 3) := by decide +kernel
theorem dX7_kindOf_17 : decode cX7_kindOf 17 = .ok (.iload_n 1, 1) := by decide +kernel
theorem dX7_kindOf_18 : decode cX7_kindOf 18 = .ok (.iaload, 1) := by decide +kernel
theorem dX7_kindOf_19 : decode cX7_kindOf 19 = .ok (.istore_n 2, 1) := by decide +kernel
theorem dX7_kindOf_20 : decode cX7_kindOf 20 = .ok (.aload_n 0, 1) := by decide +kernel
theorem dX7_kindOf_21 : decode cX7_kindOf 21 = .ok (.getfield 15, 3) := by decide +kernel
theorem dX7_kindOf_24 : decode cX7_kindOf 24 = .ok (.iload_n 1, 1) := by decide +kernel
theorem dX7_kindOf_25 : decode cX7_kindOf 25 = .ok (.iaload, 1) := by decide +kernel
theorem dX7_kindOf_26 : decode cX7_kindOf 26 = .ok (.istore_n 3, 1) := by decide +kernel
theorem dX7_kindOf_27 : decode cX7_kindOf 27 = .ok (.iload_n 2, 1) := by decide +kernel
theorem dX7_kindOf_28 : decode cX7_kindOf 28 = .ok (.iload_n 3, 1) := by decide +kernel
theorem dX7_kindOf_29 : decode cX7_kindOf 29 = .ok (.invokestatic 22, 3) := by decide +kernel
theorem dX7_kindOf_32 : decode cX7_kindOf 32 = .ok (.ifCond .ne 5, 3) := by decide +kernel
theorem dX7_kindOf_35 : decode cX7_kindOf 35 = .ok (.iconst 2, 1) := by decide +kernel
theorem dX7_kindOf_36 : decode cX7_kindOf 36 = .ok (.ireturn, 1) := by decide +kernel
theorem dX7_kindOf_37 : decode cX7_kindOf 37 = .ok (.aload_n 0, 1) := by decide +kernel
theorem dX7_kindOf_38 : decode cX7_kindOf 38 = .ok (.getfield 9, 3) := by decide +kernel
theorem dX7_kindOf_41 : decode cX7_kindOf 41 = .ok (.iload_n 1, 1) := by decide +kernel
theorem dX7_kindOf_42 : decode cX7_kindOf 42 = .ok (.iconst 1, 1) := by decide +kernel
theorem dX7_kindOf_43 : decode cX7_kindOf 43 = .ok (.isub, 1) := by decide +kernel
theorem dX7_kindOf_44 : decode cX7_kindOf 44 = .ok (.iaload, 1) := by decide +kernel
theorem dX7_kindOf_45 : decode cX7_kindOf 45 = .ok (.iload_n 2, 1) := by decide +kernel
theorem dX7_kindOf_46 : decode cX7_kindOf 46 = .ok (.if_icmp .ne 17, 3) := by decide +kernel
theorem dX7_kindOf_49 : decode cX7_kindOf 49 = .ok (.aload_n 0, 1) := by decide +kernel
theorem dX7_kindOf_50 : decode cX7_kindOf 50 = .ok (.getfield 15, 3) := by decide +kernel
theorem dX7_kindOf_53 : decode cX7_kindOf 53 = .ok (.iload_n 1, 1) := by decide +kernel
theorem dX7_kindOf_54 : decode cX7_kindOf 54 = .ok (.iconst 1, 1) := by decide +kernel
theorem dX7_kindOf_55 : decode cX7_kindOf 55 = .ok (.isub, 1) := by decide +kernel
theorem dX7_kindOf_56 : decode cX7_kindOf 56 = .ok (.iaload, 1) := by decide +kernel
theorem dX7_kindOf_57 : decode cX7_kindOf 57 = .ok (.iload_n 3, 1) := by decide +kernel
theorem dX7_kindOf_58 : decode cX7_kindOf 58 = .ok (.if_icmp .ne 5, 3) := by decide +kernel
theorem dX7_kindOf_61 : decode cX7_kindOf 61 = .ok (.iconst 0, 1) := by decide +kernel
theorem dX7_kindOf_62 : decode cX7_kindOf 62 = .ok (.ireturn, 1) := by decide +kernel
theorem dX7_kindOf_63 : decode cX7_kindOf 63 = .ok (.iconst 0, 1) := by decide +kernel
theorem dX7_kindOf_64 : decode cX7_kindOf 64 = .ok (.istore 4, 2) := by decide +kernel
theorem dX7_kindOf_66 : decode cX7_kindOf 66 = .ok (.iload 4, 2) := by decide +kernel
theorem dX7_kindOf_68 : decode cX7_kindOf 68 = .ok (.iload_n 1, 1) := by decide +kernel
theorem dX7_kindOf_69 : decode cX7_kindOf 69 = .ok (.if_icmp .ge 33, 3) := by decide +kernel
theorem dX7_kindOf_72 : decode cX7_kindOf 72 = .ok (.aload_n 0, 1) := by decide +kernel
theorem dX7_kindOf_73 : decode cX7_kindOf 73 = .ok (.getfield 9, 3) := by decide +kernel
theorem dX7_kindOf_76 : decode cX7_kindOf 76 = .ok (.iload 4, 2) := by decide +kernel
theorem dX7_kindOf_78 : decode cX7_kindOf 78 = .ok (.iaload, 1) := by decide +kernel
theorem dX7_kindOf_79 : decode cX7_kindOf 79 = .ok (.iload_n 2, 1) := by decide +kernel
theorem dX7_kindOf_80 : decode cX7_kindOf 80 = .ok (.if_icmp .ne 16, 3) := by decide +kernel
theorem dX7_kindOf_83 : decode cX7_kindOf 83 = .ok (.aload_n 0, 1) := by decide +kernel
theorem dX7_kindOf_84 : decode cX7_kindOf 84 = .ok (.getfield 15, 3) := by decide +kernel
theorem dX7_kindOf_87 : decode cX7_kindOf 87 = .ok (.iload 4, 2) := by decide +kernel
theorem dX7_kindOf_89 : decode cX7_kindOf 89 = .ok (.iaload, 1) := by decide +kernel
theorem dX7_kindOf_90 : decode cX7_kindOf 90 = .ok (.iload_n 3, 1) := by decide +kernel
theorem dX7_kindOf_91 : decode cX7_kindOf 91 = .ok (.if_icmp .ne 5, 3) := by decide +kernel
theorem dX7_kindOf_94 : decode cX7_kindOf 94 = .ok (.iconst 1, 1) := by decide +kernel
theorem dX7_kindOf_95 : decode cX7_kindOf 95 = .ok (.ireturn, 1) := by decide +kernel
theorem dX7_kindOf_96 : decode cX7_kindOf 96 = .ok (.iinc 4 1, 3) := by decide +kernel
theorem dX7_kindOf_99 : decode cX7_kindOf 99 = .ok (.goto (-33), 3) := by decide +kernel
theorem dX7_kindOf_102 : decode cX7_kindOf 102 = .ok (.iconst 3, 1) := by decide +kernel
theorem dX7_kindOf_103 : decode cX7_kindOf 103 = .ok (.ireturn, 1) := by decide +kernel
theorem dX7_kindNow_0 : decode cX7_kindNow 0 = .ok (.aload_n 0, 1) := by decide +kernel
theorem dX7_kindNow_1 : decode cX7_kindNow 1 = .ok (.getfield 26, 3) := by decide +kernel
theorem dX7_kindNow_4 : decode cX7_kindNow 4 = .ok (.ireturn, 1) := by decide +kernel
theorem dX7_rounds_0 : decode cX7_rounds 0 = .ok (.aload_n 0, 1) := by decide +kernel
theorem dX7_rounds_1 : decode cX7_rounds 1 = .ok (.getfield 18, 3) := by decide +kernel
theorem dX7_rounds_4 : decode cX7_rounds 4 = .ok (.ireturn, 1) := by decide +kernel
theorem dX7_lastX_0 : decode cX7_lastX 0 = .ok (.aload_n 0, 1) := by decide +kernel
theorem dX7_lastX_1 : decode cX7_lastX 1 = .ok (.getfield 18, 3) := by decide +kernel
theorem dX7_lastX_4 : decode cX7_lastX 4 = .ok (.ifCond .lt 24, 3) := by decide +kernel
theorem dX7_lastX_7 : decode cX7_lastX 7 = .ok (.aload_n 0, 1) := by decide +kernel
theorem dX7_lastX_8 : decode cX7_lastX 8 = .ok (.getfield 18, 3) := by decide +kernel
theorem dX7_lastX_11 : decode cX7_lastX 11 = .ok (.bipush 60, 2) := by decide +kernel
theorem dX7_lastX_13 : decode cX7_lastX 13 = .ok (.if_icmp .gt 15, 3) := by decide +kernel
theorem dX7_lastX_16 : decode cX7_lastX 16 = .ok (.aload_n 0, 1) := by decide +kernel
theorem dX7_lastX_17 : decode cX7_lastX 17 = .ok (.getfield 9, 3) := by decide +kernel
theorem dX7_lastX_20 : decode cX7_lastX 20 = .ok (.aload_n 0, 1) := by decide +kernel
theorem dX7_lastX_21 : decode cX7_lastX 21 = .ok (.getfield 18, 3) := by decide +kernel
theorem dX7_lastX_24 : decode cX7_lastX 24 = .ok (.iaload, 1) := by decide +kernel
theorem dX7_lastX_25 : decode cX7_lastX 25 = .ok (.goto 4, 3) := by decide +kernel
theorem dX7_lastX_28 : decode cX7_lastX 28 = .ok (.iconst 0, 1) := by decide +kernel
theorem dX7_lastX_29 : decode cX7_lastX 29 = .ok (.ireturn, 1) := by decide +kernel
theorem dX7_lastY_0 : decode cX7_lastY 0 = .ok (.aload_n 0, 1) := by decide +kernel
theorem dX7_lastY_1 : decode cX7_lastY 1 = .ok (.getfield 18, 3) := by decide +kernel
theorem dX7_lastY_4 : decode cX7_lastY 4 = .ok (.ifCond .lt 24, 3) := by decide +kernel
theorem dX7_lastY_7 : decode cX7_lastY 7 = .ok (.aload_n 0, 1) := by decide +kernel
theorem dX7_lastY_8 : decode cX7_lastY 8 = .ok (.getfield 18, 3) := by decide +kernel
theorem dX7_lastY_11 : decode cX7_lastY 11 = .ok (.bipush 60, 2) := by decide +kernel
theorem dX7_lastY_13 : decode cX7_lastY 13 = .ok (.if_icmp .gt 15, 3) := by decide +kernel
theorem dX7_lastY_16 : decode cX7_lastY 16 = .ok (.aload_n 0, 1) := by decide +kernel
theorem dX7_lastY_17 : decode cX7_lastY 17 = .ok (.getfield 15, 3) := by decide +kernel
theorem dX7_lastY_20 : decode cX7_lastY 20 = .ok (.aload_n 0, 1) := by decide +kernel
theorem dX7_lastY_21 : decode cX7_lastY 21 = .ok (.getfield 18, 3) := by decide +kernel
theorem dX7_lastY_24 : decode cX7_lastY 24 = .ok (.iaload, 1) := by decide +kernel
theorem dX7_lastY_25 : decode cX7_lastY 25 = .ok (.goto 4, 3) := by decide +kernel
theorem dX7_lastY_28 : decode cX7_lastY 28 = .ok (.iconst 0, 1) := by decide +kernel
theorem dX7_lastY_29 : decode cX7_lastY 29 = .ok (.ireturn, 1) := by decide +kernel
theorem dX8_init_0 : decode cX8_init 0 = .ok (.aload_n 0, 1) := by decide +kernel
theorem dX8_init_1 : decode cX8_init 1 = .ok (.invokespecial 3, 3) := by decide +kernel
theorem dX8_init_4 : decode cX8_init 4 = .ok (.aload_n 0, 1) := by decide +kernel
theorem dX8_init_5 : decode cX8_init 5 = .ok (.bipush 6, 2) := by decide +kernel
theorem dX8_init_7 : decode cX8_init 7 = .ok (.anewarray 9, 3) := by decide +kernel
theorem dX8_init_10 : decode cX8_init 10 = .ok (.putfield 11, 3) := by decide +kernel
theorem dX8_init_13 : decode cX8_init 13 = .ok (.iconst 0, 1) := by decide +kernel
theorem dX8_init_14 : decode cX8_init 14 = .ok (.istore_n 1, 1) := by decide +kernel
theorem dX8_init_15 : decode cX8_init 15 = .ok (.iload_n 1, 1) := by decide +kernel
theorem dX8_init_16 : decode cX8_init 16 = .ok (.bipush 6, 2) := by decide +kernel
theorem dX8_init_18 : decode cX8_init 18 = .ok (.if_icmp .ge 22, 3) := by decide +kernel
theorem dX8_init_21 : decode cX8_init 21 = .ok (.aload_n 0, 1) := by decide +kernel
theorem dX8_init_22 : decode cX8_init 22 = .ok (.getfield 11, 3) := by decide +kernel
theorem dX8_init_25 : decode cX8_init 25 = .ok (.iload_n 1, 1) := by decide +kernel
theorem dX8_init_26 : decode cX8_init 26 = .ok (.new 9, 3) := by decide +kernel
theorem dX8_init_29 : decode cX8_init 29 = .ok (.dup, 1) := by decide +kernel
theorem dX8_init_30 : decode cX8_init 30 = .ok (.invokespecial 17, 3) := by decide +kernel
theorem dX8_init_33 : decode cX8_init 33 = .ok (.aastore, 1) := by decide +kernel
theorem dX8_init_34 : decode cX8_init 34 = .ok (.iinc 1 1, 3) := by decide +kernel
theorem dX8_init_37 : decode cX8_init 37 = .ok (.goto (-22), 3) := by decide +kernel
theorem dX8_init_40 : decode cX8_init 40 = .ok (.return_, 1) := by decide +kernel
theorem dX8_copyFrom_0 : decode cX8_copyFrom 0 = .ok (.aload_n 1, 1) := by decide +kernel
theorem dX8_copyFrom_1 : decode cX8_copyFrom 1 = .ok (.ifnonnull 4, 3) := by decide +kernel
theorem dX8_copyFrom_4 : decode cX8_copyFrom 4 = .ok (.return_, 1) := by decide +kernel
theorem dX8_copyFrom_5 : decode cX8_copyFrom 5 = .ok (.aload_n 0, 1) := by decide +kernel
theorem dX8_copyFrom_6 : decode cX8_copyFrom 6 = .ok (.aload_n 1, 1) := by decide +kernel
theorem dX8_copyFrom_7 : decode cX8_copyFrom 7 = .ok (.getfield 18, 3) := by decide +kernel
theorem dX8_copyFrom_10 : decode cX8_copyFrom 10 = .ok (.putfield 18, 3) := by decide +kernel
theorem dX8_copyFrom_13 : decode cX8_copyFrom 13 = .ok (.aload_n 0, 1) := by decide +kernel
theorem dX8_copyFrom_14 : decode cX8_copyFrom 14 = .ok (.aload_n 1, 1) := by decide +kernel
theorem dX8_copyFrom_15 : decode cX8_copyFrom 15 = .ok (.getfield 22, 3) := by decide +kernel
theorem dX8_copyFrom_18 : decode cX8_copyFrom 18 = .ok (.putfield 22, 3) := by decide +kernel
theorem dX8_copyFrom_21 : decode cX8_copyFrom 21 = .ok (.iconst 0, 1) := by decide +kernel
theorem dX8_copyFrom_22 : decode cX8_copyFrom 22 = .ok (.istore_n 2, 1) := by decide +kernel
theorem dX8_copyFrom_23 : decode cX8_copyFrom 23 = .ok (.iload_n 2, 1) := by decide +kernel
theorem dX8_copyFrom_24 : decode cX8_copyFrom 24 = .ok (.aload_n 0, 1) := by decide +kernel
theorem dX8_copyFrom_25 : decode cX8_copyFrom 25 = .ok (.getfield 18, 3) := by decide +kernel
theorem dX8_copyFrom_28 : decode cX8_copyFrom 28 = .ok (.if_icmp .ge 28, 3) := by decide +kernel
theorem dX8_copyFrom_31 : decode cX8_copyFrom 31 = .ok (.aload_n 0, 1) := by decide +kernel
theorem dX8_copyFrom_32 : decode cX8_copyFrom 32 = .ok (.iload_n 2, 1) := by decide +kernel
theorem dX8_copyFrom_33 : decode cX8_copyFrom 33 = .ok (.invokevirtual 25, 3) := by decide +kernel
theorem dX8_copyFrom_36 : decode cX8_copyFrom 36 = .ok (.astore_n 3, 1) := by decide +kernel
theorem dX8_copyFrom_37 : decode cX8_copyFrom 37 = .ok (.aload_n 3, 1) := by decide +kernel
theorem dX8_copyFrom_38 : decode cX8_copyFrom 38 = .ok (.ifnull 12, 3) := by decide +kernel
theorem dX8_copyFrom_41 : decode cX8_copyFrom 41 = .ok (.aload_n 3, 1) := by decide +kernel
theorem dX8_copyFrom_42 : decode cX8_copyFrom 42 = .ok (.aload_n 1, 1) := by decide +kernel
theorem dX8_copyFrom_43 : decode cX8_copyFrom 43 = .ok (.iload_n 2, 1) := by decide +kernel
theorem dX8_copyFrom_44 : decode cX8_copyFrom 44 = .ok (.invokevirtual 25, 3) := by decide +kernel
theorem dX8_copyFrom_47 : decode cX8_copyFrom 47 = .ok (.invokevirtual 29, 3) := by decide +kernel
theorem dX8_copyFrom_50 : decode cX8_copyFrom 50 = .ok (.iinc 2 1, 3) := by decide +kernel
theorem dX8_copyFrom_53 : decode cX8_copyFrom 53 = .ok (.goto (-30), 3) := by decide +kernel
theorem dX8_copyFrom_56 : decode cX8_copyFrom 56 = .ok (.return_, 1) := by decide +kernel
theorem dX8_size_0 : decode cX8_size 0 = .ok (.aload_n 0, 1) := by decide +kernel
theorem dX8_size_1 : decode cX8_size 1 = .ok (.getfield 18, 3) := by decide +kernel
theorem dX8_size_4 : decode cX8_size 4 = .ok (.ireturn, 1) := by decide +kernel
theorem dX8_ruleNow_0 : decode cX8_ruleNow 0 = .ok (.aload_n 0, 1) := by decide +kernel
theorem dX8_ruleNow_1 : decode cX8_ruleNow 1 = .ok (.getfield 22, 3) := by decide +kernel
theorem dX8_ruleNow_4 : decode cX8_ruleNow 4 = .ok (.ireturn, 1) := by decide +kernel
theorem dX8_setRule_0 : decode cX8_setRule 0 = .ok (.aload_n 0, 1) := by decide +kernel
theorem dX8_setRule_1 : decode cX8_setRule 1 = .ok (.iload_n 1, 1) := by decide +kernel
theorem dX8_setRule_2 : decode cX8_setRule 2 = .ok (.putfield 22, 3) := by decide +kernel
theorem dX8_setRule_5 : decode cX8_setRule 5 = .ok (.return_, 1) := by decide +kernel
theorem dX8_at_0 : decode cX8_at 0 = .ok (.iload_n 1, 1) := by decide +kernel
theorem dX8_at_1 : decode cX8_at 1 = .ok (.ifCond .lt 29, 3) := by decide +kernel
theorem dX8_at_4 : decode cX8_at 4 = .ok (.iload_n 1, 1) := by decide +kernel
theorem dX8_at_5 : decode cX8_at 5 = .ok (.aload_n 0, 1) := by decide +kernel
theorem dX8_at_6 : decode cX8_at 6 = .ok (.getfield 18, 3) := by decide +kernel
theorem dX8_at_9 : decode cX8_at 9 = .ok (.if_icmp .ge 21, 3) := by decide +kernel
theorem dX8_at_12 : decode cX8_at 12 = .ok (.iload_n 1, 1) := by decide +kernel
theorem dX8_at_13 : decode cX8_at 13 = .ok (.aload_n 0, 1) := by decide +kernel
theorem dX8_at_14 : decode cX8_at 14 = .ok (.getfield 11, 3) := by decide +kernel
theorem dX8_at_17 : decode cX8_at 17 = .ok (.arraylength, 1) := by decide +kernel
theorem dX8_at_18 : decode cX8_at 18 = .ok (.if_icmp .ge 12, 3) := by decide +kernel
theorem dX8_at_21 : decode cX8_at 21 = .ok (.aload_n 0, 1) := by decide +kernel
theorem dX8_at_22 : decode cX8_at 22 = .ok (.getfield 11, 3) := by decide +kernel
theorem dX8_at_25 : decode cX8_at 25 = .ok (.iload_n 1, 1) := by decide +kernel
theorem dX8_at_26 : decode cX8_at 26 = .ok (.aaload, 1) := by decide +kernel
theorem dX8_at_27 : decode cX8_at 27 = .ok (.goto 4, 3) := by decide +kernel
theorem dX8_at_30 : decode cX8_at 30 = .ok (.aconst_null, 1) := by decide +kernel
theorem dX8_at_31 : decode cX8_at 31 = .ok (.areturn, 1) := by decide +kernel
theorem dX8_fitsParent_0 : decode cX8_fitsParent 0 = .ok (.aload_n 0, 1) := by decide +kernel
theorem dX8_fitsParent_1 : decode cX8_fitsParent 1 = .ok (.iload_n 1, 1) := by decide +kernel
theorem dX8_fitsParent_2 : decode cX8_fitsParent 2 = .ok (.invokevirtual 25, 3) := by decide +kernel
theorem dX8_fitsParent_5 : decode cX8_fitsParent 5 = .ok (.astore 7, 2) := by decide +kernel
theorem dX8_fitsParent_7 : decode cX8_fitsParent 7 = .ok (.aload 7, 2) := by decide +kernel
theorem dX8_fitsParent_9 : decode cX8_fitsParent 9 = .ok (.ifnull 51, 3) := by decide +kernel
theorem dX8_fitsParent_12 : decode cX8_fitsParent 12 = .ok (.iload_n 2, 1) := by decide +kernel
theorem dX8_fitsParent_13 : decode cX8_fitsParent 13 = .ok (.aload 7, 2) := by decide +kernel
theorem dX8_fitsParent_15 : decode cX8_fitsParent 15 = .ok (.getfield 33, 3) := by decide +kernel
theorem dX8_fitsParent_18 : decode cX8_fitsParent 18 = .ok (.if_icmp .ge 46, 3) := by decide +kernel
theorem dX8_fitsParent_21 : decode cX8_fitsParent 21 = .ok (.iload_n 3, 1) := by decide +kernel
theorem dX8_fitsParent_22 : decode cX8_fitsParent 22 = .ok (.aload 7, 2) := by decide +kernel
theorem dX8_fitsParent_24 : decode cX8_fitsParent 24 = .ok (.getfield 36, 3) := by decide +kernel
theorem dX8_fitsParent_27 : decode cX8_fitsParent 27 = .ok (.if_icmp .lt 37, 3) := by decide +kernel
theorem dX8_fitsParent_30 : decode cX8_fitsParent 30 = .ok (.iload 5, 2) := by decide +kernel
theorem dX8_fitsParent_32 : decode cX8_fitsParent 32 = .ok (.aload 7, 2) := by decide +kernel
theorem dX8_fitsParent_34 : decode cX8_fitsParent 34 = .ok (.invokevirtual 39, 3) := by decide +kernel
theorem dX8_fitsParent_37 : decode cX8_fitsParent 37 = .ok (.if_icmp .gt 27, 3) := by decide +kernel
theorem dX8_fitsParent_40 : decode cX8_fitsParent 40 = .ok (.iload 4, 2) := by decide +kernel
theorem dX8_fitsParent_42 : decode cX8_fitsParent 42 = .ok (.aload 7, 2) := by decide +kernel
theorem dX8_fitsParent_44 : decode cX8_fitsParent 44 = .ok (.getfield 43, 3) := by decide +kernel
theorem dX8_fitsParent_47 : decode cX8_fitsParent 47 = .ok (.if_icmp .lt 17, 3) := by decide +kernel
theorem dX8_fitsParent_50 : decode cX8_fitsParent 50 = .ok (.iload 6, 2) := by decide +kernel
theorem dX8_fitsParent_52 : decode cX8_fitsParent 52 = .ok (.aload 7, 2) := by decide +kernel
theorem dX8_fitsParent_54 : decode cX8_fitsParent 54 = .ok (.invokevirtual 46, 3) := by decide +kernel
theorem dX8_fitsParent_57 : decode cX8_fitsParent 57 = .ok (.if_icmp .gt 7, 3) := by decide +kernel
theorem dX8_fitsParent_60 : decode cX8_fitsParent 60 = .ok (.iconst 1, 1) := by decide +kernel
theorem dX8_fitsParent_61 : decode cX8_fitsParent 61 = .ok (.goto 4, 3) := by decide +kernel
theorem dX8_fitsParent_64 : decode cX8_fitsParent 64 = .ok (.iconst 0, 1) := by decide +kernel
theorem dX8_fitsParent_65 : decode cX8_fitsParent 65 = .ok (.ireturn, 1) := by decide +kernel
theorem dX8_isApart_0 : decode cX8_isApart 0 = .ok (.iconst 0, 1) := by decide +kernel
theorem dX8_isApart_1 : decode cX8_isApart 1 = .ok (.istore 6, 2) := by decide +kernel
theorem dX8_isApart_3 : decode cX8_isApart 3 = .ok (.iload 6, 2) := by decide +kernel
theorem dX8_isApart_5 : decode cX8_isApart 5 = .ok (.aload_n 0, 1) := by decide +kernel
theorem dX8_isApart_6 : decode cX8_isApart 6 = .ok (.getfield 18, 3) := by decide +kernel
theorem dX8_isApart_9 : decode cX8_isApart 9 = .ok (.if_icmp .ge 71, 3) := by decide +kernel
theorem dX8_isApart_12 : decode cX8_isApart 12 = .ok (.aload_n 0, 1) := by decide +kernel
theorem dX8_isApart_13 : decode cX8_isApart 13 = .ok (.iload 6, 2) := by decide +kernel
theorem dX8_isApart_15 : decode cX8_isApart 15 = .ok (.invokevirtual 25, 3) := by decide +kernel
theorem dX8_isApart_18 : decode cX8_isApart 18 = .ok (.astore 7, 2) := by decide +kernel
theorem dX8_isApart_20 : decode cX8_isApart 20 = .ok (.aload 7, 2) := by decide +kernel
theorem dX8_isApart_22 : decode cX8_isApart 22 = .ok (.ifnull 52, 3) := by decide +kernel
theorem dX8_isApart_25 : decode cX8_isApart 25 = .ok (.aload 7, 2) := by decide +kernel
theorem dX8_isApart_27 : decode cX8_isApart 27 = .ok (.getfield 49, 3) := by decide +kernel
theorem dX8_isApart_30 : decode cX8_isApart 30 = .ok (.iload_n 1, 1) := by decide +kernel
theorem dX8_isApart_31 : decode cX8_isApart 31 = .ok (.if_icmp .ne 43, 3) := by decide +kernel
theorem dX8_isApart_34 : decode cX8_isApart 34 = .ok (.iload_n 2, 1) := by decide +kernel
theorem dX8_isApart_35 : decode cX8_isApart 35 = .ok (.aload 7, 2) := by decide +kernel
theorem dX8_isApart_37 : decode cX8_isApart 37 = .ok (.invokevirtual 39, 3) := by decide +kernel
theorem dX8_isApart_40 : decode cX8_isApart 40 = .ok (.if_icmp .ge 34, 3) := by decide +kernel
theorem dX8_isApart_43 : decode cX8_isApart 43 = .ok (.iload 4, 2) := by decide +kernel
theorem dX8_isApart_45 : decode cX8_isApart 45 = .ok (.aload 7, 2) := by decide +kernel
theorem dX8_isApart_47 : decode cX8_isApart 47 = .ok (.getfield 36, 3) := by decide +kernel
theorem dX8_isApart_50 : decode cX8_isApart 50 = .ok (.if_icmp .le 24, 3) := by decide +kernel
theorem dX8_isApart_53 : decode cX8_isApart 53 = .ok (.iload_n 3, 1) := by decide +kernel
theorem dX8_isApart_54 : decode cX8_isApart 54 = .ok (.aload 7, 2) := by decide +kernel
theorem dX8_isApart_56 : decode cX8_isApart 56 = .ok (.invokevirtual 46, 3) := by decide +kernel
theorem dX8_isApart_59 : decode cX8_isApart 59 = .ok (.if_icmp .ge 15, 3) := by decide +kernel
theorem dX8_isApart_62 : decode cX8_isApart 62 = .ok (.iload 5, 2) := by decide +kernel
theorem dX8_isApart_64 : decode cX8_isApart 64 = .ok (.aload 7, 2) := by decide +kernel
theorem dX8_isApart_66 : decode cX8_isApart 66 = .ok (.getfield 43, 3) := by decide +kernel
theorem dX8_isApart_69 : decode cX8_isApart 69 = .ok (.if_icmp .le 5, 3) := by decide +kernel
theorem dX8_isApart_72 : decode cX8_isApart 72 = .ok (.iconst 0, 1) := by decide +kernel
theorem dX8_isApart_73 : decode cX8_isApart 73 = .ok (.ireturn, 1) := by decide +kernel
theorem dX8_isApart_74 : decode cX8_isApart 74 = .ok (.iinc 6 1, 3) := by decide +kernel
theorem dX8_isApart_77 : decode cX8_isApart 77 = .ok (.goto (-74), 3) := by decide +kernel
theorem dX8_isApart_80 : decode cX8_isApart 80 = .ok (.iconst 1, 1) := by decide +kernel
theorem dX8_isApart_81 : decode cX8_isApart 81 = .ok (.ireturn, 1) := by decide +kernel
theorem dX8_add_0 : decode cX8_add 0 = .ok (.aload_n 0, 1) := by decide +kernel
theorem dX8_add_1 : decode cX8_add 1 = .ok (.getfield 18, 3) := by decide +kernel
theorem dX8_add_4 : decode cX8_add 4 = .ok (.istore 7, 2) := by decide +kernel
theorem dX8_add_6 : decode cX8_add 6 = .ok (.iload 7, 2) := by decide +kernel
theorem dX8_add_8 : decode cX8_add 8 = .ok (.ifCond .lt 23, 3) := by decide +kernel
theorem dX8_add_11 : decode cX8_add 11 = .ok (.iload 7, 2) := by decide +kernel
theorem dX8_add_13 : decode cX8_add 13 = .ok (.aload_n 0, 1) := by decide +kernel
theorem dX8_add_14 : decode cX8_add 14 = .ok (.getfield 11, 3) := by decide +kernel
theorem dX8_add_17 : decode cX8_add 17 = .ok (.arraylength, 1) := by decide +kernel
theorem dX8_add_18 : decode cX8_add 18 = .ok (.if_icmp .ge 13, 3) := by decide +kernel
theorem dX8_add_21 : decode cX8_add 21 = .ok (.aload_n 0, 1) := by decide +kernel
theorem dX8_add_22 : decode cX8_add 22 = .ok (.getfield 11, 3) := by decide +kernel
theorem dX8_add_25 : decode cX8_add 25 = .ok (.iload 7, 2) := by decide +kernel
theorem dX8_add_27 : decode cX8_add 27 = .ok (.aaload, 1) := by decide +kernel
theorem dX8_add_28 : decode cX8_add 28 = .ok (.goto 4, 3) := by decide +kernel
theorem dX8_add_31 : decode cX8_add 31 = .ok (.aconst_null, 1) := by decide +kernel
theorem dX8_add_32 : decode cX8_add 32 = .ok (.astore 8, 2) := by decide +kernel
theorem dX8_add_34 : decode cX8_add 34 = .ok (.aload 8, 2) := by decide +kernel
theorem dX8_add_36 : decode cX8_add 36 = .ok (.ifnonnull 6, 3) := by decide +kernel
theorem dX8_add_39 : decode cX8_add 39 = .ok (.ldc 52, 2) := by decide +kernel
theorem dX8_add_41 : decode cX8_add 41 = .ok (.ireturn, 1) := by decide +kernel
theorem dX8_add_42 : decode cX8_add 42 = .ok (.aload_n 0, 1) := by decide +kernel
theorem dX8_add_43 : decode cX8_add 43 = .ok (.dup, 1) := by decide +kernel
theorem dX8_add_44 : decode cX8_add 44 = .ok (.getfield 18, 3) := by decide +kernel
theorem dX8_add_47 : decode cX8_add 47 = .ok (.iconst 1, 1) := by decide +kernel
theorem dX8_add_48 : decode cX8_add 48 = .ok (.iadd, 1) := by decide +kernel
theorem dX8_add_49 : decode cX8_add 49 = .ok (.putfield 18, 3) := by decide +kernel
theorem dX8_add_52 : decode cX8_add 52 = .ok (.aload 8, 2) := by decide +kernel
theorem dX8_add_54 : decode cX8_add 54 = .ok (.iload_n 1, 1) := by decide +kernel
theorem dX8_add_55 : decode cX8_add 55 = .ok (.iload_n 2, 1) := by decide +kernel
theorem dX8_add_56 : decode cX8_add 56 = .ok (.iload_n 3, 1) := by decide +kernel
theorem dX8_add_57 : decode cX8_add 57 = .ok (.iload 4, 2) := by decide +kernel
theorem dX8_add_59 : decode cX8_add 59 = .ok (.iload 5, 2) := by decide +kernel
theorem dX8_add_61 : decode cX8_add 61 = .ok (.iload 6, 2) := by decide +kernel
theorem dX8_add_63 : decode cX8_add 63 = .ok (.invokevirtual 53, 3) := by decide +kernel
theorem dX8_add_66 : decode cX8_add 66 = .ok (.aload 8, 2) := by decide +kernel
theorem dX8_add_68 : decode cX8_add 68 = .ok (.iconst 0, 1) := by decide +kernel
theorem dX8_add_69 : decode cX8_add 69 = .ok (.iconst 0, 1) := by decide +kernel
theorem dX8_add_70 : decode cX8_add 70 = .ok (.invokevirtual 57, 3) := by decide +kernel
theorem dX8_add_73 : decode cX8_add 73 = .ok (.pop, 1) := by decide +kernel
theorem dX8_add_74 : decode cX8_add 74 = .ok (.iload 7, 2) := by decide +kernel
theorem dX8_add_76 : decode cX8_add 76 = .ok (.ireturn, 1) := by decide +kernel
theorem dX8_remove_0 : decode cX8_remove 0 = .ok (.aload_n 0, 1) := by decide +kernel
theorem dX8_remove_1 : decode cX8_remove 1 = .ok (.iload_n 1, 1) := by decide +kernel
theorem dX8_remove_2 : decode cX8_remove 2 = .ok (.invokevirtual 25, 3) := by decide +kernel
theorem dX8_remove_5 : decode cX8_remove 5 = .ok (.astore_n 2, 1) := by decide +kernel
theorem dX8_remove_6 : decode cX8_remove 6 = .ok (.aload_n 0, 1) := by decide +kernel
theorem dX8_remove_7 : decode cX8_remove 7 = .ok (.getfield 18, 3) := by decide +kernel
theorem dX8_remove_10 : decode cX8_remove 10 = .ok (.iconst 1, 1) := by decide +kernel
theorem dX8_remove_11 : decode cX8_remove 11 = .ok (.isub, 1) := by decide +kernel
theorem dX8_remove_12 : decode cX8_remove 12 = .ok (.istore_n 3, 1) := by decide +kernel
theorem dX8_remove_13 : decode cX8_remove 13 = .ok (.aload_n 2, 1) := by decide +kernel
theorem dX8_remove_14 : decode cX8_remove 14 = .ok (.ifnull 16, 3) := by decide +kernel
theorem dX8_remove_17 : decode cX8_remove 17 = .ok (.iload_n 3, 1) := by decide +kernel
theorem dX8_remove_18 : decode cX8_remove 18 = .ok (.ifCond .lt 12, 3) := by decide +kernel
theorem dX8_remove_21 : decode cX8_remove 21 = .ok (.iload_n 3, 1) := by decide +kernel
theorem dX8_remove_22 : decode cX8_remove 22 = .ok (.aload_n 0, 1) := by decide +kernel
theorem dX8_remove_23 : decode cX8_remove 23 = .ok (.getfield 11, 3) := by decide +kernel
theorem dX8_remove_26 : decode cX8_remove 26 = .ok (.arraylength, 1) := by decide +kernel
theorem dX8_remove_27 : decode cX8_remove 27 = .ok (.if_icmp .lt 4, 3) := by decide +kernel
theorem dX8_remove_30 : decode cX8_remove 30 = .ok (.return_, 1) := by decide +kernel
theorem dX8_remove_31 : decode cX8_remove 31 = .ok (.iload_n 1, 1) := by decide +kernel
theorem dX8_remove_32 : decode cX8_remove 32 = .ok (.istore 4, 2) := by decide +kernel
theorem dX8_remove_34 : decode cX8_remove 34 = .ok (.iload 4, 2) := by decide +kernel
theorem dX8_remove_36 : decode cX8_remove 36 = .ok (.iload_n 3, 1) := by decide +kernel
theorem dX8_remove_37 : decode cX8_remove 37 = .ok (.if_icmp .ge 25, 3) := by decide +kernel
theorem dX8_remove_40 : decode cX8_remove 40 = .ok (.aload_n 0, 1) := by decide +kernel
theorem dX8_remove_41 : decode cX8_remove 41 = .ok (.getfield 11, 3) := by decide +kernel
theorem dX8_remove_44 : decode cX8_remove 44 = .ok (.iload 4, 2) := by decide +kernel
theorem dX8_remove_46 : decode cX8_remove 46 = .ok (.aload_n 0, 1) := by decide +kernel
theorem dX8_remove_47 : decode cX8_remove 47 = .ok (.getfield 11, 3) := by decide +kernel
theorem dX8_remove_50 : decode cX8_remove 50 = .ok (.iload 4, 2) := by decide +kernel
theorem dX8_remove_52 : decode cX8_remove 52 = .ok (.iconst 1, 1) := by decide +kernel
theorem dX8_remove_53 : decode cX8_remove 53 = .ok (.iadd, 1) := by decide +kernel
theorem dX8_remove_54 : decode cX8_remove 54 = .ok (.aaload, 1) := by decide +kernel
theorem dX8_remove_55 : decode cX8_remove 55 = .ok (.aastore, 1) := by decide +kernel
theorem dX8_remove_56 : decode cX8_remove 56 = .ok (.iinc 4 1, 3) := by decide +kernel
theorem dX8_remove_59 : decode cX8_remove 59 = .ok (.goto (-25), 3) := by decide +kernel
theorem dX8_remove_62 : decode cX8_remove 62 = .ok (.aload_n 0, 1) := by decide +kernel
theorem dX8_remove_63 : decode cX8_remove 63 = .ok (.getfield 11, 3) := by decide +kernel
theorem dX8_remove_66 : decode cX8_remove 66 = .ok (.iload_n 3, 1) := by decide +kernel
theorem dX8_remove_67 : decode cX8_remove 67 = .ok (.aload_n 2, 1) := by decide +kernel
theorem dX8_remove_68 : decode cX8_remove 68 = .ok (.aastore, 1) := by decide +kernel
theorem dX8_remove_69 : decode cX8_remove 69 = .ok (.aload_n 0, 1) := by decide +kernel
theorem dX8_remove_70 : decode cX8_remove 70 = .ok (.iload_n 3, 1) := by decide +kernel
theorem dX8_remove_71 : decode cX8_remove 71 = .ok (.putfield 18, 3) := by decide +kernel
theorem dX8_remove_74 : decode cX8_remove 74 = .ok (.aload_n 0, 1) := by decide +kernel
theorem dX8_remove_75 : decode cX8_remove 75 = .ok (.iload_n 1, 1) := by decide +kernel
theorem dX8_remove_76 : decode cX8_remove 76 = .ok (.invokevirtual 61, 3) := by decide +kernel
theorem dX8_remove_79 : decode cX8_remove 79 = .ok (.return_, 1) := by decide +kernel
theorem dX8_lowerParentsBehind_0 : decode cX8_lowerParentsBehind 0 = .ok (.iconst 0, 1) := by decide +kernel
theorem dX8_lowerParentsBehind_1 : decode cX8_lowerParentsBehind 1 = .ok (.istore_n 2, 1) := by decide +kernel
theorem dX8_lowerParentsBehind_2 : decode cX8_lowerParentsBehind 2 = .ok (.iload_n 2, 1) := by decide +kernel
theorem dX8_lowerParentsBehind_3 : decode cX8_lowerParentsBehind 3 = .ok (.aload_n 0, 1) := by decide +kernel
theorem dX8_lowerParentsBehind_4 : decode cX8_lowerParentsBehind 4 = .ok (.getfield 18, 3) := by decide +kernel
theorem dX8_lowerParentsBehind_7 : decode cX8_lowerParentsBehind 7 = .ok (.if_icmp .ge 37, 3) := by decide +kernel
theorem dX8_lowerParentsBehind_10 : decode cX8_lowerParentsBehind 10 = .ok (.aload_n 0, 1) := by decide +kernel
theorem dX8_lowerParentsBehind_11 : decode cX8_lowerParentsBehind 11 = .ok (.iload_n 2, 1) := by decide +kernel
theorem dX8_lowerParentsBehind_12 : decode cX8_lowerParentsBehind 12 = .ok (.invokevirtual 25, 3) := by decide +kernel
theorem dX8_lowerParentsBehind_15 : decode cX8_lowerParentsBehind 15 = .ok (.astore_n 3, 1) := by decide +kernel
theorem dX8_lowerParentsBehind_16 : decode cX8_lowerParentsBehind 16 = .ok (.aload_n 3, 1) := by decide +kernel
theorem dX8_lowerParentsBehind_17 : decode cX8_lowerParentsBehind 17 = .ok (.ifnull 21, 3) := by decide +kernel
theorem dX8_lowerParentsBehind_20 : decode cX8_lowerParentsBehind 20 = .ok (.aload_n 3, 1) := by decide +kernel
theorem dX8_lowerParentsBehind_21 : decode cX8_lowerParentsBehind 21 = .ok (.getfield 49, 3) := by decide +kernel
theorem dX8_lowerParentsBehind_24 : decode cX8_lowerParentsBehind 24 = .ok (.iload_n 1, 1) := by decide +kernel
theorem dX8_lowerParentsBehind_25 : decode cX8_lowerParentsBehind 25 = .ok (.if_icmp .le 13, 3) := by decide +kernel
theorem dX8_lowerParentsBehind_28 : decode cX8_lowerParentsBehind 28 = .ok (.aload_n 3, 1) := by decide +kernel
theorem dX8_lowerParentsBehind_29 : decode cX8_lowerParentsBehind 29 = .ok (.dup, 1) := by decide +kernel
theorem dX8_lowerParentsBehind_30 : decode cX8_lowerParentsBehind 30 = .ok (.getfield 49, 3) := by decide +kernel
theorem dX8_lowerParentsBehind_33 : decode cX8_lowerParentsBehind 33 = .ok (.iconst 1, 1) := by decide +kernel
theorem dX8_lowerParentsBehind_34 : decode cX8_lowerParentsBehind 34 = .ok (.isub, 1) := by decide +kernel
theorem dX8_lowerParentsBehind_35 : decode cX8_lowerParentsBehind 35 = .ok (.putfield 49, 3) := by decide +kernel
theorem dX8_lowerParentsBehind_38 : decode cX8_lowerParentsBehind 38 = .ok (.iinc 2 1, 3) := by decide +kernel
theorem dX8_lowerParentsBehind_41 : decode cX8_lowerParentsBehind 41 = .ok (.goto (-39), 3) := by decide +kernel
theorem dX8_lowerParentsBehind_44 : decode cX8_lowerParentsBehind 44 = .ok (.return_, 1) := by decide +kernel
theorem dX8_shiftedNodes_0 : decode cX8_shiftedNodes 0 = .ok (.iconst 0, 1) := by decide +kernel
theorem dX8_shiftedNodes_1 : decode cX8_shiftedNodes 1 = .ok (.istore_n 1, 1) := by decide +kernel
theorem dX8_shiftedNodes_2 : decode cX8_shiftedNodes 2 = .ok (.iconst 0, 1) := by decide +kernel
theorem dX8_shiftedNodes_3 : decode cX8_shiftedNodes 3 = .ok (.istore_n 2, 1) := by decide +kernel
theorem dX8_shiftedNodes_4 : decode cX8_shiftedNodes 4 = .ok (.iload_n 2, 1) := by decide +kernel
theorem dX8_shiftedNodes_5 : decode cX8_shiftedNodes 5 = .ok (.aload_n 0, 1) := by decide +kernel
theorem dX8_shiftedNodes_6 : decode cX8_shiftedNodes 6 = .ok (.getfield 18, 3) := by decide +kernel
theorem dX8_shiftedNodes_9 : decode cX8_shiftedNodes 9 = .ok (.if_icmp .ge 30, 3) := by decide +kernel
theorem dX8_shiftedNodes_12 : decode cX8_shiftedNodes 12 = .ok (.aload_n 0, 1) := by decide +kernel
theorem dX8_shiftedNodes_13 : decode cX8_shiftedNodes 13 = .ok (.iload_n 2, 1) := by decide +kernel
theorem dX8_shiftedNodes_14 : decode cX8_shiftedNodes 14 = .ok (.invokevirtual 25, 3) := by decide +kernel
theorem dX8_shiftedNodes_17 : decode cX8_shiftedNodes 17 = .ok (.astore_n 3, 1) := by decide +kernel
theorem dX8_shiftedNodes_18 : decode cX8_shiftedNodes 18 = .ok (.iload_n 1, 1) := by decide +kernel
theorem dX8_shiftedNodes_19 : decode cX8_shiftedNodes 19 = .ok (.aload_n 3, 1) := by decide +kernel
theorem dX8_shiftedNodes_20 : decode cX8_shiftedNodes 20 = .ok (.ifnonnull 7, 3) := by decide +kernel
theorem dX8_shiftedNodes_23 : decode cX8_shiftedNodes 23 = .ok (.iconst 0, 1) := by decide +kernel
theorem dX8_shiftedNodes_24 : decode cX8_shiftedNodes 24 = .ok (.goto 7, 3) := by decide +kernel
theorem dX8_shiftedNodes_27 : decode cX8_shiftedNodes 27 = .ok (.aload_n 3, 1) := by decide +kernel
theorem dX8_shiftedNodes_28 : decode cX8_shiftedNodes 28 = .ok (.invokevirtual 65, 3) := by decide +kernel
theorem dX8_shiftedNodes_31 : decode cX8_shiftedNodes 31 = .ok (.iadd, 1) := by decide +kernel
theorem dX8_shiftedNodes_32 : decode cX8_shiftedNodes 32 = .ok (.istore_n 1, 1) := by decide +kernel
theorem dX8_shiftedNodes_33 : decode cX8_shiftedNodes 33 = .ok (.iinc 2 1, 3) := by decide +kernel
theorem dX8_shiftedNodes_36 : decode cX8_shiftedNodes 36 = .ok (.goto (-32), 3) := by decide +kernel
theorem dX8_shiftedNodes_39 : decode cX8_shiftedNodes 39 = .ok (.iload_n 1, 1) := by decide +kernel
theorem dX8_shiftedNodes_40 : decode cX8_shiftedNodes 40 = .ok (.ireturn, 1) := by decide +kernel
theorem dX8_children_0 : decode cX8_children 0 = .ok (.iconst 0, 1) := by decide +kernel
theorem dX8_children_1 : decode cX8_children 1 = .ok (.istore_n 2, 1) := by decide +kernel
theorem dX8_children_2 : decode cX8_children 2 = .ok (.iconst 0, 1) := by decide +kernel
theorem dX8_children_3 : decode cX8_children 3 = .ok (.istore_n 3, 1) := by decide +kernel
theorem dX8_children_4 : decode cX8_children 4 = .ok (.iload_n 3, 1) := by decide +kernel
theorem dX8_children_5 : decode cX8_children 5 = .ok (.aload_n 0, 1) := by decide +kernel
theorem dX8_children_6 : decode cX8_children 6 = .ok (.getfield 18, 3) := by decide +kernel
theorem dX8_children_9 : decode cX8_children 9 = .ok (.if_icmp .ge 38, 3) := by decide +kernel
theorem dX8_children_12 : decode cX8_children 12 = .ok (.aload_n 0, 1) := by decide +kernel
theorem dX8_children_13 : decode cX8_children 13 = .ok (.iload_n 3, 1) := by decide +kernel
theorem dX8_children_14 : decode cX8_children 14 = .ok (.invokevirtual 25, 3) := by decide +kernel
theorem dX8_children_17 : decode cX8_children 17 = .ok (.astore 4, 2) := by decide +kernel
theorem dX8_children_19 : decode cX8_children 19 = .ok (.iload_n 2, 1) := by decide +kernel
theorem dX8_children_20 : decode cX8_children 20 = .ok (.aload 4, 2) := by decide +kernel
theorem dX8_children_22 : decode cX8_children 22 = .ok (.ifnull 16, 3) := by decide +kernel
theorem dX8_children_25 : decode cX8_children 25 = .ok (.aload 4, 2) := by decide +kernel
theorem dX8_children_27 : decode cX8_children 27 = .ok (.getfield 49, 3) := by decide +kernel
theorem dX8_children_30 : decode cX8_children 30 = .ok (.iload_n 1, 1) := by decide +kernel
theorem dX8_children_31 : decode cX8_children 31 = .ok (.if_icmp .ne 7, 3) := by decide +kernel
theorem dX8_children_34 : decode cX8_children 34 = .ok (.iconst 1, 1) := by decide +kernel
theorem dX8_children_35 : decode cX8_children 35 = .ok (.goto 4, 3) := by decide +kernel
theorem dX8_children_38 : decode cX8_children 38 = .ok (.iconst 0, 1) := by decide +kernel
theorem dX8_children_39 : decode cX8_children 39 = .ok (.iadd, 1) := by decide +kernel
theorem dX8_children_40 : decode cX8_children 40 = .ok (.istore_n 2, 1) := by decide +kernel
theorem dX8_children_41 : decode cX8_children 41 = .ok (.iinc 3 1, 3) := by decide +kernel
theorem dX8_children_44 : decode cX8_children 44 = .ok (.goto (-40), 3) := by decide +kernel
theorem dX8_children_47 : decode cX8_children 47 = .ok (.iload_n 2, 1) := by decide +kernel
theorem dX8_children_48 : decode cX8_children 48 = .ok (.ireturn, 1) := by decide +kernel
theorem dX8_parentsAbove_0 : decode cX8_parentsAbove 0 = .ok (.iconst 0, 1) := by decide +kernel
theorem dX8_parentsAbove_1 : decode cX8_parentsAbove 1 = .ok (.istore_n 2, 1) := by decide +kernel
theorem dX8_parentsAbove_2 : decode cX8_parentsAbove 2 = .ok (.iload_n 1, 1) := by decide +kernel
theorem dX8_parentsAbove_3 : decode cX8_parentsAbove 3 = .ok (.istore_n 3, 1) := by decide +kernel
theorem dX8_parentsAbove_4 : decode cX8_parentsAbove 4 = .ok (.aload_n 0, 1) := by decide +kernel
theorem dX8_parentsAbove_5 : decode cX8_parentsAbove 5 = .ok (.getfield 18, 3) := by decide +kernel
theorem dX8_parentsAbove_8 : decode cX8_parentsAbove 8 = .ok (.iconst 1, 1) := by decide +kernel
theorem dX8_parentsAbove_9 : decode cX8_parentsAbove 9 = .ok (.isub, 1) := by decide +kernel
theorem dX8_parentsAbove_10 : decode cX8_parentsAbove 10 = .ok (.istore 4, 2) := by decide +kernel
theorem dX8_parentsAbove_12 : decode cX8_parentsAbove 12 = .ok (.iload 4, 2) := by decide +kernel
theorem dX8_parentsAbove_14 : decode cX8_parentsAbove 14 = .ok (.ifCond .lt 46, 3) := by decide +kernel
theorem dX8_parentsAbove_17 : decode cX8_parentsAbove 17 = .ok (.aload_n 0, 1) := by decide +kernel
theorem dX8_parentsAbove_18 : decode cX8_parentsAbove 18 = .ok (.iload 4, 2) := by decide +kernel
theorem dX8_parentsAbove_20 : decode cX8_parentsAbove 20 = .ok (.invokevirtual 25, 3) := by decide +kernel
theorem dX8_parentsAbove_23 : decode cX8_parentsAbove 23 = .ok (.astore 5, 2) := by decide +kernel
theorem dX8_parentsAbove_25 : decode cX8_parentsAbove 25 = .ok (.iload 4, 2) := by decide +kernel
theorem dX8_parentsAbove_27 : decode cX8_parentsAbove 27 = .ok (.iload_n 3, 1) := by decide +kernel
theorem dX8_parentsAbove_28 : decode cX8_parentsAbove 28 = .ok (.if_icmp .ne 26, 3) := by decide +kernel
theorem dX8_parentsAbove_31 : decode cX8_parentsAbove 31 = .ok (.aload 5, 2) := by decide +kernel
theorem dX8_parentsAbove_33 : decode cX8_parentsAbove 33 = .ok (.ifnull 21, 3) := by decide +kernel
theorem dX8_parentsAbove_36 : decode cX8_parentsAbove 36 = .ok (.aload 5, 2) := by decide +kernel
theorem dX8_parentsAbove_38 : decode cX8_parentsAbove 38 = .ok (.getfield 49, 3) := by decide +kernel
theorem dX8_parentsAbove_41 : decode cX8_parentsAbove 41 = .ok (.iconst (-1), 1) := by decide +kernel
theorem dX8_parentsAbove_42 : decode cX8_parentsAbove 42 = .ok (.if_icmp .eq 12, 3) := by decide +kernel
theorem dX8_parentsAbove_45 : decode cX8_parentsAbove 45 = .ok (.aload 5, 2) := by decide +kernel
theorem dX8_parentsAbove_47 : decode cX8_parentsAbove 47 = .ok (.getfield 49, 3) := by decide +kernel
theorem dX8_parentsAbove_50 : decode cX8_parentsAbove 50 = .ok (.istore_n 3, 1) := by decide +kernel
theorem dX8_parentsAbove_51 : decode cX8_parentsAbove 51 = .ok (.iinc 2 1, 3) := by decide +kernel
theorem dX8_parentsAbove_54 : decode cX8_parentsAbove 54 = .ok (.iinc 4 (-1), 3) := by decide +kernel
theorem dX8_parentsAbove_57 : decode cX8_parentsAbove 57 = .ok (.goto (-45), 3) := by decide +kernel
theorem dX8_parentsAbove_60 : decode cX8_parentsAbove 60 = .ok (.iload_n 2, 1) := by decide +kernel
theorem dX8_parentsAbove_61 : decode cX8_parentsAbove 61 = .ok (.ireturn, 1) := by decide +kernel
theorem dX8_owner_0 : decode cX8_owner 0 = .ok (.iconst (-1), 1) := by decide +kernel
theorem dX8_owner_1 : decode cX8_owner 1 = .ok (.istore_n 3, 1) := by decide +kernel
theorem dX8_owner_2 : decode cX8_owner 2 = .ok (.iconst 0, 1) := by decide +kernel
theorem dX8_owner_3 : decode cX8_owner 3 = .ok (.istore 4, 2) := by decide +kernel
theorem dX8_owner_5 : decode cX8_owner 5 = .ok (.iload 4, 2) := by decide +kernel
theorem dX8_owner_7 : decode cX8_owner 7 = .ok (.aload_n 0, 1) := by decide +kernel
theorem dX8_owner_8 : decode cX8_owner 8 = .ok (.getfield 18, 3) := by decide +kernel
theorem dX8_owner_11 : decode cX8_owner 11 = .ok (.if_icmp .ge 44, 3) := by decide +kernel
theorem dX8_owner_14 : decode cX8_owner 14 = .ok (.aload_n 0, 1) := by decide +kernel
theorem dX8_owner_15 : decode cX8_owner 15 = .ok (.iload 4, 2) := by decide +kernel
theorem dX8_owner_17 : decode cX8_owner 17 = .ok (.invokevirtual 25, 3) := by decide +kernel
theorem dX8_owner_20 : decode cX8_owner 20 = .ok (.astore 5, 2) := by decide +kernel
theorem dX8_owner_22 : decode cX8_owner 22 = .ok (.aload 5, 2) := by decide +kernel
theorem dX8_owner_24 : decode cX8_owner 24 = .ok (.ifnull 25, 3) := by decide +kernel
theorem dX8_owner_27 : decode cX8_owner 27 = .ok (.aload 5, 2) := by decide +kernel
theorem dX8_owner_29 : decode cX8_owner 29 = .ok (.getfield 49, 3) := by decide +kernel
theorem dX8_owner_32 : decode cX8_owner 32 = .ok (.iload_n 3, 1) := by decide +kernel
theorem dX8_owner_33 : decode cX8_owner 33 = .ok (.if_icmp .ne 16, 3) := by decide +kernel
theorem dX8_owner_36 : decode cX8_owner 36 = .ok (.aload 5, 2) := by decide +kernel
theorem dX8_owner_38 : decode cX8_owner 38 = .ok (.iload_n 1, 1) := by decide +kernel
theorem dX8_owner_39 : decode cX8_owner 39 = .ok (.iload_n 2, 1) := by decide +kernel
theorem dX8_owner_40 : decode cX8_owner 40 = .ok (.invokevirtual 68, 3) := by decide +kernel
theorem dX8_owner_43 : decode cX8_owner 43 = .ok (.ifCond .eq 6, 3) := by decide +kernel
theorem dX8_owner_46 : decode cX8_owner 46 = .ok (.iload 4, 2) := by decide +kernel
theorem dX8_owner_48 : decode cX8_owner 48 = .ok (.istore_n 3, 1) := by decide +kernel
theorem dX8_owner_49 : decode cX8_owner 49 = .ok (.iinc 4 1, 3) := by decide +kernel
theorem dX8_owner_52 : decode cX8_owner 52 = .ok (.goto (-47), 3) := by decide +kernel
theorem dX8_owner_55 : decode cX8_owner 55 = .ok (.iload_n 3, 1) := by decide +kernel
theorem dX8_owner_56 : decode cX8_owner 56 = .ok (.ireturn, 1) := by decide +kernel
theorem dX8_placeOffset_0 : decode cX8_placeOffset 0 = .ok (.aload_n 0, 1) := by decide +kernel
theorem dX8_placeOffset_1 : decode cX8_placeOffset 1 = .ok (.aload_n 0, 1) := by decide +kernel
theorem dX8_placeOffset_2 : decode cX8_placeOffset 2 = .ok (.iload_n 1, 1) := by decide +kernel
theorem dX8_placeOffset_3 : decode cX8_placeOffset 3 = .ok (.iload_n 2, 1) := by decide +kernel
theorem dX8_placeOffset_4 : decode cX8_placeOffset 4 = .ok (.invokevirtual 72, 3) := by decide +kernel
theorem dX8_placeOffset_7 : decode cX8_placeOffset 7 = .ok (.invokevirtual 25, 3) := by decide +kernel
theorem dX8_placeOffset_10 : decode cX8_placeOffset 10 = .ok (.astore 4, 2) := by decide +kernel
theorem dX8_placeOffset_12 : decode cX8_placeOffset 12 = .ok (.aload 4, 2) := by decide +kernel
theorem dX8_placeOffset_14 : decode cX8_placeOffset 14 = .ok (.ifnonnull 7, 3) := by decide +kernel
theorem dX8_placeOffset_17 : decode cX8_placeOffset 17 = .ok (.iconst 0, 1) := by decide +kernel
theorem dX8_placeOffset_18 : decode cX8_placeOffset 18 = .ok (.goto 15, 3) := by decide +kernel
theorem dX8_placeOffset_21 : decode cX8_placeOffset 21 = .ok (.aload 4, 2) := by decide +kernel
theorem dX8_placeOffset_23 : decode cX8_placeOffset 23 = .ok (.aload_n 0, 1) := by decide +kernel
theorem dX8_placeOffset_24 : decode cX8_placeOffset 24 = .ok (.getfield 22, 3) := by decide +kernel
theorem dX8_placeOffset_27 : decode cX8_placeOffset 27 = .ok (.iload_n 1, 1) := by decide +kernel
theorem dX8_placeOffset_28 : decode cX8_placeOffset 28 = .ok (.iload_n 2, 1) := by decide +kernel
theorem dX8_placeOffset_29 : decode cX8_placeOffset 29 = .ok (.iload_n 3, 1) := by decide +kernel
theorem dX8_placeOffset_30 : decode cX8_placeOffset 30 = .ok (.invokevirtual 75, 3) := by decide +kernel
theorem dX8_placeOffset_33 : decode cX8_placeOffset 33 = .ok (.ireturn, 1) := by decide +kernel
theorem dX9_init_0 : decode cX9_init 0 = .ok (.aload_n 0, 1) := by decide +kernel
theorem dX9_init_1 : decode cX9_init 1 = .ok (.invokespecial 3, 3) := by decide +kernel
theorem dX9_init_4 : decode cX9_init 4 = .ok (.aload_n 0, 1) := by decide +kernel
theorem dX9_init_5 : decode cX9_init 5 = .ok (.new 9, 3) := by decide +kernel
theorem dX9_init_8 : decode cX9_init 8 = .ok (.dup, 1) := by decide +kernel
theorem dX9_init_9 : decode cX9_init 9 = .ok (.invokespecial 11, 3) := by decide +kernel
theorem dX9_init_12 : decode cX9_init 12 = .ok (.putfield 12, 3) := by decide +kernel
theorem dX9_init_15 : decode cX9_init 15 = .ok (.aload_n 0, 1) := by decide +kernel
theorem dX9_init_16 : decode cX9_init 16 = .ok (.new 16, 3) := by decide +kernel
theorem dX9_init_19 : decode cX9_init 19 = .ok (.dup, 1) := by decide +kernel
theorem dX9_init_20 : decode cX9_init 20 = .ok (.invokespecial 18, 3) := by decide +kernel
theorem dX9_init_23 : decode cX9_init 23 = .ok (.putfield 19, 3) := by decide +kernel
theorem dX9_init_26 : decode cX9_init 26 = .ok (.aload_n 0, 1) := by decide +kernel
theorem dX9_init_27 : decode cX9_init 27 = .ok (.new 23, 3) := by decide +kernel
theorem dX9_init_30 : decode cX9_init 30 = .ok (.dup, 1) := by decide +kernel
theorem dX9_init_31 : decode cX9_init 31 = .ok (.invokespecial 25, 3) := by decide +kernel
theorem dX9_init_34 : decode cX9_init 34 = .ok (.putfield 26, 3) := by decide +kernel
theorem dX9_init_37 : decode cX9_init 37 = .ok (.aload_n 0, 1) := by decide +kernel
theorem dX9_init_38 : decode cX9_init 38 = .ok (.new 23, 3) := by decide +kernel
theorem dX9_init_41 : decode cX9_init 41 = .ok (.dup, 1) := by decide +kernel
theorem dX9_init_42 : decode cX9_init 42 = .ok (.invokespecial 25, 3) := by decide +kernel
theorem dX9_init_45 : decode cX9_init 45 = .ok (.putfield 30, 3) := by decide +kernel
theorem dX9_init_48 : decode cX9_init 48 = .ok (.aload_n 0, 1) := by decide +kernel
theorem dX9_init_49 : decode cX9_init 49 = .ok (.new 33, 3) := by decide +kernel
theorem dX9_init_52 : decode cX9_init 52 = .ok (.dup, 1) := by decide +kernel
theorem dX9_init_53 : decode cX9_init 53 = .ok (.invokespecial 35, 3) := by decide +kernel
theorem dX9_init_56 : decode cX9_init 56 = .ok (.putfield 36, 3) := by decide +kernel
theorem dX9_init_59 : decode cX9_init 59 = .ok (.aload_n 0, 1) := by decide +kernel
theorem dX9_init_60 : decode cX9_init 60 = .ok (.new 40, 3) := by decide +kernel
theorem dX9_init_63 : decode cX9_init 63 = .ok (.dup, 1) := by decide +kernel
theorem dX9_init_64 : decode cX9_init 64 = .ok (.invokespecial 42, 3) := by decide +kernel
theorem dX9_init_67 : decode cX9_init 67 = .ok (.putfield 43, 3) := by decide +kernel
theorem dX9_init_70 : decode cX9_init 70 = .ok (.aload_n 0, 1) := by decide +kernel
theorem dX9_init_71 : decode cX9_init 71 = .ok (.new 47, 3) := by decide +kernel
theorem dX9_init_74 : decode cX9_init 74 = .ok (.dup, 1) := by decide +kernel
theorem dX9_init_75 : decode cX9_init 75 = .ok (.invokespecial 49, 3) := by decide +kernel
theorem dX9_init_78 : decode cX9_init 78 = .ok (.putfield 50, 3) := by decide +kernel
theorem dX9_init_81 : decode cX9_init 81 = .ok (.aload_n 0, 1) := by decide +kernel
theorem dX9_init_82 : decode cX9_init 82 = .ok (.new 54, 3) := by decide +kernel
theorem dX9_init_85 : decode cX9_init 85 = .ok (.dup, 1) := by decide +kernel
theorem dX9_init_86 : decode cX9_init 86 = .ok (.invokespecial 56, 3) := by decide +kernel
theorem dX9_init_89 : decode cX9_init 89 = .ok (.putfield 57, 3) := by decide +kernel
theorem dX9_init_92 : decode cX9_init 92 = .ok (.return_, 1) := by decide +kernel
theorem dX9_told_0 : decode cX9_told 0 = .ok (.iload_n 1, 1) := by decide +kernel
theorem dX9_told_1 : decode cX9_told 1 = .ok (.tableswitch 162 0 11 #[63, 71, 79, 87, 92, 97, 102, 121, 126, 134, 146, 154], 63) := by decide +kernel
theorem dX9_told_64 : decode cX9_told 64 = .ok (.aload_n 0, 1) := by decide +kernel
theorem dX9_told_65 : decode cX9_told 65 = .ok (.getfield 12, 3) := by decide +kernel
theorem dX9_told_68 : decode cX9_told 68 = .ok (.invokevirtual 61, 3) := by decide +kernel
theorem dX9_told_71 : decode cX9_told 71 = .ok (.ireturn, 1) := by decide +kernel
theorem dX9_told_72 : decode cX9_told 72 = .ok (.aload_n 0, 1) := by decide +kernel
theorem dX9_told_73 : decode cX9_told 73 = .ok (.getfield 12, 3) := by decide +kernel
theorem dX9_told_76 : decode cX9_told 76 = .ok (.invokevirtual 65, 3) := by decide +kernel
theorem dX9_told_79 : decode cX9_told 79 = .ok (.ireturn, 1) := by decide +kernel
theorem dX9_told_80 : decode cX9_told 80 = .ok (.aload_n 0, 1) := by decide +kernel
theorem dX9_told_81 : decode cX9_told 81 = .ok (.getfield 12, 3) := by decide +kernel
theorem dX9_told_84 : decode cX9_told 84 = .ok (.invokevirtual 68, 3) := by decide +kernel
theorem dX9_told_87 : decode cX9_told 87 = .ok (.ireturn, 1) := by decide +kernel
theorem dX9_told_88 : decode cX9_told 88 = .ok (.aload_n 0, 1) := by decide +kernel
theorem dX9_told_89 : decode cX9_told 89 = .ok (.invokevirtual 71, 3) := by decide +kernel
theorem dX9_told_92 : decode cX9_told 92 = .ok (.ireturn, 1) := by decide +kernel
theorem dX9_told_93 : decode cX9_told 93 = .ok (.aload_n 0, 1) := by decide +kernel
theorem dX9_told_94 : decode cX9_told 94 = .ok (.invokevirtual 74, 3) := by decide +kernel
theorem dX9_told_97 : decode cX9_told 97 = .ok (.ireturn, 1) := by decide +kernel
theorem dX9_told_98 : decode cX9_told 98 = .ok (.aload_n 0, 1) := by decide +kernel
theorem dX9_told_99 : decode cX9_told 99 = .ok (.invokevirtual 77, 3) := by decide +kernel
theorem dX9_told_102 : decode cX9_told 102 = .ok (.ireturn, 1) := by decide +kernel
theorem dX9_told_103 : decode cX9_told 103 = .ok (.aload_n 0, 1) := by decide +kernel
theorem dX9_told_104 : decode cX9_told 104 = .ok (.getfield 12, 3) := by decide +kernel
theorem dX9_told_107 : decode cX9_told 107 = .ok (.aload_n 0, 1) := by decide +kernel
theorem dX9_told_108 : decode cX9_told 108 = .ok (.getfield 12, 3) := by decide +kernel
theorem dX9_told_111 : decode cX9_told 111 = .ok (.aload_n 0, 1) := by decide +kernel
theorem dX9_told_112 : decode cX9_told 112 = .ok (.invokevirtual 80, 3) := by decide +kernel
theorem dX9_told_115 : decode cX9_told 115 = .ok (.invokevirtual 83, 3) := by decide +kernel
theorem dX9_told_118 : decode cX9_told 118 = .ok (.invokestatic 87, 3) := by decide +kernel
theorem dX9_told_121 : decode cX9_told 121 = .ok (.ireturn, 1) := by decide +kernel
theorem dX9_told_122 : decode cX9_told 122 = .ok (.aload_n 0, 1) := by decide +kernel
theorem dX9_told_123 : decode cX9_told 123 = .ok (.invokevirtual 80, 3) := by decide +kernel
theorem dX9_told_126 : decode cX9_told 126 = .ok (.ireturn, 1) := by decide +kernel
theorem dX9_told_127 : decode cX9_told 127 = .ok (.aload_n 0, 1) := by decide +kernel
theorem dX9_told_128 : decode cX9_told 128 = .ok (.getfield 36, 3) := by decide +kernel
theorem dX9_told_131 : decode cX9_told 131 = .ok (.invokevirtual 93, 3) := by decide +kernel
theorem dX9_told_134 : decode cX9_told 134 = .ok (.ireturn, 1) := by decide +kernel
theorem dX9_told_135 : decode cX9_told 135 = .ok (.aload_n 0, 1) := by decide +kernel
theorem dX9_told_136 : decode cX9_told 136 = .ok (.getfield 36, 3) := by decide +kernel
theorem dX9_told_139 : decode cX9_told 139 = .ok (.aload_n 0, 1) := by decide +kernel
theorem dX9_told_140 : decode cX9_told 140 = .ok (.getfield 12, 3) := by decide +kernel
theorem dX9_told_143 : decode cX9_told 143 = .ok (.invokevirtual 94, 3) := by decide +kernel
theorem dX9_told_146 : decode cX9_told 146 = .ok (.ireturn, 1) := by decide +kernel
theorem dX9_told_147 : decode cX9_told 147 = .ok (.aload_n 0, 1) := by decide +kernel
theorem dX9_told_148 : decode cX9_told 148 = .ok (.getfield 19, 3) := by decide +kernel
theorem dX9_told_151 : decode cX9_told 151 = .ok (.invokevirtual 98, 3) := by decide +kernel
theorem dX9_told_154 : decode cX9_told 154 = .ok (.ireturn, 1) := by decide +kernel
theorem dX9_told_155 : decode cX9_told 155 = .ok (.aload_n 0, 1) := by decide +kernel
theorem dX9_told_156 : decode cX9_told 156 = .ok (.getfield 43, 3) := by decide +kernel
theorem dX9_told_159 : decode cX9_told 159 = .ok (.invokevirtual 99, 3) := by decide +kernel
theorem dX9_told_162 : decode cX9_told 162 = .ok (.ireturn, 1) := by decide +kernel
theorem dX9_told_163 : decode cX9_told 163 = .ok (.ldc 102, 2) := by decide +kernel
theorem dX9_told_165 : decode cX9_told 165 = .ok (.ireturn, 1) := by decide +kernel
theorem dX9_gridAt_0 : decode cX9_gridAt 0 = .ok (.aload_n 0, 1) := by decide +kernel
theorem dX9_gridAt_1 : decode cX9_gridAt 1 = .ok (.getfield 12, 3) := by decide +kernel
theorem dX9_gridAt_4 : decode cX9_gridAt 4 = .ok (.iload_n 1, 1) := by decide +kernel
theorem dX9_gridAt_5 : decode cX9_gridAt 5 = .ok (.invokevirtual 83, 3) := by decide +kernel
theorem dX9_gridAt_8 : decode cX9_gridAt 8 = .ok (.astore_n 3, 1) := by decide +kernel
theorem dX9_gridAt_9 : decode cX9_gridAt 9 = .ok (.aload_n 3, 1) := by decide +kernel
theorem dX9_gridAt_10 : decode cX9_gridAt 10 = .ok (.ifnonnull 6, 3) := by decide +kernel
theorem dX9_gridAt_13 : decode cX9_gridAt 13 = .ok (.ldc 103, 2) := by decide +kernel
theorem dX9_gridAt_15 : decode cX9_gridAt 15 = .ok (.ireturn, 1) := by decide +kernel
theorem dX9_gridAt_16 : decode cX9_gridAt 16 = .ok (.iload_n 2, 1) := by decide +kernel
theorem dX9_gridAt_17 : decode cX9_gridAt 17 = .ok (.tableswitch 131 0 10 #[59, 64, 69, 74, 79, 84, 89, 98, 107, 116, 125], 59) := by decide +kernel
theorem dX9_gridAt_76 : decode cX9_gridAt 76 = .ok (.aload_n 3, 1) := by decide +kernel
theorem dX9_gridAt_77 : decode cX9_gridAt 77 = .ok (.getfield 104, 3) := by decide +kernel
theorem dX9_gridAt_80 : decode cX9_gridAt 80 = .ok (.ireturn, 1) := by decide +kernel
theorem dX9_gridAt_81 : decode cX9_gridAt 81 = .ok (.aload_n 3, 1) := by decide +kernel
theorem dX9_gridAt_82 : decode cX9_gridAt 82 = .ok (.getfield 110, 3) := by decide +kernel
theorem dX9_gridAt_85 : decode cX9_gridAt 85 = .ok (.ireturn, 1) := by decide +kernel
theorem dX9_gridAt_86 : decode cX9_gridAt 86 = .ok (.aload_n 3, 1) := by decide +kernel
theorem dX9_gridAt_87 : decode cX9_gridAt 87 = .ok (.getfield 113, 3) := by decide +kernel
theorem dX9_gridAt_90 : decode cX9_gridAt 90 = .ok (.ireturn, 1) := by decide +kernel
theorem dX9_gridAt_91 : decode cX9_gridAt 91 = .ok (.aload_n 3, 1) := by decide +kernel
theorem dX9_gridAt_92 : decode cX9_gridAt 92 = .ok (.getfield 116, 3) := by decide +kernel
theorem dX9_gridAt_95 : decode cX9_gridAt 95 = .ok (.ireturn, 1) := by decide +kernel
theorem dX9_gridAt_96 : decode cX9_gridAt 96 = .ok (.aload_n 3, 1) := by decide +kernel
theorem dX9_gridAt_97 : decode cX9_gridAt 97 = .ok (.getfield 119, 3) := by decide +kernel
theorem dX9_gridAt_100 : decode cX9_gridAt 100 = .ok (.ireturn, 1) := by decide +kernel
theorem dX9_gridAt_101 : decode cX9_gridAt 101 = .ok (.aload_n 3, 1) := by decide +kernel
theorem dX9_gridAt_102 : decode cX9_gridAt 102 = .ok (.getfield 122, 3) := by decide +kernel
theorem dX9_gridAt_105 : decode cX9_gridAt 105 = .ok (.ireturn, 1) := by decide +kernel
theorem dX9_gridAt_106 : decode cX9_gridAt 106 = .ok (.aload_n 0, 1) := by decide +kernel
theorem dX9_gridAt_107 : decode cX9_gridAt 107 = .ok (.getfield 12, 3) := by decide +kernel
theorem dX9_gridAt_110 : decode cX9_gridAt 110 = .ok (.iload_n 1, 1) := by decide +kernel
theorem dX9_gridAt_111 : decode cX9_gridAt 111 = .ok (.invokevirtual 125, 3) := by decide +kernel
theorem dX9_gridAt_114 : decode cX9_gridAt 114 = .ok (.ireturn, 1) := by decide +kernel
theorem dX9_gridAt_115 : decode cX9_gridAt 115 = .ok (.aload_n 0, 1) := by decide +kernel
theorem dX9_gridAt_116 : decode cX9_gridAt 116 = .ok (.getfield 12, 3) := by decide +kernel
theorem dX9_gridAt_119 : decode cX9_gridAt 119 = .ok (.iload_n 1, 1) := by decide +kernel
theorem dX9_gridAt_120 : decode cX9_gridAt 120 = .ok (.invokevirtual 129, 3) := by decide +kernel
theorem dX9_gridAt_123 : decode cX9_gridAt 123 = .ok (.ireturn, 1) := by decide +kernel
theorem dX9_gridAt_124 : decode cX9_gridAt 124 = .ok (.aload_n 0, 1) := by decide +kernel
theorem dX9_gridAt_125 : decode cX9_gridAt 125 = .ok (.getfield 12, 3) := by decide +kernel
theorem dX9_gridAt_128 : decode cX9_gridAt 128 = .ok (.aload_n 3, 1) := by decide +kernel
theorem dX9_gridAt_129 : decode cX9_gridAt 129 = .ok (.invokestatic 132, 3) := by decide +kernel
theorem dX9_gridAt_132 : decode cX9_gridAt 132 = .ok (.ireturn, 1) := by decide +kernel
theorem dX9_gridAt_133 : decode cX9_gridAt 133 = .ok (.aload_n 0, 1) := by decide +kernel
theorem dX9_gridAt_134 : decode cX9_gridAt 134 = .ok (.getfield 12, 3) := by decide +kernel
theorem dX9_gridAt_137 : decode cX9_gridAt 137 = .ok (.aload_n 3, 1) := by decide +kernel
theorem dX9_gridAt_138 : decode cX9_gridAt 138 = .ok (.invokestatic 87, 3) := by decide +kernel
theorem dX9_gridAt_141 : decode cX9_gridAt 141 = .ok (.ireturn, 1) := by decide +kernel
theorem dX9_gridAt_142 : decode cX9_gridAt 142 = .ok (.aload_n 0, 1) := by decide +kernel
theorem dX9_gridAt_143 : decode cX9_gridAt 143 = .ok (.aload_n 3, 1) := by decide +kernel
theorem dX9_gridAt_144 : decode cX9_gridAt 144 = .ok (.invokevirtual 135, 3) := by decide +kernel
theorem dX9_gridAt_147 : decode cX9_gridAt 147 = .ok (.ireturn, 1) := by decide +kernel
theorem dX9_gridAt_148 : decode cX9_gridAt 148 = .ok (.ldc 102, 2) := by decide +kernel
theorem dX9_gridAt_150 : decode cX9_gridAt 150 = .ok (.ireturn, 1) := by decide +kernel
theorem dX9_nodeAt_0 : decode cX9_nodeAt 0 = .ok (.aload_n 0, 1) := by decide +kernel
theorem dX9_nodeAt_1 : decode cX9_nodeAt 1 = .ok (.getfield 12, 3) := by decide +kernel
theorem dX9_nodeAt_4 : decode cX9_nodeAt 4 = .ok (.iload_n 1, 1) := by decide +kernel
theorem dX9_nodeAt_5 : decode cX9_nodeAt 5 = .ok (.invokevirtual 83, 3) := by decide +kernel
theorem dX9_nodeAt_8 : decode cX9_nodeAt 8 = .ok (.astore 5, 2) := by decide +kernel
theorem dX9_nodeAt_10 : decode cX9_nodeAt 10 = .ok (.aload 5, 2) := by decide +kernel
theorem dX9_nodeAt_12 : decode cX9_nodeAt 12 = .ok (.ifnull 13, 3) := by decide +kernel
theorem dX9_nodeAt_15 : decode cX9_nodeAt 15 = .ok (.aload 5, 2) := by decide +kernel
theorem dX9_nodeAt_17 : decode cX9_nodeAt 17 = .ok (.iload_n 2, 1) := by decide +kernel
theorem dX9_nodeAt_18 : decode cX9_nodeAt 18 = .ok (.iload_n 3, 1) := by decide +kernel
theorem dX9_nodeAt_19 : decode cX9_nodeAt 19 = .ok (.invokevirtual 139, 3) := by decide +kernel
theorem dX9_nodeAt_22 : decode cX9_nodeAt 22 = .ok (.ifCond .ne 6, 3) := by decide +kernel
theorem dX9_nodeAt_25 : decode cX9_nodeAt 25 = .ok (.ldc 103, 2) := by decide +kernel
theorem dX9_nodeAt_27 : decode cX9_nodeAt 27 = .ok (.ireturn, 1) := by decide +kernel
theorem dX9_nodeAt_28 : decode cX9_nodeAt 28 = .ok (.iload 4, 2) := by decide +kernel
theorem dX9_nodeAt_30 : decode cX9_nodeAt 30 = .ok (.iconst 0, 1) := by decide +kernel
theorem dX9_nodeAt_31 : decode cX9_nodeAt 31 = .ok (.iconst 3, 1) := by decide +kernel
theorem dX9_nodeAt_32 : decode cX9_nodeAt 32 = .ok (.invokestatic 143, 3) := by decide +kernel
theorem dX9_nodeAt_35 : decode cX9_nodeAt 35 = .ok (.ifCond .ne 6, 3) := by decide +kernel
theorem dX9_nodeAt_38 : decode cX9_nodeAt 38 = .ok (.ldc 102, 2) := by decide +kernel
theorem dX9_nodeAt_40 : decode cX9_nodeAt 40 = .ok (.ireturn, 1) := by decide +kernel
theorem dX9_nodeAt_41 : decode cX9_nodeAt 41 = .ok (.iload 4, 2) := by decide +kernel
theorem dX9_nodeAt_43 : decode cX9_nodeAt 43 = .ok (.iconst 1, 1) := by decide +kernel
theorem dX9_nodeAt_44 : decode cX9_nodeAt 44 = .ok (.if_icmp .gt 24, 3) := by decide +kernel
theorem dX9_nodeAt_47 : decode cX9_nodeAt 47 = .ok (.aload 5, 2) := by decide +kernel
theorem dX9_nodeAt_49 : decode cX9_nodeAt 49 = .ok (.iload_n 2, 1) := by decide +kernel
theorem dX9_nodeAt_50 : decode cX9_nodeAt 50 = .ok (.iload_n 3, 1) := by decide +kernel
theorem dX9_nodeAt_51 : decode cX9_nodeAt 51 = .ok (.iload 4, 2) := by decide +kernel
theorem dX9_nodeAt_53 : decode cX9_nodeAt 53 = .ok (.ifCond .ne 7, 3) := by decide +kernel
theorem dX9_nodeAt_56 : decode cX9_nodeAt 56 = .ok (.iconst 0, 1) := by decide +kernel
theorem dX9_nodeAt_57 : decode cX9_nodeAt 57 = .ok (.goto 4, 3) := by decide +kernel
theorem dX9_nodeAt_60 : decode cX9_nodeAt 60 = .ok (.iconst 1, 1) := by decide +kernel
theorem dX9_nodeAt_61 : decode cX9_nodeAt 61 = .ok (.invokevirtual 147, 3) := by decide +kernel
theorem dX9_nodeAt_64 : decode cX9_nodeAt 64 = .ok (.ldc 151, 2) := by decide +kernel
theorem dX9_nodeAt_66 : decode cX9_nodeAt 66 = .ok (.iadd, 1) := by decide +kernel
theorem dX9_nodeAt_67 : decode cX9_nodeAt 67 = .ok (.ireturn, 1) := by decide +kernel
theorem dX9_nodeAt_68 : decode cX9_nodeAt 68 = .ok (.aload_n 0, 1) := by decide +kernel
theorem dX9_nodeAt_69 : decode cX9_nodeAt 69 = .ok (.getfield 12, 3) := by decide +kernel
theorem dX9_nodeAt_72 : decode cX9_nodeAt 72 = .ok (.aload 5, 2) := by decide +kernel
theorem dX9_nodeAt_74 : decode cX9_nodeAt 74 = .ok (.getfield 104, 3) := by decide +kernel
theorem dX9_nodeAt_77 : decode cX9_nodeAt 77 = .ok (.invokevirtual 83, 3) := by decide +kernel
theorem dX9_nodeAt_80 : decode cX9_nodeAt 80 = .ok (.astore 6, 2) := by decide +kernel
theorem dX9_nodeAt_82 : decode cX9_nodeAt 82 = .ok (.aload 6, 2) := by decide +kernel
theorem dX9_nodeAt_84 : decode cX9_nodeAt 84 = .ok (.ifnonnull 5, 3) := by decide +kernel
theorem dX9_nodeAt_87 : decode cX9_nodeAt 87 = .ok (.iconst (-1), 1) := by decide +kernel
theorem dX9_nodeAt_88 : decode cX9_nodeAt 88 = .ok (.ireturn, 1) := by decide +kernel
theorem dX9_nodeAt_89 : decode cX9_nodeAt 89 = .ok (.aload 6, 2) := by decide +kernel
theorem dX9_nodeAt_91 : decode cX9_nodeAt 91 = .ok (.aload_n 0, 1) := by decide +kernel
theorem dX9_nodeAt_92 : decode cX9_nodeAt 92 = .ok (.getfield 12, 3) := by decide +kernel
theorem dX9_nodeAt_95 : decode cX9_nodeAt 95 = .ok (.invokevirtual 65, 3) := by decide +kernel
theorem dX9_nodeAt_98 : decode cX9_nodeAt 98 = .ok (.aload 5, 2) := by decide +kernel
theorem dX9_nodeAt_100 : decode cX9_nodeAt 100 = .ok (.iload_n 2, 1) := by decide +kernel
theorem dX9_nodeAt_101 : decode cX9_nodeAt 101 = .ok (.invokevirtual 152, 3) := by decide +kernel
theorem dX9_nodeAt_104 : decode cX9_nodeAt 104 = .ok (.aload 5, 2) := by decide +kernel
theorem dX9_nodeAt_106 : decode cX9_nodeAt 106 = .ok (.iload_n 3, 1) := by decide +kernel
theorem dX9_nodeAt_107 : decode cX9_nodeAt 107 = .ok (.invokevirtual 155, 3) := by decide +kernel
theorem dX9_nodeAt_110 : decode cX9_nodeAt 110 = .ok (.iload 4, 2) := by decide +kernel
theorem dX9_nodeAt_112 : decode cX9_nodeAt 112 = .ok (.iconst 2, 1) := by decide +kernel
theorem dX9_nodeAt_113 : decode cX9_nodeAt 113 = .ok (.if_icmp .ne 7, 3) := by decide +kernel
theorem dX9_nodeAt_116 : decode cX9_nodeAt 116 = .ok (.iconst 0, 1) := by decide +kernel
theorem dX9_nodeAt_117 : decode cX9_nodeAt 117 = .ok (.goto 4, 3) := by decide +kernel
