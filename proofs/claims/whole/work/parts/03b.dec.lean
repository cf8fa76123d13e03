theorem dX9_nodeAt_120 : decode cX9_nodeAt 120 = .ok (.iconst 1, 1) := by decide +kernel
theorem dX9_nodeAt_121 : decode cX9_nodeAt 121 = .ok (.invokevirtual 158, 3) := by decide +kernel
theorem dX9_nodeAt_124 : decode cX9_nodeAt 124 = .ok (.ldc 151, 2) := by decide +kernel
theorem dX9_nodeAt_126 : decode cX9_nodeAt 126 = .ok (.iadd, 1) := by decide +kernel
theorem dX9_nodeAt_127 : decode cX9_nodeAt 127 = .ok (.ireturn, 1) := by decide +kernel
theorem dX9_cellAt_0 : decode cX9_cellAt 0 = .ok (.aload_n 0, 1) := by decide +kernel
theorem dX9_cellAt_1 : decode cX9_cellAt 1 = .ok (.getfield 12, 3) := by decide +kernel
theorem dX9_cellAt_4 : decode cX9_cellAt 4 = .ok (.iload_n 1, 1) := by decide +kernel
theorem dX9_cellAt_5 : decode cX9_cellAt 5 = .ok (.invokevirtual 83, 3) := by decide +kernel
theorem dX9_cellAt_8 : decode cX9_cellAt 8 = .ok (.astore 5, 2) := by decide +kernel
theorem dX9_cellAt_10 : decode cX9_cellAt 10 = .ok (.aload 5, 2) := by decide +kernel
theorem dX9_cellAt_12 : decode cX9_cellAt 12 = .ok (.ifnull 13, 3) := by decide +kernel
theorem dX9_cellAt_15 : decode cX9_cellAt 15 = .ok (.aload 5, 2) := by decide +kernel
theorem dX9_cellAt_17 : decode cX9_cellAt 17 = .ok (.iload_n 2, 1) := by decide +kernel
theorem dX9_cellAt_18 : decode cX9_cellAt 18 = .ok (.iload_n 3, 1) := by decide +kernel
theorem dX9_cellAt_19 : decode cX9_cellAt 19 = .ok (.invokevirtual 162, 3) := by decide +kernel
theorem dX9_cellAt_22 : decode cX9_cellAt 22 = .ok (.ifCond .ne 7, 3) := by decide +kernel
theorem dX9_cellAt_25 : decode cX9_cellAt 25 = .ok (.ldc2_w 165, 3) := by decide +kernel
theorem dX9_cellAt_28 : decode cX9_cellAt 28 = .ok (.lreturn, 1) := by decide +kernel
theorem dX9_cellAt_29 : decode cX9_cellAt 29 = .ok (.aload_n 0, 1) := by decide +kernel
theorem dX9_cellAt_30 : decode cX9_cellAt 30 = .ok (.getfield 57, 3) := by decide +kernel
theorem dX9_cellAt_33 : decode cX9_cellAt 33 = .ok (.aload 5, 2) := by decide +kernel
theorem dX9_cellAt_35 : decode cX9_cellAt 35 = .ok (.iload_n 2, 1) := by decide +kernel
theorem dX9_cellAt_36 : decode cX9_cellAt 36 = .ok (.iload_n 3, 1) := by decide +kernel
theorem dX9_cellAt_37 : decode cX9_cellAt 37 = .ok (.invokevirtual 167, 3) := by decide +kernel
theorem dX9_cellAt_40 : decode cX9_cellAt 40 = .ok (.iload 4, 2) := by decide +kernel
theorem dX9_cellAt_42 : decode cX9_cellAt 42 = .ok (.tableswitch 79 0 3 #[30, 39, 55, 71], 30) := by decide +kernel
theorem dX9_cellAt_72 : decode cX9_cellAt 72 = .ok (.aload_n 0, 1) := by decide +kernel
theorem dX9_cellAt_73 : decode cX9_cellAt 73 = .ok (.getfield 57, 3) := by decide +kernel
theorem dX9_cellAt_76 : decode cX9_cellAt 76 = .ok (.invokevirtual 171, 3) := by decide +kernel
theorem dX9_cellAt_79 : decode cX9_cellAt 79 = .ok (.i2l, 1) := by decide +kernel
theorem dX9_cellAt_80 : decode cX9_cellAt 80 = .ok (.lreturn, 1) := by decide +kernel
theorem dX9_cellAt_81 : decode cX9_cellAt 81 = .ok (.aload_n 0, 1) := by decide +kernel
theorem dX9_cellAt_82 : decode cX9_cellAt 82 = .ok (.getfield 57, 3) := by decide +kernel
theorem dX9_cellAt_85 : decode cX9_cellAt 85 = .ok (.invokevirtual 174, 3) := by decide +kernel
theorem dX9_cellAt_88 : decode cX9_cellAt 88 = .ok (.ifCond .eq 7, 3) := by decide +kernel
theorem dX9_cellAt_91 : decode cX9_cellAt 91 = .ok (.lconst 1, 1) := by decide +kernel
theorem dX9_cellAt_92 : decode cX9_cellAt 92 = .ok (.goto 4, 3) := by decide +kernel
theorem dX9_cellAt_95 : decode cX9_cellAt 95 = .ok (.lconst 0, 1) := by decide +kernel
theorem dX9_cellAt_96 : decode cX9_cellAt 96 = .ok (.lreturn, 1) := by decide +kernel
theorem dX9_cellAt_97 : decode cX9_cellAt 97 = .ok (.aload_n 0, 1) := by decide +kernel
theorem dX9_cellAt_98 : decode cX9_cellAt 98 = .ok (.getfield 57, 3) := by decide +kernel
theorem dX9_cellAt_101 : decode cX9_cellAt 101 = .ok (.invokevirtual 178, 3) := by decide +kernel
theorem dX9_cellAt_104 : decode cX9_cellAt 104 = .ok (.ifCond .eq 7, 3) := by decide +kernel
theorem dX9_cellAt_107 : decode cX9_cellAt 107 = .ok (.lconst 1, 1) := by decide +kernel
theorem dX9_cellAt_108 : decode cX9_cellAt 108 = .ok (.goto 4, 3) := by decide +kernel
theorem dX9_cellAt_111 : decode cX9_cellAt 111 = .ok (.lconst 0, 1) := by decide +kernel
theorem dX9_cellAt_112 : decode cX9_cellAt 112 = .ok (.lreturn, 1) := by decide +kernel
theorem dX9_cellAt_113 : decode cX9_cellAt 113 = .ok (.aload_n 0, 1) := by decide +kernel
theorem dX9_cellAt_114 : decode cX9_cellAt 114 = .ok (.getfield 57, 3) := by decide +kernel
theorem dX9_cellAt_117 : decode cX9_cellAt 117 = .ok (.invokevirtual 181, 3) := by decide +kernel
theorem dX9_cellAt_120 : decode cX9_cellAt 120 = .ok (.lreturn, 1) := by decide +kernel
theorem dX9_cellAt_121 : decode cX9_cellAt 121 = .ok (.ldc2_w 185, 3) := by decide +kernel
theorem dX9_cellAt_124 : decode cX9_cellAt 124 = .ok (.lreturn, 1) := by decide +kernel
theorem dX9_which_0 : decode cX9_which 0 = .ok (.iload_n 1, 1) := by decide +kernel
theorem dX9_which_1 : decode cX9_which 1 = .ok (.iload_n 2, 1) := by decide +kernel
theorem dX9_which_2 : decode cX9_which 2 = .ok (.invokestatic 187, 3) := by decide +kernel
theorem dX9_which_5 : decode cX9_which 5 = .ok (.ifCond .eq 15, 3) := by decide +kernel
theorem dX9_which_8 : decode cX9_which 8 = .ok (.aload_n 0, 1) := by decide +kernel
theorem dX9_which_9 : decode cX9_which 9 = .ok (.getfield 12, 3) := by decide +kernel
theorem dX9_which_12 : decode cX9_which 12 = .ok (.iload_n 1, 1) := by decide +kernel
theorem dX9_which_13 : decode cX9_which 13 = .ok (.iload_n 2, 1) := by decide +kernel
theorem dX9_which_14 : decode cX9_which 14 = .ok (.invokevirtual 190, 3) := by decide +kernel
theorem dX9_which_17 : decode cX9_which 17 = .ok (.goto 5, 3) := by decide +kernel
theorem dX9_which_20 : decode cX9_which 20 = .ok (.ldc 102, 2) := by decide +kernel
theorem dX9_which_22 : decode cX9_which 22 = .ok (.ireturn, 1) := by decide +kernel
theorem dX9_moved_0 : decode cX9_moved 0 = .ok (.iload_n 1, 1) := by decide +kernel
theorem dX9_moved_1 : decode cX9_moved 1 = .ok (.iload_n 2, 1) := by decide +kernel
theorem dX9_moved_2 : decode cX9_moved 2 = .ok (.invokestatic 187, 3) := by decide +kernel
theorem dX9_moved_5 : decode cX9_moved 5 = .ok (.ifCond .eq 12, 3) := by decide +kernel
theorem dX9_moved_8 : decode cX9_moved 8 = .ok (.iload_n 3, 1) := by decide +kernel
theorem dX9_moved_9 : decode cX9_moved 9 = .ok (.iconst 0, 1) := by decide +kernel
theorem dX9_moved_10 : decode cX9_moved 10 = .ok (.iconst 1, 1) := by decide +kernel
theorem dX9_moved_11 : decode cX9_moved 11 = .ok (.invokestatic 143, 3) := by decide +kernel
theorem dX9_moved_14 : decode cX9_moved 14 = .ok (.ifCond .ne 6, 3) := by decide +kernel
theorem dX9_moved_17 : decode cX9_moved 17 = .ok (.ldc 102, 2) := by decide +kernel
theorem dX9_moved_19 : decode cX9_moved 19 = .ok (.ireturn, 1) := by decide +kernel
theorem dX9_moved_20 : decode cX9_moved 20 = .ok (.iload_n 3, 1) := by decide +kernel
theorem dX9_moved_21 : decode cX9_moved 21 = .ok (.ifCond .ne 19, 3) := by decide +kernel
theorem dX9_moved_24 : decode cX9_moved 24 = .ok (.iload_n 1, 1) := by decide +kernel
theorem dX9_moved_25 : decode cX9_moved 25 = .ok (.aload_n 0, 1) := by decide +kernel
theorem dX9_moved_26 : decode cX9_moved 26 = .ok (.getfield 12, 3) := by decide +kernel
theorem dX9_moved_29 : decode cX9_moved 29 = .ok (.iload_n 1, 1) := by decide +kernel
theorem dX9_moved_30 : decode cX9_moved 30 = .ok (.iload_n 2, 1) := by decide +kernel
theorem dX9_moved_31 : decode cX9_moved 31 = .ok (.iconst 0, 1) := by decide +kernel
theorem dX9_moved_32 : decode cX9_moved 32 = .ok (.invokevirtual 194, 3) := by decide +kernel
theorem dX9_moved_35 : decode cX9_moved 35 = .ok (.iadd, 1) := by decide +kernel
theorem dX9_moved_36 : decode cX9_moved 36 = .ok (.ldc 151, 2) := by decide +kernel
theorem dX9_moved_38 : decode cX9_moved 38 = .ok (.iadd, 1) := by decide +kernel
theorem dX9_moved_39 : decode cX9_moved 39 = .ok (.ireturn, 1) := by decide +kernel
theorem dX9_moved_40 : decode cX9_moved 40 = .ok (.iload_n 2, 1) := by decide +kernel
theorem dX9_moved_41 : decode cX9_moved 41 = .ok (.aload_n 0, 1) := by decide +kernel
theorem dX9_moved_42 : decode cX9_moved 42 = .ok (.getfield 12, 3) := by decide +kernel
theorem dX9_moved_45 : decode cX9_moved 45 = .ok (.iload_n 1, 1) := by decide +kernel
theorem dX9_moved_46 : decode cX9_moved 46 = .ok (.iload_n 2, 1) := by decide +kernel
theorem dX9_moved_47 : decode cX9_moved 47 = .ok (.iconst 1, 1) := by decide +kernel
theorem dX9_moved_48 : decode cX9_moved 48 = .ok (.invokevirtual 194, 3) := by decide +kernel
theorem dX9_moved_51 : decode cX9_moved 51 = .ok (.iadd, 1) := by decide +kernel
theorem dX9_moved_52 : decode cX9_moved 52 = .ok (.ldc 151, 2) := by decide +kernel
theorem dX9_moved_54 : decode cX9_moved 54 = .ok (.iadd, 1) := by decide +kernel
theorem dX9_moved_55 : decode cX9_moved 55 = .ok (.ireturn, 1) := by decide +kernel
theorem dX9_back_0 : decode cX9_back 0 = .ok (.iload_n 1, 1) := by decide +kernel
theorem dX9_back_1 : decode cX9_back 1 = .ok (.iload_n 2, 1) := by decide +kernel
theorem dX9_back_2 : decode cX9_back 2 = .ok (.invokestatic 197, 3) := by decide +kernel
theorem dX9_back_5 : decode cX9_back 5 = .ok (.ifCond .eq 12, 3) := by decide +kernel
theorem dX9_back_8 : decode cX9_back 8 = .ok (.iload_n 3, 1) := by decide +kernel
theorem dX9_back_9 : decode cX9_back 9 = .ok (.iconst 0, 1) := by decide +kernel
theorem dX9_back_10 : decode cX9_back 10 = .ok (.iconst 3, 1) := by decide +kernel
theorem dX9_back_11 : decode cX9_back 11 = .ok (.invokestatic 143, 3) := by decide +kernel
theorem dX9_back_14 : decode cX9_back 14 = .ok (.ifCond .ne 6, 3) := by decide +kernel
theorem dX9_back_17 : decode cX9_back 17 = .ok (.ldc 102, 2) := by decide +kernel
theorem dX9_back_19 : decode cX9_back 19 = .ok (.ireturn, 1) := by decide +kernel
theorem dX9_back_20 : decode cX9_back 20 = .ok (.aload_n 0, 1) := by decide +kernel
theorem dX9_back_21 : decode cX9_back 21 = .ok (.getfield 50, 3) := by decide +kernel
theorem dX9_back_24 : decode cX9_back 24 = .ok (.aload_n 0, 1) := by decide +kernel
theorem dX9_back_25 : decode cX9_back 25 = .ok (.getfield 12, 3) := by decide +kernel
theorem dX9_back_28 : decode cX9_back 28 = .ok (.iload_n 1, 1) := by decide +kernel
theorem dX9_back_29 : decode cX9_back 29 = .ok (.iload_n 2, 1) := by decide +kernel
theorem dX9_back_30 : decode cX9_back 30 = .ok (.invokevirtual 200, 3) := by decide +kernel
theorem dX9_back_33 : decode cX9_back 33 = .ok (.iload_n 3, 1) := by decide +kernel
theorem dX9_back_34 : decode cX9_back 34 = .ok (.tableswitch 53 0 2 #[26, 34, 42], 26) := by decide +kernel
theorem dX9_back_60 : decode cX9_back 60 = .ok (.aload_n 0, 1) := by decide +kernel
theorem dX9_back_61 : decode cX9_back 61 = .ok (.getfield 50, 3) := by decide +kernel
theorem dX9_back_64 : decode cX9_back 64 = .ok (.invokevirtual 204, 3) := by decide +kernel
theorem dX9_back_67 : decode cX9_back 67 = .ok (.ireturn, 1) := by decide +kernel
theorem dX9_back_68 : decode cX9_back 68 = .ok (.aload_n 0, 1) := by decide +kernel
theorem dX9_back_69 : decode cX9_back 69 = .ok (.getfield 50, 3) := by decide +kernel
theorem dX9_back_72 : decode cX9_back 72 = .ok (.invokevirtual 207, 3) := by decide +kernel
theorem dX9_back_75 : decode cX9_back 75 = .ok (.ireturn, 1) := by decide +kernel
theorem dX9_back_76 : decode cX9_back 76 = .ok (.aload_n 0, 1) := by decide +kernel
theorem dX9_back_77 : decode cX9_back 77 = .ok (.getfield 50, 3) := by decide +kernel
theorem dX9_back_80 : decode cX9_back 80 = .ok (.invokevirtual 210, 3) := by decide +kernel
theorem dX9_back_83 : decode cX9_back 83 = .ok (.ldc 151, 2) := by decide +kernel
theorem dX9_back_85 : decode cX9_back 85 = .ok (.iadd, 1) := by decide +kernel
theorem dX9_back_86 : decode cX9_back 86 = .ok (.ireturn, 1) := by decide +kernel
theorem dX9_back_87 : decode cX9_back 87 = .ok (.aload_n 0, 1) := by decide +kernel
theorem dX9_back_88 : decode cX9_back 88 = .ok (.getfield 50, 3) := by decide +kernel
theorem dX9_back_91 : decode cX9_back 91 = .ok (.invokevirtual 213, 3) := by decide +kernel
theorem dX9_back_94 : decode cX9_back 94 = .ok (.ldc 151, 2) := by decide +kernel
theorem dX9_back_96 : decode cX9_back 96 = .ok (.iadd, 1) := by decide +kernel
theorem dX9_back_97 : decode cX9_back 97 = .ok (.ireturn, 1) := by decide +kernel
theorem dX9_grid_0 : decode cX9_grid 0 = .ok (.iload_n 1, 1) := by decide +kernel
theorem dX9_grid_1 : decode cX9_grid 1 = .ok (.iconst (-1), 1) := by decide +kernel
theorem dX9_grid_2 : decode cX9_grid 2 = .ok (.if_icmp .eq 17, 3) := by decide +kernel
theorem dX9_grid_5 : decode cX9_grid 5 = .ok (.aload_n 0, 1) := by decide +kernel
theorem dX9_grid_6 : decode cX9_grid 6 = .ok (.getfield 12, 3) := by decide +kernel
theorem dX9_grid_9 : decode cX9_grid 9 = .ok (.iload_n 1, 1) := by decide +kernel
theorem dX9_grid_10 : decode cX9_grid 10 = .ok (.invokevirtual 83, 3) := by decide +kernel
theorem dX9_grid_13 : decode cX9_grid 13 = .ok (.ifnonnull 6, 3) := by decide +kernel
theorem dX9_grid_16 : decode cX9_grid 16 = .ok (.ldc 103, 2) := by decide +kernel
theorem dX9_grid_18 : decode cX9_grid 18 = .ok (.ireturn, 1) := by decide +kernel
theorem dX9_grid_19 : decode cX9_grid 19 = .ok (.iload_n 2, 1) := by decide +kernel
theorem dX9_grid_20 : decode cX9_grid 20 = .ok (.iload_n 3, 1) := by decide +kernel
theorem dX9_grid_21 : decode cX9_grid 21 = .ok (.iload 4, 2) := by decide +kernel
theorem dX9_grid_23 : decode cX9_grid 23 = .ok (.iload 5, 2) := by decide +kernel
theorem dX9_grid_25 : decode cX9_grid 25 = .ok (.iload 6, 2) := by decide +kernel
theorem dX9_grid_27 : decode cX9_grid 27 = .ok (.invokestatic 216, 3) := by decide +kernel
theorem dX9_grid_30 : decode cX9_grid 30 = .ok (.ifCond .ne 6, 3) := by decide +kernel
theorem dX9_grid_33 : decode cX9_grid 33 = .ok (.ldc 102, 2) := by decide +kernel
theorem dX9_grid_35 : decode cX9_grid 35 = .ok (.ireturn, 1) := by decide +kernel
theorem dX9_grid_36 : decode cX9_grid 36 = .ok (.iload_n 2, 1) := by decide +kernel
theorem dX9_grid_37 : decode cX9_grid 37 = .ok (.iload 5, 2) := by decide +kernel
theorem dX9_grid_39 : decode cX9_grid 39 = .ok (.iconst 1, 1) := by decide +kernel
theorem dX9_grid_40 : decode cX9_grid 40 = .ok (.isub, 1) := by decide +kernel
theorem dX9_grid_41 : decode cX9_grid 41 = .ok (.iload 4, 2) := by decide +kernel
theorem dX9_grid_43 : decode cX9_grid 43 = .ok (.imul, 1) := by decide +kernel
theorem dX9_grid_44 : decode cX9_grid 44 = .ok (.iadd, 1) := by decide +kernel
theorem dX9_grid_45 : decode cX9_grid 45 = .ok (.istore 7, 2) := by decide +kernel
theorem dX9_grid_47 : decode cX9_grid 47 = .ok (.iload_n 3, 1) := by decide +kernel
theorem dX9_grid_48 : decode cX9_grid 48 = .ok (.iload 6, 2) := by decide +kernel
theorem dX9_grid_50 : decode cX9_grid 50 = .ok (.iconst 1, 1) := by decide +kernel
theorem dX9_grid_51 : decode cX9_grid 51 = .ok (.isub, 1) := by decide +kernel
theorem dX9_grid_52 : decode cX9_grid 52 = .ok (.iload 4, 2) := by decide +kernel
theorem dX9_grid_54 : decode cX9_grid 54 = .ok (.imul, 1) := by decide +kernel
theorem dX9_grid_55 : decode cX9_grid 55 = .ok (.iadd, 1) := by decide +kernel
theorem dX9_grid_56 : decode cX9_grid 56 = .ok (.istore 8, 2) := by decide +kernel
theorem dX9_grid_58 : decode cX9_grid 58 = .ok (.aload_n 0, 1) := by decide +kernel
theorem dX9_grid_59 : decode cX9_grid 59 = .ok (.getfield 12, 3) := by decide +kernel
theorem dX9_grid_62 : decode cX9_grid 62 = .ok (.iload_n 1, 1) := by decide +kernel
theorem dX9_grid_63 : decode cX9_grid 63 = .ok (.iload 4, 2) := by decide +kernel
theorem dX9_grid_65 : decode cX9_grid 65 = .ok (.iload_n 2, 1) := by decide +kernel
theorem dX9_grid_66 : decode cX9_grid 66 = .ok (.iload_n 3, 1) := by decide +kernel
theorem dX9_grid_67 : decode cX9_grid 67 = .ok (.iload 7, 2) := by decide +kernel
theorem dX9_grid_69 : decode cX9_grid 69 = .ok (.iload 8, 2) := by decide +kernel
theorem dX9_grid_71 : decode cX9_grid 71 = .ok (.invokevirtual 220, 3) := by decide +kernel
theorem dX9_grid_74 : decode cX9_grid 74 = .ok (.ifCond .eq 20, 3) := by decide +kernel
theorem dX9_grid_77 : decode cX9_grid 77 = .ok (.aload_n 0, 1) := by decide +kernel
theorem dX9_grid_78 : decode cX9_grid 78 = .ok (.getfield 12, 3) := by decide +kernel
theorem dX9_grid_81 : decode cX9_grid 81 = .ok (.iload_n 1, 1) := by decide +kernel
theorem dX9_grid_82 : decode cX9_grid 82 = .ok (.iload_n 2, 1) := by decide +kernel
theorem dX9_grid_83 : decode cX9_grid 83 = .ok (.iload_n 3, 1) := by decide +kernel
theorem dX9_grid_84 : decode cX9_grid 84 = .ok (.iload 7, 2) := by decide +kernel
theorem dX9_grid_86 : decode cX9_grid 86 = .ok (.iload 8, 2) := by decide +kernel
theorem dX9_grid_88 : decode cX9_grid 88 = .ok (.invokevirtual 224, 3) := by decide +kernel
theorem dX9_grid_91 : decode cX9_grid 91 = .ok (.ifCond .ne 6, 3) := by decide +kernel
theorem dX9_grid_94 : decode cX9_grid 94 = .ok (.ldc 227, 2) := by decide +kernel
theorem dX9_grid_96 : decode cX9_grid 96 = .ok (.ireturn, 1) := by decide +kernel
theorem dX9_grid_97 : decode cX9_grid 97 = .ok (.aload_n 0, 1) := by decide +kernel
theorem dX9_grid_98 : decode cX9_grid 98 = .ok (.getfield 12, 3) := by decide +kernel
theorem dX9_grid_101 : decode cX9_grid 101 = .ok (.invokevirtual 61, 3) := by decide +kernel
theorem dX9_grid_104 : decode cX9_grid 104 = .ok (.bipush 6, 2) := by decide +kernel
theorem dX9_grid_106 : decode cX9_grid 106 = .ok (.if_icmp .lt 6, 3) := by decide +kernel
theorem dX9_grid_109 : decode cX9_grid 109 = .ok (.ldc 228, 2) := by decide +kernel
theorem dX9_grid_111 : decode cX9_grid 111 = .ok (.ireturn, 1) := by decide +kernel
theorem dX9_grid_112 : decode cX9_grid 112 = .ok (.aload_n 0, 1) := by decide +kernel
theorem dX9_grid_113 : decode cX9_grid 113 = .ok (.getfield 19, 3) := by decide +kernel
theorem dX9_grid_116 : decode cX9_grid 116 = .ok (.aload_n 0, 1) := by decide +kernel
theorem dX9_grid_117 : decode cX9_grid 117 = .ok (.getfield 12, 3) := by decide +kernel
theorem dX9_grid_120 : decode cX9_grid 120 = .ok (.invokevirtual 229, 3) := by decide +kernel
theorem dX9_grid_123 : decode cX9_grid 123 = .ok (.aload_n 0, 1) := by decide +kernel
theorem dX9_grid_124 : decode cX9_grid 124 = .ok (.getfield 12, 3) := by decide +kernel
theorem dX9_grid_127 : decode cX9_grid 127 = .ok (.iload_n 1, 1) := by decide +kernel
theorem dX9_grid_128 : decode cX9_grid 128 = .ok (.iload_n 2, 1) := by decide +kernel
theorem dX9_grid_129 : decode cX9_grid 129 = .ok (.iload_n 3, 1) := by decide +kernel
theorem dX9_grid_130 : decode cX9_grid 130 = .ok (.iload 4, 2) := by decide +kernel
theorem dX9_grid_132 : decode cX9_grid 132 = .ok (.iload 5, 2) := by decide +kernel
theorem dX9_grid_134 : decode cX9_grid 134 = .ok (.iload 6, 2) := by decide +kernel
theorem dX9_grid_136 : decode cX9_grid 136 = .ok (.invokevirtual 233, 3) := by decide +kernel
theorem dX9_grid_139 : decode cX9_grid 139 = .ok (.ireturn, 1) := by decide +kernel
theorem dX9_node_0 : decode cX9_node 0 = .ok (.aload_n 0, 1) := by decide +kernel
theorem dX9_node_1 : decode cX9_node 1 = .ok (.getfield 12, 3) := by decide +kernel
theorem dX9_node_4 : decode cX9_node 4 = .ok (.iload_n 1, 1) := by decide +kernel
theorem dX9_node_5 : decode cX9_node 5 = .ok (.invokevirtual 83, 3) := by decide +kernel
theorem dX9_node_8 : decode cX9_node 8 = .ok (.astore 6, 2) := by decide +kernel
theorem dX9_node_10 : decode cX9_node 10 = .ok (.aload 6, 2) := by decide +kernel
theorem dX9_node_12 : decode cX9_node 12 = .ok (.ifnull 13, 3) := by decide +kernel
theorem dX9_node_15 : decode cX9_node 15 = .ok (.aload 6, 2) := by decide +kernel
theorem dX9_node_17 : decode cX9_node 17 = .ok (.iload_n 2, 1) := by decide +kernel
theorem dX9_node_18 : decode cX9_node 18 = .ok (.iload_n 3, 1) := by decide +kernel
theorem dX9_node_19 : decode cX9_node 19 = .ok (.invokevirtual 139, 3) := by decide +kernel
theorem dX9_node_22 : decode cX9_node 22 = .ok (.ifCond .ne 6, 3) := by decide +kernel
theorem dX9_node_25 : decode cX9_node 25 = .ok (.ldc 103, 2) := by decide +kernel
theorem dX9_node_27 : decode cX9_node 27 = .ok (.ireturn, 1) := by decide +kernel
theorem dX9_node_28 : decode cX9_node 28 = .ok (.iload 4, 2) := by decide +kernel
theorem dX9_node_30 : decode cX9_node 30 = .ok (.iload 5, 2) := by decide +kernel
theorem dX9_node_32 : decode cX9_node 32 = .ok (.invokestatic 237, 3) := by decide +kernel
theorem dX9_node_35 : decode cX9_node 35 = .ok (.ifCond .ne 6, 3) := by decide +kernel
theorem dX9_node_38 : decode cX9_node 38 = .ok (.ldc 102, 2) := by decide +kernel
theorem dX9_node_40 : decode cX9_node 40 = .ok (.ireturn, 1) := by decide +kernel
theorem dX9_node_41 : decode cX9_node 41 = .ok (.aload_n 0, 1) := by decide +kernel
theorem dX9_node_42 : decode cX9_node 42 = .ok (.getfield 19, 3) := by decide +kernel
theorem dX9_node_45 : decode cX9_node 45 = .ok (.aload_n 0, 1) := by decide +kernel
theorem dX9_node_46 : decode cX9_node 46 = .ok (.getfield 12, 3) := by decide +kernel
theorem dX9_node_49 : decode cX9_node 49 = .ok (.invokevirtual 229, 3) := by decide +kernel
theorem dX9_node_52 : decode cX9_node 52 = .ok (.aload 6, 2) := by decide +kernel
theorem dX9_node_54 : decode cX9_node 54 = .ok (.iload_n 2, 1) := by decide +kernel
theorem dX9_node_55 : decode cX9_node 55 = .ok (.iload_n 3, 1) := by decide +kernel
theorem dX9_node_56 : decode cX9_node 56 = .ok (.iload 4, 2) := by decide +kernel
theorem dX9_node_58 : decode cX9_node 58 = .ok (.iload 5, 2) := by decide +kernel
theorem dX9_node_60 : decode cX9_node 60 = .ok (.invokevirtual 240, 3) := by decide +kernel
theorem dX9_node_63 : decode cX9_node 63 = .ok (.ifCond .eq 7, 3) := by decide +kernel
theorem dX9_node_66 : decode cX9_node 66 = .ok (.iconst 1, 1) := by decide +kernel
theorem dX9_node_67 : decode cX9_node 67 = .ok (.goto 4, 3) := by decide +kernel
theorem dX9_node_70 : decode cX9_node 70 = .ok (.iconst 0, 1) := by decide +kernel
theorem dX9_node_71 : decode cX9_node 71 = .ok (.ireturn, 1) := by decide +kernel
theorem dX9_fill_0 : decode cX9_fill 0 = .ok (.aload_n 0, 1) := by decide +kernel
theorem dX9_fill_1 : decode cX9_fill 1 = .ok (.getfield 12, 3) := by decide +kernel
theorem dX9_fill_4 : decode cX9_fill 4 = .ok (.iload_n 1, 1) := by decide +kernel
theorem dX9_fill_5 : decode cX9_fill 5 = .ok (.invokevirtual 83, 3) := by decide +kernel
theorem dX9_fill_8 : decode cX9_fill 8 = .ok (.astore 4, 2) := by decide +kernel
theorem dX9_fill_10 : decode cX9_fill 10 = .ok (.aload 4, 2) := by decide +kernel
theorem dX9_fill_12 : decode cX9_fill 12 = .ok (.ifnonnull 6, 3) := by decide +kernel
theorem dX9_fill_15 : decode cX9_fill 15 = .ok (.ldc 103, 2) := by decide +kernel
theorem dX9_fill_17 : decode cX9_fill 17 = .ok (.ireturn, 1) := by decide +kernel
theorem dX9_fill_18 : decode cX9_fill 18 = .ok (.iload_n 2, 1) := by decide +kernel
theorem dX9_fill_19 : decode cX9_fill 19 = .ok (.iload_n 3, 1) := by decide +kernel
theorem dX9_fill_20 : decode cX9_fill 20 = .ok (.invokestatic 237, 3) := by decide +kernel
theorem dX9_fill_23 : decode cX9_fill 23 = .ok (.ifCond .ne 6, 3) := by decide +kernel
theorem dX9_fill_26 : decode cX9_fill 26 = .ok (.ldc 102, 2) := by decide +kernel
theorem dX9_fill_28 : decode cX9_fill 28 = .ok (.ireturn, 1) := by decide +kernel
theorem dX9_fill_29 : decode cX9_fill 29 = .ok (.aload_n 0, 1) := by decide +kernel
theorem dX9_fill_30 : decode cX9_fill 30 = .ok (.getfield 19, 3) := by decide +kernel
theorem dX9_fill_33 : decode cX9_fill 33 = .ok (.aload_n 0, 1) := by decide +kernel
theorem dX9_fill_34 : decode cX9_fill 34 = .ok (.getfield 12, 3) := by decide +kernel
theorem dX9_fill_37 : decode cX9_fill 37 = .ok (.invokevirtual 229, 3) := by decide +kernel
theorem dX9_fill_40 : decode cX9_fill 40 = .ok (.aload 4, 2) := by decide +kernel
theorem dX9_fill_42 : decode cX9_fill 42 = .ok (.iload_n 2, 1) := by decide +kernel
theorem dX9_fill_43 : decode cX9_fill 43 = .ok (.iload_n 3, 1) := by decide +kernel
theorem dX9_fill_44 : decode cX9_fill 44 = .ok (.invokevirtual 244, 3) := by decide +kernel
theorem dX9_fill_47 : decode cX9_fill 47 = .ok (.ireturn, 1) := by decide +kernel
theorem dX9_fit_0 : decode cX9_fit 0 = .ok (.aload_n 0, 1) := by decide +kernel
theorem dX9_fit_1 : decode cX9_fit 1 = .ok (.getfield 12, 3) := by decide +kernel
theorem dX9_fit_4 : decode cX9_fit 4 = .ok (.iload_n 1, 1) := by decide +kernel
theorem dX9_fit_5 : decode cX9_fit 5 = .ok (.invokevirtual 83, 3) := by decide +kernel
theorem dX9_fit_8 : decode cX9_fit 8 = .ok (.astore_n 2, 1) := by decide +kernel
theorem dX9_fit_9 : decode cX9_fit 9 = .ok (.aload_n 2, 1) := by decide +kernel
theorem dX9_fit_10 : decode cX9_fit 10 = .ok (.ifnonnull 6, 3) := by decide +kernel
theorem dX9_fit_13 : decode cX9_fit 13 = .ok (.ldc 103, 2) := by decide +kernel
theorem dX9_fit_15 : decode cX9_fit 15 = .ok (.ireturn, 1) := by decide +kernel
theorem dX9_fit_16 : decode cX9_fit 16 = .ok (.aload_n 2, 1) := by decide +kernel
theorem dX9_fit_17 : decode cX9_fit 17 = .ok (.getfield 104, 3) := by decide +kernel
theorem dX9_fit_20 : decode cX9_fit 20 = .ok (.iconst (-1), 1) := by decide +kernel
theorem dX9_fit_21 : decode cX9_fit 21 = .ok (.if_icmp .ne 6, 3) := by decide +kernel
theorem dX9_fit_24 : decode cX9_fit 24 = .ok (.ldc 227, 2) := by decide +kernel
theorem dX9_fit_26 : decode cX9_fit 26 = .ok (.ireturn, 1) := by decide +kernel
theorem dX9_fit_27 : decode cX9_fit 27 = .ok (.aload_n 0, 1) := by decide +kernel
theorem dX9_fit_28 : decode cX9_fit 28 = .ok (.getfield 19, 3) := by decide +kernel
theorem dX9_fit_31 : decode cX9_fit 31 = .ok (.aload_n 0, 1) := by decide +kernel
theorem dX9_fit_32 : decode cX9_fit 32 = .ok (.getfield 12, 3) := by decide +kernel
theorem dX9_fit_35 : decode cX9_fit 35 = .ok (.invokevirtual 229, 3) := by decide +kernel
theorem dX9_fit_38 : decode cX9_fit 38 = .ok (.aload_n 0, 1) := by decide +kernel
theorem dX9_fit_39 : decode cX9_fit 39 = .ok (.getfield 12, 3) := by decide +kernel
theorem dX9_fit_42 : decode cX9_fit 42 = .ok (.aload_n 2, 1) := by decide +kernel
theorem dX9_fit_43 : decode cX9_fit 43 = .ok (.invokestatic 132, 3) := by decide +kernel
theorem dX9_fit_46 : decode cX9_fit 46 = .ok (.istore_n 3, 1) := by decide +kernel
theorem dX9_fit_47 : decode cX9_fit 47 = .ok (.aload_n 0, 1) := by decide +kernel
theorem dX9_fit_48 : decode cX9_fit 48 = .ok (.getfield 12, 3) := by decide +kernel
theorem dX9_fit_51 : decode cX9_fit 51 = .ok (.aload_n 2, 1) := by decide +kernel
theorem dX9_fit_52 : decode cX9_fit 52 = .ok (.invokestatic 247, 3) := by decide +kernel
theorem dX9_fit_55 : decode cX9_fit 55 = .ok (.iload_n 3, 1) := by decide +kernel
theorem dX9_fit_56 : decode cX9_fit 56 = .ok (.ireturn, 1) := by decide +kernel
theorem dX9_drop_0 : decode cX9_drop 0 = .ok (.aload_n 0, 1) := by decide +kernel
theorem dX9_drop_1 : decode cX9_drop 1 = .ok (.getfield 12, 3) := by decide +kernel
theorem dX9_drop_4 : decode cX9_drop 4 = .ok (.iload_n 1, 1) := by decide +kernel
theorem dX9_drop_5 : decode cX9_drop 5 = .ok (.invokevirtual 83, 3) := by decide +kernel
theorem dX9_drop_8 : decode cX9_drop 8 = .ok (.ifnonnull 6, 3) := by decide +kernel
theorem dX9_drop_11 : decode cX9_drop 11 = .ok (.ldc 103, 2) := by decide +kernel
theorem dX9_drop_13 : decode cX9_drop 13 = .ok (.ireturn, 1) := by decide +kernel
theorem dX9_drop_14 : decode cX9_drop 14 = .ok (.aload_n 0, 1) := by decide +kernel
theorem dX9_drop_15 : decode cX9_drop 15 = .ok (.getfield 12, 3) := by decide +kernel
theorem dX9_drop_18 : decode cX9_drop 18 = .ok (.iload_n 1, 1) := by decide +kernel
theorem dX9_drop_19 : decode cX9_drop 19 = .ok (.invokevirtual 125, 3) := by decide +kernel
theorem dX9_drop_22 : decode cX9_drop 22 = .ok (.ifCond .le 6, 3) := by decide +kernel
theorem dX9_drop_25 : decode cX9_drop 25 = .ok (.ldc 227, 2) := by decide +kernel
theorem dX9_drop_27 : decode cX9_drop 27 = .ok (.ireturn, 1) := by decide +kernel
theorem dX9_drop_28 : decode cX9_drop 28 = .ok (.aload_n 0, 1) := by decide +kernel
theorem dX9_drop_29 : decode cX9_drop 29 = .ok (.getfield 19, 3) := by decide +kernel
theorem dX9_drop_32 : decode cX9_drop 32 = .ok (.aload_n 0, 1) := by decide +kernel
theorem dX9_drop_33 : decode cX9_drop 33 = .ok (.getfield 12, 3) := by decide +kernel
theorem dX9_drop_36 : decode cX9_drop 36 = .ok (.invokevirtual 229, 3) := by decide +kernel
theorem dX9_drop_39 : decode cX9_drop 39 = .ok (.aload_n 0, 1) := by decide +kernel
theorem dX9_drop_40 : decode cX9_drop 40 = .ok (.getfield 12, 3) := by decide +kernel
theorem dX9_drop_43 : decode cX9_drop 43 = .ok (.iload_n 1, 1) := by decide +kernel
theorem dX9_drop_44 : decode cX9_drop 44 = .ok (.invokevirtual 251, 3) := by decide +kernel
theorem dX9_drop_47 : decode cX9_drop 47 = .ok (.aload_n 0, 1) := by decide +kernel
theorem dX9_drop_48 : decode cX9_drop 48 = .ok (.getfield 12, 3) := by decide +kernel
theorem dX9_drop_51 : decode cX9_drop 51 = .ok (.invokevirtual 61, 3) := by decide +kernel
theorem dX9_drop_54 : decode cX9_drop 54 = .ok (.ireturn, 1) := by decide +kernel
theorem dX9_rule_0 : decode cX9_rule 0 = .ok (.iload_n 1, 1) := by decide +kernel
theorem dX9_rule_1 : decode cX9_rule 1 = .ok (.iconst 0, 1) := by decide +kernel
theorem dX9_rule_2 : decode cX9_rule 2 = .ok (.iconst 2, 1) := by decide +kernel
theorem dX9_rule_3 : decode cX9_rule 3 = .ok (.invokestatic 143, 3) := by decide +kernel
theorem dX9_rule_6 : decode cX9_rule 6 = .ok (.ifCond .ne 6, 3) := by decide +kernel
theorem dX9_rule_9 : decode cX9_rule 9 = .ok (.ldc 102, 2) := by decide +kernel
theorem dX9_rule_11 : decode cX9_rule 11 = .ok (.ireturn, 1) := by decide +kernel
theorem dX9_rule_12 : decode cX9_rule 12 = .ok (.aload_n 0, 1) := by decide +kernel
theorem dX9_rule_13 : decode cX9_rule 13 = .ok (.getfield 19, 3) := by decide +kernel
theorem dX9_rule_16 : decode cX9_rule 16 = .ok (.aload_n 0, 1) := by decide +kernel
theorem dX9_rule_17 : decode cX9_rule 17 = .ok (.getfield 12, 3) := by decide +kernel
theorem dX9_rule_20 : decode cX9_rule 20 = .ok (.invokevirtual 229, 3) := by decide +kernel
theorem dX9_rule_23 : decode cX9_rule 23 = .ok (.aload_n 0, 1) := by decide +kernel
theorem dX9_rule_24 : decode cX9_rule 24 = .ok (.getfield 12, 3) := by decide +kernel
theorem dX9_rule_27 : decode cX9_rule 27 = .ok (.invokevirtual 65, 3) := by decide +kernel
theorem dX9_rule_30 : decode cX9_rule 30 = .ok (.istore_n 2, 1) := by decide +kernel
theorem dX9_rule_31 : decode cX9_rule 31 = .ok (.aload_n 0, 1) := by decide +kernel
theorem dX9_rule_32 : decode cX9_rule 32 = .ok (.getfield 12, 3) := by decide +kernel
theorem dX9_rule_35 : decode cX9_rule 35 = .ok (.iload_n 1, 1) := by decide +kernel
theorem dX9_rule_36 : decode cX9_rule 36 = .ok (.invokevirtual 255, 3) := by decide +kernel
theorem dX9_rule_39 : decode cX9_rule 39 = .ok (.iload_n 2, 1) := by decide +kernel
theorem dX9_rule_40 : decode cX9_rule 40 = .ok (.ireturn, 1) := by decide +kernel
theorem dX9_drift_0 : decode cX9_drift 0 = .ok (.iload_n 1, 1) := by decide +kernel
theorem dX9_drift_1 : decode cX9_drift 1 = .ok (.iconst 1, 1) := by decide +kernel
theorem dX9_drift_2 : decode cX9_drift 2 = .ok (.bipush 12, 2) := by decide +kernel
theorem dX9_drift_4 : decode cX9_drift 4 = .ok (.invokestatic 143, 3) := by decide +kernel
theorem dX9_drift_7 : decode cX9_drift 7 = .ok (.ifCond .ne 6, 3) := by decide +kernel
theorem dX9_drift_10 : decode cX9_drift 10 = .ok (.ldc 102, 2) := by decide +kernel
theorem dX9_drift_12 : decode cX9_drift 12 = .ok (.ireturn, 1) := by decide +kernel
theorem dX9_drift_13 : decode cX9_drift 13 = .ok (.aload_n 0, 1) := by decide +kernel
theorem dX9_drift_14 : decode cX9_drift 14 = .ok (.getfield 12, 3) := by decide +kernel
theorem dX9_drift_17 : decode cX9_drift 17 = .ok (.invokevirtual 61, 3) := by decide +kernel
theorem dX9_drift_20 : decode cX9_drift 20 = .ok (.ifCond .ne 6, 3) := by decide +kernel
theorem dX9_drift_23 : decode cX9_drift 23 = .ok (.ldc 227, 2) := by decide +kernel
theorem dX9_drift_25 : decode cX9_drift 25 = .ok (.ireturn, 1) := by decide +kernel
theorem dX9_drift_26 : decode cX9_drift 26 = .ok (.iconst 0, 1) := by decide +kernel
theorem dX9_drift_27 : decode cX9_drift 27 = .ok (.istore_n 2, 1) := by decide +kernel
theorem dX9_drift_28 : decode cX9_drift 28 = .ok (.iload_n 2, 1) := by decide +kernel
theorem dX9_drift_29 : decode cX9_drift 29 = .ok (.iload_n 1, 1) := by decide +kernel
theorem dX9_drift_30 : decode cX9_drift 30 = .ok (.if_icmp .ge 31, 3) := by decide +kernel
theorem dX9_drift_33 : decode cX9_drift 33 = .ok (.aload_n 0, 1) := by decide +kernel
theorem dX9_drift_34 : decode cX9_drift 34 = .ok (.getfield 19, 3) := by decide +kernel
theorem dX9_drift_37 : decode cX9_drift 37 = .ok (.aload_n 0, 1) := by decide +kernel
theorem dX9_drift_38 : decode cX9_drift 38 = .ok (.getfield 12, 3) := by decide +kernel
theorem dX9_drift_41 : decode cX9_drift 41 = .ok (.invokevirtual 229, 3) := by decide +kernel
theorem dX9_drift_44 : decode cX9_drift 44 = .ok (.aload_n 0, 1) := by decide +kernel
theorem dX9_drift_45 : decode cX9_drift 45 = .ok (.getfield 43, 3) := by decide +kernel
theorem dX9_drift_48 : decode cX9_drift 48 = .ok (.aload_n 0, 1) := by decide +kernel
theorem dX9_drift_49 : decode cX9_drift 49 = .ok (.getfield 12, 3) := by decide +kernel
theorem dX9_drift_52 : decode cX9_drift 52 = .ok (.invokevirtual 258, 3) := by decide +kernel
theorem dX9_drift_55 : decode cX9_drift 55 = .ok (.iinc 2 1, 3) := by decide +kernel
theorem dX9_drift_58 : decode cX9_drift 58 = .ok (.goto (-30), 3) := by decide +kernel
theorem dX9_drift_61 : decode cX9_drift 61 = .ok (.aload_n 0, 1) := by decide +kernel
theorem dX9_drift_62 : decode cX9_drift 62 = .ok (.getfield 12, 3) := by decide +kernel
theorem dX9_drift_65 : decode cX9_drift 65 = .ok (.invokevirtual 68, 3) := by decide +kernel
theorem dX9_drift_68 : decode cX9_drift 68 = .ok (.ireturn, 1) := by decide +kernel
theorem dX9_undo_0 : decode cX9_undo 0 = .ok (.iload_n 1, 1) := by decide +kernel
theorem dX9_undo_1 : decode cX9_undo 1 = .ok (.iconst 1, 1) := by decide +kernel
theorem dX9_undo_2 : decode cX9_undo 2 = .ok (.bipush 16, 2) := by decide +kernel
theorem dX9_undo_4 : decode cX9_undo 4 = .ok (.invokestatic 143, 3) := by decide +kernel
theorem dX9_undo_7 : decode cX9_undo 7 = .ok (.ifCond .ne 6, 3) := by decide +kernel
theorem dX9_undo_10 : decode cX9_undo 10 = .ok (.ldc 102, 2) := by decide +kernel
theorem dX9_undo_12 : decode cX9_undo 12 = .ok (.ireturn, 1) := by decide +kernel
theorem dX9_undo_13 : decode cX9_undo 13 = .ok (.iload_n 1, 1) := by decide +kernel
theorem dX9_undo_14 : decode cX9_undo 14 = .ok (.aload_n 0, 1) := by decide +kernel
theorem dX9_undo_15 : decode cX9_undo 15 = .ok (.getfield 19, 3) := by decide +kernel
theorem dX9_undo_18 : decode cX9_undo 18 = .ok (.invokevirtual 98, 3) := by decide +kernel
theorem dX9_undo_21 : decode cX9_undo 21 = .ok (.if_icmp .le 6, 3) := by decide +kernel
theorem dX9_undo_24 : decode cX9_undo 24 = .ok (.ldc 227, 2) := by decide +kernel
theorem dX9_undo_26 : decode cX9_undo 26 = .ok (.ireturn, 1) := by decide +kernel
theorem dX9_undo_27 : decode cX9_undo 27 = .ok (.aload_n 0, 1) := by decide +kernel
theorem dX9_undo_28 : decode cX9_undo 28 = .ok (.getfield 19, 3) := by decide +kernel
theorem dX9_undo_31 : decode cX9_undo 31 = .ok (.aload_n 0, 1) := by decide +kernel
theorem dX9_undo_32 : decode cX9_undo 32 = .ok (.getfield 12, 3) := by decide +kernel
theorem dX9_undo_35 : decode cX9_undo 35 = .ok (.iload_n 1, 1) := by decide +kernel
theorem dX9_undo_36 : decode cX9_undo 36 = .ok (.invokevirtual 261, 3) := by decide +kernel
theorem dX9_undo_39 : decode cX9_undo 39 = .ok (.aload_n 0, 1) := by decide +kernel
theorem dX9_undo_40 : decode cX9_undo 40 = .ok (.getfield 19, 3) := by decide +kernel
theorem dX9_undo_43 : decode cX9_undo 43 = .ok (.invokevirtual 98, 3) := by decide +kernel
theorem dX9_undo_46 : decode cX9_undo 46 = .ok (.ireturn, 1) := by decide +kernel
theorem dX9_write_0 : decode cX9_write 0 = .ok (.iload_n 1, 1) := by decide +kernel
theorem dX9_write_1 : decode cX9_write 1 = .ok (.iload_n 2, 1) := by decide +kernel
theorem dX9_write_2 : decode cX9_write 2 = .ok (.invokestatic 187, 3) := by decide +kernel
theorem dX9_write_5 : decode cX9_write 5 = .ok (.ifCond .ne 6, 3) := by decide +kernel
theorem dX9_write_8 : decode cX9_write 8 = .ok (.ldc 102, 2) := by decide +kernel
theorem dX9_write_10 : decode cX9_write 10 = .ok (.ireturn, 1) := by decide +kernel
theorem dX9_write_11 : decode cX9_write 11 = .ok (.aload_n 0, 1) := by decide +kernel
theorem dX9_write_12 : decode cX9_write 12 = .ok (.getfield 36, 3) := by decide +kernel
theorem dX9_write_15 : decode cX9_write 15 = .ok (.iload_n 1, 1) := by decide +kernel
theorem dX9_write_16 : decode cX9_write 16 = .ok (.iload_n 2, 1) := by decide +kernel
theorem dX9_write_17 : decode cX9_write 17 = .ok (.iload_n 3, 1) := by decide +kernel
theorem dX9_write_18 : decode cX9_write 18 = .ok (.invokevirtual 265, 3) := by decide +kernel
theorem dX9_write_21 : decode cX9_write 21 = .ok (.ifCond .eq 13, 3) := by decide +kernel
theorem dX9_write_24 : decode cX9_write 24 = .ok (.aload_n 0, 1) := by decide +kernel
theorem dX9_write_25 : decode cX9_write 25 = .ok (.getfield 36, 3) := by decide +kernel
theorem dX9_write_28 : decode cX9_write 28 = .ok (.invokevirtual 93, 3) := by decide +kernel
theorem dX9_write_31 : decode cX9_write 31 = .ok (.goto 5, 3) := by decide +kernel
theorem dX9_write_34 : decode cX9_write 34 = .ok (.ldc 228, 2) := by decide +kernel
theorem dX9_write_36 : decode cX9_write 36 = .ok (.ireturn, 1) := by decide +kernel
theorem dX9_tear_0 : decode cX9_tear 0 = .ok (.aload_n 0, 1) := by decide +kernel
theorem dX9_tear_1 : decode cX9_tear 1 = .ok (.getfield 36, 3) := by decide +kernel
theorem dX9_tear_4 : decode cX9_tear 4 = .ok (.invokevirtual 93, 3) := by decide +kernel
theorem dX9_tear_7 : decode cX9_tear 7 = .ok (.istore_n 1, 1) := by decide +kernel
theorem dX9_tear_8 : decode cX9_tear 8 = .ok (.aload_n 0, 1) := by decide +kernel
theorem dX9_tear_9 : decode cX9_tear 9 = .ok (.getfield 36, 3) := by decide +kernel
theorem dX9_tear_12 : decode cX9_tear 12 = .ok (.invokevirtual 267, 3) := by decide +kernel
theorem dX9_tear_15 : decode cX9_tear 15 = .ok (.iload_n 1, 1) := by decide +kernel
theorem dX9_tear_16 : decode cX9_tear 16 = .ok (.ireturn, 1) := by decide +kernel
theorem dX9_seed_0 : decode cX9_seed 0 = .ok (.iload_n 1, 1) := by decide +kernel
theorem dX9_seed_1 : decode cX9_seed 1 = .ok (.ifCond .ge 6, 3) := by decide +kernel
theorem dX9_seed_4 : decode cX9_seed 4 = .ok (.ldc 102, 2) := by decide +kernel
theorem dX9_seed_6 : decode cX9_seed 6 = .ok (.ireturn, 1) := by decide +kernel
theorem dX9_seed_7 : decode cX9_seed 7 = .ok (.aload_n 0, 1) := by decide +kernel
theorem dX9_seed_8 : decode cX9_seed 8 = .ok (.getfield 43, 3) := by decide +kernel
theorem dX9_seed_11 : decode cX9_seed 11 = .ok (.invokevirtual 99, 3) := by decide +kernel
theorem dX9_seed_14 : decode cX9_seed 14 = .ok (.istore_n 2, 1) := by decide +kernel
theorem dX9_seed_15 : decode cX9_seed 15 = .ok (.aload_n 0, 1) := by decide +kernel
theorem dX9_seed_16 : decode cX9_seed 16 = .ok (.getfield 43, 3) := by decide +kernel
theorem dX9_seed_19 : decode cX9_seed 19 = .ok (.iload_n 1, 1) := by decide +kernel
theorem dX9_seed_20 : decode cX9_seed 20 = .ok (.invokevirtual 270, 3) := by decide +kernel
theorem dX9_seed_23 : decode cX9_seed 23 = .ok (.iload_n 2, 1) := by decide +kernel
theorem dX9_seed_24 : decode cX9_seed 24 = .ok (.ireturn, 1) := by decide +kernel
theorem dX9_keep_0 : decode cX9_keep 0 = .ok (.aload_n 0, 1) := by decide +kernel
theorem dX9_keep_1 : decode cX9_keep 1 = .ok (.iload_n 1, 1) := by decide +kernel
theorem dX9_keep_2 : decode cX9_keep 2 = .ok (.invokevirtual 273, 3) := by decide +kernel
theorem dX9_keep_5 : decode cX9_keep 5 = .ok (.astore_n 2, 1) := by decide +kernel
theorem dX9_keep_6 : decode cX9_keep 6 = .ok (.aload_n 2, 1) := by decide +kernel
theorem dX9_keep_7 : decode cX9_keep 7 = .ok (.ifnonnull 6, 3) := by decide +kernel
theorem dX9_keep_10 : decode cX9_keep 10 = .ok (.ldc 103, 2) := by decide +kernel
theorem dX9_keep_12 : decode cX9_keep 12 = .ok (.ireturn, 1) := by decide +kernel
theorem dX9_keep_13 : decode cX9_keep 13 = .ok (.aload_n 2, 1) := by decide +kernel
theorem dX9_keep_14 : decode cX9_keep 14 = .ok (.aload_n 0, 1) := by decide +kernel
theorem dX9_keep_15 : decode cX9_keep 15 = .ok (.getfield 12, 3) := by decide +kernel
theorem dX9_keep_18 : decode cX9_keep 18 = .ok (.aload_n 0, 1) := by decide +kernel
theorem dX9_keep_19 : decode cX9_keep 19 = .ok (.getfield 43, 3) := by decide +kernel
theorem dX9_keep_22 : decode cX9_keep 22 = .ok (.invokevirtual 277, 3) := by decide +kernel
theorem dX9_keep_25 : decode cX9_keep 25 = .ok (.aload_n 0, 1) := by decide +kernel
theorem dX9_keep_26 : decode cX9_keep 26 = .ok (.getfield 19, 3) := by decide +kernel
theorem dX9_keep_29 : decode cX9_keep 29 = .ok (.invokevirtual 281, 3) := by decide +kernel
theorem dX9_keep_32 : decode cX9_keep 32 = .ok (.iconst 1, 1) := by decide +kernel
theorem dX9_keep_33 : decode cX9_keep 33 = .ok (.ireturn, 1) := by decide +kernel
theorem dX9_goBack_0 : decode cX9_goBack 0 = .ok (.aload_n 0, 1) := by decide +kernel
theorem dX9_goBack_1 : decode cX9_goBack 1 = .ok (.iload_n 1, 1) := by decide +kernel
theorem dX9_goBack_2 : decode cX9_goBack 2 = .ok (.invokevirtual 273, 3) := by decide +kernel
theorem dX9_goBack_5 : decode cX9_goBack 5 = .ok (.astore_n 2, 1) := by decide +kernel
theorem dX9_goBack_6 : decode cX9_goBack 6 = .ok (.aload_n 2, 1) := by decide +kernel
theorem dX9_goBack_7 : decode cX9_goBack 7 = .ok (.ifnonnull 6, 3) := by decide +kernel
theorem dX9_goBack_10 : decode cX9_goBack 10 = .ok (.ldc 103, 2) := by decide +kernel
theorem dX9_goBack_12 : decode cX9_goBack 12 = .ok (.ireturn, 1) := by decide +kernel
theorem dX9_goBack_13 : decode cX9_goBack 13 = .ok (.aload_n 2, 1) := by decide +kernel
theorem dX9_goBack_14 : decode cX9_goBack 14 = .ok (.invokevirtual 282, 3) := by decide +kernel
theorem dX9_goBack_17 : decode cX9_goBack 17 = .ok (.ifCond .ne 6, 3) := by decide +kernel
theorem dX9_goBack_20 : decode cX9_goBack 20 = .ok (.ldc 227, 2) := by decide +kernel
theorem dX9_goBack_22 : decode cX9_goBack 22 = .ok (.ireturn, 1) := by decide +kernel
theorem dX9_goBack_23 : decode cX9_goBack 23 = .ok (.aload_n 2, 1) := by decide +kernel
theorem dX9_goBack_24 : decode cX9_goBack 24 = .ok (.aload_n 0, 1) := by decide +kernel
theorem dX9_goBack_25 : decode cX9_goBack 25 = .ok (.getfield 12, 3) := by decide +kernel
theorem dX9_goBack_28 : decode cX9_goBack 28 = .ok (.aload_n 0, 1) := by decide +kernel
theorem dX9_goBack_29 : decode cX9_goBack 29 = .ok (.getfield 43, 3) := by decide +kernel
theorem dX9_goBack_32 : decode cX9_goBack 32 = .ok (.invokevirtual 285, 3) := by decide +kernel
theorem dX9_goBack_35 : decode cX9_goBack 35 = .ok (.aload_n 0, 1) := by decide +kernel
theorem dX9_goBack_36 : decode cX9_goBack 36 = .ok (.getfield 19, 3) := by decide +kernel
theorem dX9_goBack_39 : decode cX9_goBack 39 = .ok (.invokevirtual 281, 3) := by decide +kernel
theorem dX9_goBack_42 : decode cX9_goBack 42 = .ok (.iconst 1, 1) := by decide +kernel
theorem dX9_goBack_43 : decode cX9_goBack 43 = .ok (.ireturn, 1) := by decide +kernel
theorem dX9_imageOf_0 : decode cX9_imageOf 0 = .ok (.iload_n 1, 1) := by decide +kernel
theorem dX9_imageOf_1 : decode cX9_imageOf 1 = .ok (.ifCond .ne 8, 3) := by decide +kernel
theorem dX9_imageOf_4 : decode cX9_imageOf 4 = .ok (.aload_n 0, 1) := by decide +kernel
theorem dX9_imageOf_5 : decode cX9_imageOf 5 = .ok (.getfield 26, 3) := by decide +kernel
theorem dX9_imageOf_8 : decode cX9_imageOf 8 = .ok (.areturn, 1) := by decide +kernel
theorem dX9_imageOf_9 : decode cX9_imageOf 9 = .ok (.iload_n 1, 1) := by decide +kernel
theorem dX9_imageOf_10 : decode cX9_imageOf 10 = .ok (.iconst 1, 1) := by decide +kernel
theorem dX9_imageOf_11 : decode cX9_imageOf 11 = .ok (.if_icmp .ne 10, 3) := by decide +kernel
theorem dX9_imageOf_14 : decode cX9_imageOf 14 = .ok (.aload_n 0, 1) := by decide +kernel
theorem dX9_imageOf_15 : decode cX9_imageOf 15 = .ok (.getfield 30, 3) := by decide +kernel
theorem dX9_imageOf_18 : decode cX9_imageOf 18 = .ok (.goto 4, 3) := by decide +kernel
theorem dX9_imageOf_21 : decode cX9_imageOf 21 = .ok (.aconst_null, 1) := by decide +kernel
theorem dX9_imageOf_22 : decode cX9_imageOf 22 = .ok (.areturn, 1) := by decide +kernel
theorem dX9_isWithin_0 : decode cX9_isWithin 0 = .ok (.iload_n 0, 1) := by decide +kernel
theorem dX9_isWithin_1 : decode cX9_isWithin 1 = .ok (.iload_n 1, 1) := by decide +kernel
theorem dX9_isWithin_2 : decode cX9_isWithin 2 = .ok (.if_icmp .lt 12, 3) := by decide +kernel
theorem dX9_isWithin_5 : decode cX9_isWithin 5 = .ok (.iload_n 0, 1) := by decide +kernel
theorem dX9_isWithin_6 : decode cX9_isWithin 6 = .ok (.iload_n 2, 1) := by decide +kernel
theorem dX9_isWithin_7 : decode cX9_isWithin 7 = .ok (.if_icmp .gt 7, 3) := by decide +kernel
theorem dX9_isWithin_10 : decode cX9_isWithin 10 = .ok (.iconst 1, 1) := by decide +kernel
theorem dX9_isWithin_11 : decode cX9_isWithin 11 = .ok (.goto 4, 3) := by decide +kernel
theorem dX9_isWithin_14 : decode cX9_isWithin 14 = .ok (.iconst 0, 1) := by decide +kernel
theorem dX9_isWithin_15 : decode cX9_isWithin 15 = .ok (.ireturn, 1) := by decide +kernel
theorem dX9_isPlace_0 : decode cX9_isPlace 0 = .ok (.iload_n 0, 1) := by decide +kernel
theorem dX9_isPlace_1 : decode cX9_isPlace 1 = .ok (.iconst 0, 1) := by decide +kernel
theorem dX9_isPlace_2 : decode cX9_isPlace 2 = .ok (.ldc_w 288, 3) := by decide +kernel
theorem dX9_isPlace_5 : decode cX9_isPlace 5 = .ok (.invokestatic 143, 3) := by decide +kernel
theorem dX9_isPlace_8 : decode cX9_isPlace 8 = .ok (.ifCond .eq 18, 3) := by decide +kernel
theorem dX9_isPlace_11 : decode cX9_isPlace 11 = .ok (.iload_n 1, 1) := by decide +kernel
theorem dX9_isPlace_12 : decode cX9_isPlace 12 = .ok (.iconst 0, 1) := by decide +kernel
theorem dX9_isPlace_13 : decode cX9_isPlace 13 = .ok (.ldc_w 288, 3) := by decide +kernel
theorem dX9_isPlace_16 : decode cX9_isPlace 16 = .ok (.invokestatic 143, 3) := by decide +kernel
theorem dX9_isPlace_19 : decode cX9_isPlace 19 = .ok (.ifCond .eq 7, 3) := by decide +kernel
theorem dX9_isPlace_22 : decode cX9_isPlace 22 = .ok (.iconst 1, 1) := by decide +kernel
theorem dX9_isPlace_23 : decode cX9_isPlace 23 = .ok (.goto 4, 3) := by decide +kernel
theorem dX9_isPlace_26 : decode cX9_isPlace 26 = .ok (.iconst 0, 1) := by decide +kernel
theorem dX9_isPlace_27 : decode cX9_isPlace 27 = .ok (.ireturn, 1) := by decide +kernel
theorem dX9_isNewPlace_0 : decode cX9_isNewPlace 0 = .ok (.iload_n 0, 1) := by decide +kernel
theorem dX9_isNewPlace_1 : decode cX9_isNewPlace 1 = .ok (.sipush (-10000), 3) := by decide +kernel
theorem dX9_isNewPlace_4 : decode cX9_isNewPlace 4 = .ok (.ldc_w 289, 3) := by decide +kernel
theorem dX9_isNewPlace_7 : decode cX9_isNewPlace 7 = .ok (.invokestatic 143, 3) := by decide +kernel
theorem dX9_isNewPlace_10 : decode cX9_isNewPlace 10 = .ok (.ifCond .eq 20, 3) := by decide +kernel
theorem dX9_isNewPlace_13 : decode cX9_isNewPlace 13 = .ok (.iload_n 1, 1) := by decide +kernel
theorem dX9_isNewPlace_14 : decode cX9_isNewPlace 14 = .ok (.sipush (-10000), 3) := by decide +kernel
theorem dX9_isNewPlace_17 : decode cX9_isNewPlace 17 = .ok (.ldc_w 289, 3) := by decide +kernel
theorem dX9_isNewPlace_20 : decode cX9_isNewPlace 20 = .ok (.invokestatic 143, 3) := by decide +kernel
theorem dX9_isNewPlace_23 : decode cX9_isNewPlace 23 = .ok (.ifCond .eq 7, 3) := by decide +kernel
theorem dX9_isNewPlace_26 : decode cX9_isNewPlace 26 = .ok (.iconst 1, 1) := by decide +kernel
theorem dX9_isNewPlace_27 : decode cX9_isNewPlace 27 = .ok (.goto 4, 3) := by decide +kernel
theorem dX9_isNewPlace_30 : decode cX9_isNewPlace 30 = .ok (.iconst 0, 1) := by decide +kernel
theorem dX9_isNewPlace_31 : decode cX9_isNewPlace 31 = .ok (.ireturn, 1) := by decide +kernel
theorem dX9_isOffset_0 : decode cX9_isOffset 0 = .ok (.iload_n 0, 1) := by decide +kernel
theorem dX9_isOffset_1 : decode cX9_isOffset 1 = .ok (.sipush (-999), 3) := by decide +kernel
theorem dX9_isOffset_4 : decode cX9_isOffset 4 = .ok (.sipush 999, 3) := by decide +kernel
theorem dX9_isOffset_7 : decode cX9_isOffset 7 = .ok (.invokestatic 143, 3) := by decide +kernel
theorem dX9_isOffset_10 : decode cX9_isOffset 10 = .ok (.ifCond .eq 20, 3) := by decide +kernel
theorem dX9_isOffset_13 : decode cX9_isOffset 13 = .ok (.iload_n 1, 1) := by decide +kernel
theorem dX9_isOffset_14 : decode cX9_isOffset 14 = .ok (.sipush (-999), 3) := by decide +kernel
theorem dX9_isOffset_17 : decode cX9_isOffset 17 = .ok (.sipush 999, 3) := by decide +kernel
theorem dX9_isOffset_20 : decode cX9_isOffset 20 = .ok (.invokestatic 143, 3) := by decide +kernel
theorem dX9_isOffset_23 : decode cX9_isOffset 23 = .ok (.ifCond .eq 7, 3) := by decide +kernel
theorem dX9_isOffset_26 : decode cX9_isOffset 26 = .ok (.iconst 1, 1) := by decide +kernel
theorem dX9_isOffset_27 : decode cX9_isOffset 27 = .ok (.goto 4, 3) := by decide +kernel
theorem dX9_isOffset_30 : decode cX9_isOffset 30 = .ok (.iconst 0, 1) := by decide +kernel
theorem dX9_isOffset_31 : decode cX9_isOffset 31 = .ok (.ireturn, 1) := by decide +kernel
theorem dX9_isGridWithin_0 : decode cX9_isGridWithin 0 = .ok (.iload_n 0, 1) := by decide +kernel
theorem dX9_isGridWithin_1 : decode cX9_isGridWithin 1 = .ok (.iconst 0, 1) := by decide +kernel
theorem dX9_isGridWithin_2 : decode cX9_isGridWithin 2 = .ok (.sipush 1000, 3) := by decide +kernel
theorem dX9_isGridWithin_5 : decode cX9_isGridWithin 5 = .ok (.invokestatic 143, 3) := by decide +kernel
theorem dX9_isGridWithin_8 : decode cX9_isGridWithin 8 = .ok (.ifCond .eq 74, 3) := by decide +kernel
theorem dX9_isGridWithin_11 : decode cX9_isGridWithin 11 = .ok (.iload_n 1, 1) := by decide +kernel
theorem dX9_isGridWithin_12 : decode cX9_isGridWithin 12 = .ok (.iconst 0, 1) := by decide +kernel
theorem dX9_isGridWithin_13 : decode cX9_isGridWithin 13 = .ok (.sipush 1000, 3) := by decide +kernel
theorem dX9_isGridWithin_16 : decode cX9_isGridWithin 16 = .ok (.invokestatic 143, 3) := by decide +kernel
theorem dX9_isGridWithin_19 : decode cX9_isGridWithin 19 = .ok (.ifCond .eq 63, 3) := by decide +kernel
theorem dX9_isGridWithin_22 : decode cX9_isGridWithin 22 = .ok (.iload_n 2, 1) := by decide +kernel
theorem dX9_isGridWithin_23 : decode cX9_isGridWithin 23 = .ok (.iconst 1, 1) := by decide +kernel
theorem dX9_isGridWithin_24 : decode cX9_isGridWithin 24 = .ok (.bipush 64, 2) := by decide +kernel
theorem dX9_isGridWithin_26 : decode cX9_isGridWithin 26 = .ok (.invokestatic 143, 3) := by decide +kernel
theorem dX9_isGridWithin_29 : decode cX9_isGridWithin 29 = .ok (.ifCond .eq 53, 3) := by decide +kernel
theorem dX9_isGridWithin_32 : decode cX9_isGridWithin 32 = .ok (.iload_n 3, 1) := by decide +kernel
theorem dX9_isGridWithin_33 : decode cX9_isGridWithin 33 = .ok (.iconst 2, 1) := by decide +kernel
theorem dX9_isGridWithin_34 : decode cX9_isGridWithin 34 = .ok (.iconst 5, 1) := by decide +kernel
theorem dX9_isGridWithin_35 : decode cX9_isGridWithin 35 = .ok (.invokestatic 143, 3) := by decide +kernel
theorem dX9_isGridWithin_38 : decode cX9_isGridWithin 38 = .ok (.ifCond .eq 44, 3) := by decide +kernel
theorem dX9_isGridWithin_41 : decode cX9_isGridWithin 41 = .ok (.iload 4, 2) := by decide +kernel
theorem dX9_isGridWithin_43 : decode cX9_isGridWithin 43 = .ok (.iconst 2, 1) := by decide +kernel
theorem dX9_isGridWithin_44 : decode cX9_isGridWithin 44 = .ok (.iconst 5, 1) := by decide +kernel
theorem dX9_isGridWithin_45 : decode cX9_isGridWithin 45 = .ok (.invokestatic 143, 3) := by decide +kernel
theorem dX9_isGridWithin_48 : decode cX9_isGridWithin 48 = .ok (.ifCond .eq 34, 3) := by decide +kernel
theorem dX9_isGridWithin_51 : decode cX9_isGridWithin 51 = .ok (.iload_n 0, 1) := by decide +kernel
theorem dX9_isGridWithin_52 : decode cX9_isGridWithin 52 = .ok (.iload_n 3, 1) := by decide +kernel
theorem dX9_isGridWithin_53 : decode cX9_isGridWithin 53 = .ok (.iconst 1, 1) := by decide +kernel
theorem dX9_isGridWithin_54 : decode cX9_isGridWithin 54 = .ok (.isub, 1) := by decide +kernel
theorem dX9_isGridWithin_55 : decode cX9_isGridWithin 55 = .ok (.iload_n 2, 1) := by decide +kernel
theorem dX9_isGridWithin_56 : decode cX9_isGridWithin 56 = .ok (.imul, 1) := by decide +kernel
theorem dX9_isGridWithin_57 : decode cX9_isGridWithin 57 = .ok (.iadd, 1) := by decide +kernel
theorem dX9_isGridWithin_58 : decode cX9_isGridWithin 58 = .ok (.sipush 1000, 3) := by decide +kernel
theorem dX9_isGridWithin_61 : decode cX9_isGridWithin 61 = .ok (.if_icmp .gt 21, 3) := by decide +kernel
theorem dX9_isGridWithin_64 : decode cX9_isGridWithin 64 = .ok (.iload_n 1, 1) := by decide +kernel
theorem dX9_isGridWithin_65 : decode cX9_isGridWithin 65 = .ok (.iload 4, 2) := by decide +kernel
theorem dX9_isGridWithin_67 : decode cX9_isGridWithin 67 = .ok (.iconst 1, 1) := by decide +kernel
theorem dX9_isGridWithin_68 : decode cX9_isGridWithin 68 = .ok (.isub, 1) := by decide +kernel
theorem dX9_isGridWithin_69 : decode cX9_isGridWithin 69 = .ok (.iload_n 2, 1) := by decide +kernel
theorem dX9_isGridWithin_70 : decode cX9_isGridWithin 70 = .ok (.imul, 1) := by decide +kernel
theorem dX9_isGridWithin_71 : decode cX9_isGridWithin 71 = .ok (.iadd, 1) := by decide +kernel
theorem dX9_isGridWithin_72 : decode cX9_isGridWithin 72 = .ok (.sipush 1000, 3) := by decide +kernel
theorem dX9_isGridWithin_75 : decode cX9_isGridWithin 75 = .ok (.if_icmp .gt 7, 3) := by decide +kernel
theorem dX9_isGridWithin_78 : decode cX9_isGridWithin 78 = .ok (.iconst 1, 1) := by decide +kernel
theorem dX9_isGridWithin_79 : decode cX9_isGridWithin 79 = .ok (.goto 4, 3) := by decide +kernel
theorem dX9_isGridWithin_82 : decode cX9_isGridWithin 82 = .ok (.iconst 0, 1) := by decide +kernel
theorem dX9_isGridWithin_83 : decode cX9_isGridWithin 83 = .ok (.ireturn, 1) := by decide +kernel
theorem dX9_foldedCells_0 : decode cX9_foldedCells 0 = .ok (.aload_n 1, 1) := by decide +kernel
theorem dX9_foldedCells_1 : decode cX9_foldedCells 1 = .ok (.ifnonnull 5, 3) := by decide +kernel
theorem dX9_foldedCells_4 : decode cX9_foldedCells 4 = .ok (.iconst 0, 1) := by decide +kernel
theorem dX9_foldedCells_5 : decode cX9_foldedCells 5 = .ok (.ireturn, 1) := by decide +kernel
theorem dX9_foldedCells_6 : decode cX9_foldedCells 6 = .ok (.iconst 0, 1) := by decide +kernel
theorem dX9_foldedCells_7 : decode cX9_foldedCells 7 = .ok (.istore_n 2, 1) := by decide +kernel
theorem dX9_foldedCells_8 : decode cX9_foldedCells 8 = .ok (.iconst 0, 1) := by decide +kernel
theorem dX9_foldedCells_9 : decode cX9_foldedCells 9 = .ok (.istore_n 3, 1) := by decide +kernel
theorem dX9_foldedCells_10 : decode cX9_foldedCells 10 = .ok (.iload_n 3, 1) := by decide +kernel
theorem dX9_foldedCells_11 : decode cX9_foldedCells 11 = .ok (.aload_n 1, 1) := by decide +kernel
theorem dX9_foldedCells_12 : decode cX9_foldedCells 12 = .ok (.getfield 122, 3) := by decide +kernel
theorem dX9_foldedCells_15 : decode cX9_foldedCells 15 = .ok (.iconst 1, 1) := by decide +kernel
theorem dX9_foldedCells_16 : decode cX9_foldedCells 16 = .ok (.isub, 1) := by decide +kernel
theorem dX9_foldedCells_17 : decode cX9_foldedCells 17 = .ok (.if_icmp .ge 58, 3) := by decide +kernel
theorem dX9_foldedCells_20 : decode cX9_foldedCells 20 = .ok (.iconst 0, 1) := by decide +kernel
theorem dX9_foldedCells_21 : decode cX9_foldedCells 21 = .ok (.istore 4, 2) := by decide +kernel
theorem dX9_foldedCells_23 : decode cX9_foldedCells 23 = .ok (.iload 4, 2) := by decide +kernel
theorem dX9_foldedCells_25 : decode cX9_foldedCells 25 = .ok (.aload_n 1, 1) := by decide +kernel
theorem dX9_foldedCells_26 : decode cX9_foldedCells 26 = .ok (.getfield 119, 3) := by decide +kernel
theorem dX9_foldedCells_29 : decode cX9_foldedCells 29 = .ok (.iconst 1, 1) := by decide +kernel
theorem dX9_foldedCells_30 : decode cX9_foldedCells 30 = .ok (.isub, 1) := by decide +kernel
theorem dX9_foldedCells_31 : decode cX9_foldedCells 31 = .ok (.if_icmp .ge 38, 3) := by decide +kernel
theorem dX9_foldedCells_34 : decode cX9_foldedCells 34 = .ok (.aload_n 0, 1) := by decide +kernel
theorem dX9_foldedCells_35 : decode cX9_foldedCells 35 = .ok (.getfield 57, 3) := by decide +kernel
theorem dX9_foldedCells_38 : decode cX9_foldedCells 38 = .ok (.aload_n 1, 1) := by decide +kernel
theorem dX9_foldedCells_39 : decode cX9_foldedCells 39 = .ok (.iload 4, 2) := by decide +kernel
theorem dX9_foldedCells_41 : decode cX9_foldedCells 41 = .ok (.iload_n 3, 1) := by decide +kernel
theorem dX9_foldedCells_42 : decode cX9_foldedCells 42 = .ok (.invokevirtual 167, 3) := by decide +kernel
theorem dX9_foldedCells_45 : decode cX9_foldedCells 45 = .ok (.iload_n 2, 1) := by decide +kernel
theorem dX9_foldedCells_46 : decode cX9_foldedCells 46 = .ok (.aload_n 0, 1) := by decide +kernel
theorem dX9_foldedCells_47 : decode cX9_foldedCells 47 = .ok (.getfield 57, 3) := by decide +kernel
theorem dX9_foldedCells_50 : decode cX9_foldedCells 50 = .ok (.invokevirtual 178, 3) := by decide +kernel
theorem dX9_foldedCells_53 : decode cX9_foldedCells 53 = .ok (.ifCond .eq 7, 3) := by decide +kernel
theorem dX9_foldedCells_56 : decode cX9_foldedCells 56 = .ok (.iconst 1, 1) := by decide +kernel
theorem dX9_foldedCells_57 : decode cX9_foldedCells 57 = .ok (.goto 4, 3) := by decide +kernel
theorem dX9_foldedCells_60 : decode cX9_foldedCells 60 = .ok (.iconst 0, 1) := by decide +kernel
theorem dX9_foldedCells_61 : decode cX9_foldedCells 61 = .ok (.iadd, 1) := by decide +kernel
theorem dX9_foldedCells_62 : decode cX9_foldedCells 62 = .ok (.istore_n 2, 1) := by decide +kernel
theorem dX9_foldedCells_63 : decode cX9_foldedCells 63 = .ok (.iinc 4 1, 3) := by decide +kernel
theorem dX9_foldedCells_66 : decode cX9_foldedCells 66 = .ok (.goto (-43), 3) := by decide +kernel
theorem dX9_foldedCells_69 : decode cX9_foldedCells 69 = .ok (.iinc 3 1, 3) := by decide +kernel
theorem dX9_foldedCells_72 : decode cX9_foldedCells 72 = .ok (.goto (-62), 3) := by decide +kernel
theorem dX9_foldedCells_75 : decode cX9_foldedCells 75 = .ok (.iload_n 2, 1) := by decide +kernel
theorem dX9_foldedCells_76 : decode cX9_foldedCells 76 = .ok (.ireturn, 1) := by decide +kernel
theorem dX9_unsureCells_0 : decode cX9_unsureCells 0 = .ok (.aload_n 1, 1) := by decide +kernel
theorem dX9_unsureCells_1 : decode cX9_unsureCells 1 = .ok (.ifnonnull 5, 3) := by decide +kernel
theorem dX9_unsureCells_4 : decode cX9_unsureCells 4 = .ok (.iconst 0, 1) := by decide +kernel
theorem dX9_unsureCells_5 : decode cX9_unsureCells 5 = .ok (.ireturn, 1) := by decide +kernel
theorem dX9_unsureCells_6 : decode cX9_unsureCells 6 = .ok (.iconst 0, 1) := by decide +kernel
theorem dX9_unsureCells_7 : decode cX9_unsureCells 7 = .ok (.istore_n 2, 1) := by decide +kernel
theorem dX9_unsureCells_8 : decode cX9_unsureCells 8 = .ok (.iconst 0, 1) := by decide +kernel
theorem dX9_unsureCells_9 : decode cX9_unsureCells 9 = .ok (.istore_n 3, 1) := by decide +kernel
theorem dX9_unsureCells_10 : decode cX9_unsureCells 10 = .ok (.iload_n 3, 1) := by decide +kernel
theorem dX9_unsureCells_11 : decode cX9_unsureCells 11 = .ok (.aload_n 1, 1) := by decide +kernel
theorem dX9_unsureCells_12 : decode cX9_unsureCells 12 = .ok (.getfield 122, 3) := by decide +kernel
theorem dX9_unsureCells_15 : decode cX9_unsureCells 15 = .ok (.iconst 1, 1) := by decide +kernel
theorem dX9_unsureCells_16 : decode cX9_unsureCells 16 = .ok (.isub, 1) := by decide +kernel
theorem dX9_unsureCells_17 : decode cX9_unsureCells 17 = .ok (.if_icmp .ge 58, 3) := by decide +kernel
theorem dX9_unsureCells_20 : decode cX9_unsureCells 20 = .ok (.iconst 0, 1) := by decide +kernel
theorem dX9_unsureCells_21 : decode cX9_unsureCells 21 = .ok (.istore 4, 2) := by decide +kernel
theorem dX9_unsureCells_23 : decode cX9_unsureCells 23 = .ok (.iload 4, 2) := by decide +kernel
theorem dX9_unsureCells_25 : decode cX9_unsureCells 25 = .ok (.aload_n 1, 1) := by decide +kernel
theorem dX9_unsureCells_26 : decode cX9_unsureCells 26 = .ok (.getfield 119, 3) := by decide +kernel
theorem dX9_unsureCells_29 : decode cX9_unsureCells 29 = .ok (.iconst 1, 1) := by decide +kernel
theorem dX9_unsureCells_30 : decode cX9_unsureCells 30 = .ok (.isub, 1) := by decide +kernel
theorem dX9_unsureCells_31 : decode cX9_unsureCells 31 = .ok (.if_icmp .ge 38, 3) := by decide +kernel
theorem dX9_unsureCells_34 : decode cX9_unsureCells 34 = .ok (.aload_n 0, 1) := by decide +kernel
theorem dX9_unsureCells_35 : decode cX9_unsureCells 35 = .ok (.getfield 57, 3) := by decide +kernel
theorem dX9_unsureCells_38 : decode cX9_unsureCells 38 = .ok (.aload_n 1, 1) := by decide +kernel
theorem dX9_unsureCells_39 : decode cX9_unsureCells 39 = .ok (.iload 4, 2) := by decide +kernel
theorem dX9_unsureCells_41 : decode cX9_unsureCells 41 = .ok (.iload_n 3, 1) := by decide +kernel
theorem dX9_unsureCells_42 : decode cX9_unsureCells 42 = .ok (.invokevirtual 167, 3) := by decide +kernel
theorem dX9_unsureCells_45 : decode cX9_unsureCells 45 = .ok (.iload_n 2, 1) := by decide +kernel
theorem dX9_unsureCells_46 : decode cX9_unsureCells 46 = .ok (.aload_n 0, 1) := by decide +kernel
theorem dX9_unsureCells_47 : decode cX9_unsureCells 47 = .ok (.getfield 57, 3) := by decide +kernel
theorem dX9_unsureCells_50 : decode cX9_unsureCells 50 = .ok (.invokevirtual 174, 3) := by decide +kernel
theorem dX9_unsureCells_53 : decode cX9_unsureCells 53 = .ok (.ifCond .eq 7, 3) := by decide +kernel
theorem dX9_unsureCells_56 : decode cX9_unsureCells 56 = .ok (.iconst 0, 1) := by decide +kernel
theorem dX9_unsureCells_57 : decode cX9_unsureCells 57 = .ok (.goto 4, 3) := by decide +kernel
theorem dX9_unsureCells_60 : decode cX9_unsureCells 60 = .ok (.iconst 1, 1) := by decide +kernel
theorem dX9_unsureCells_61 : decode cX9_unsureCells 61 = .ok (.iadd, 1) := by decide +kernel
theorem dX9_unsureCells_62 : decode cX9_unsureCells 62 = .ok (.istore_n 2, 1) := by decide +kernel
theorem dX9_unsureCells_63 : decode cX9_unsureCells 63 = .ok (.iinc 4 1, 3) := by decide +kernel
theorem dX9_unsureCells_66 : decode cX9_unsureCells 66 = .ok (.goto (-43), 3) := by decide +kernel
theorem dX9_unsureCells_69 : decode cX9_unsureCells 69 = .ok (.iinc 3 1, 3) := by decide +kernel
theorem dX9_unsureCells_72 : decode cX9_unsureCells 72 = .ok (.goto (-62), 3) := by decide +kernel
theorem dX9_unsureCells_75 : decode cX9_unsureCells 75 = .ok (.iload_n 2, 1) := by decide +kernel
theorem dX9_unsureCells_76 : decode cX9_unsureCells 76 = .ok (.ireturn, 1) := by decide +kernel
theorem dX9_foldedCellsOfAll_0 : decode cX9_foldedCellsOfAll 0 = .ok (.iconst 0, 1) := by decide +kernel
theorem dX9_foldedCellsOfAll_1 : decode cX9_foldedCellsOfAll 1 = .ok (.istore_n 1, 1) := by decide +kernel
theorem dX9_foldedCellsOfAll_2 : decode cX9_foldedCellsOfAll 2 = .ok (.iconst 0, 1) := by decide +kernel
theorem dX9_foldedCellsOfAll_3 : decode cX9_foldedCellsOfAll 3 = .ok (.istore_n 2, 1) := by decide +kernel
theorem dX9_foldedCellsOfAll_4 : decode cX9_foldedCellsOfAll 4 = .ok (.iload_n 2, 1) := by decide +kernel
theorem dX9_foldedCellsOfAll_5 : decode cX9_foldedCellsOfAll 5 = .ok (.aload_n 0, 1) := by decide +kernel
theorem dX9_foldedCellsOfAll_6 : decode cX9_foldedCellsOfAll 6 = .ok (.getfield 12, 3) := by decide +kernel
theorem dX9_foldedCellsOfAll_9 : decode cX9_foldedCellsOfAll 9 = .ok (.invokevirtual 61, 3) := by decide +kernel
theorem dX9_foldedCellsOfAll_12 : decode cX9_foldedCellsOfAll 12 = .ok (.if_icmp .ge 24, 3) := by decide +kernel
theorem dX9_foldedCellsOfAll_15 : decode cX9_foldedCellsOfAll 15 = .ok (.iload_n 1, 1) := by decide +kernel
theorem dX9_foldedCellsOfAll_16 : decode cX9_foldedCellsOfAll 16 = .ok (.aload_n 0, 1) := by decide +kernel
theorem dX9_foldedCellsOfAll_17 : decode cX9_foldedCellsOfAll 17 = .ok (.aload_n 0, 1) := by decide +kernel
theorem dX9_foldedCellsOfAll_18 : decode cX9_foldedCellsOfAll 18 = .ok (.getfield 12, 3) := by decide +kernel
theorem dX9_foldedCellsOfAll_21 : decode cX9_foldedCellsOfAll 21 = .ok (.iload_n 2, 1) := by decide +kernel
theorem dX9_foldedCellsOfAll_22 : decode cX9_foldedCellsOfAll 22 = .ok (.invokevirtual 83, 3) := by decide +kernel
theorem dX9_foldedCellsOfAll_25 : decode cX9_foldedCellsOfAll 25 = .ok (.invokevirtual 135, 3) := by decide +kernel
theorem dX9_foldedCellsOfAll_28 : decode cX9_foldedCellsOfAll 28 = .ok (.iadd, 1) := by decide +kernel
theorem dX9_foldedCellsOfAll_29 : decode cX9_foldedCellsOfAll 29 = .ok (.istore_n 1, 1) := by decide +kernel
theorem dX9_foldedCellsOfAll_30 : decode cX9_foldedCellsOfAll 30 = .ok (.iinc 2 1, 3) := by decide +kernel
theorem dX9_foldedCellsOfAll_33 : decode cX9_foldedCellsOfAll 33 = .ok (.goto (-29), 3) := by decide +kernel
theorem dX9_foldedCellsOfAll_36 : decode cX9_foldedCellsOfAll 36 = .ok (.iload_n 1, 1) := by decide +kernel
theorem dX9_foldedCellsOfAll_37 : decode cX9_foldedCellsOfAll 37 = .ok (.ireturn, 1) := by decide +kernel
theorem dX9_unsureCellsOfAll_0 : decode cX9_unsureCellsOfAll 0 = .ok (.iconst 0, 1) := by decide +kernel
theorem dX9_unsureCellsOfAll_1 : decode cX9_unsureCellsOfAll 1 = .ok (.istore_n 1, 1) := by decide +kernel
theorem dX9_unsureCellsOfAll_2 : decode cX9_unsureCellsOfAll 2 = .ok (.iconst 0, 1) := by decide +kernel
theorem dX9_unsureCellsOfAll_3 : decode cX9_unsureCellsOfAll 3 = .ok (.istore_n 2, 1) := by decide +kernel
theorem dX9_unsureCellsOfAll_4 : decode cX9_unsureCellsOfAll 4 = .ok (.iload_n 2, 1) := by decide +kernel
theorem dX9_unsureCellsOfAll_5 : decode cX9_unsureCellsOfAll 5 = .ok (.aload_n 0, 1) := by decide +kernel
theorem dX9_unsureCellsOfAll_6 : decode cX9_unsureCellsOfAll 6 = .ok (.getfield 12, 3) := by decide +kernel
theorem dX9_unsureCellsOfAll_9 : decode cX9_unsureCellsOfAll 9 = .ok (.invokevirtual 61, 3) := by decide +kernel
theorem dX9_unsureCellsOfAll_12 : decode cX9_unsureCellsOfAll 12 = .ok (.if_icmp .ge 24, 3) := by decide +kernel
theorem dX9_unsureCellsOfAll_15 : decode cX9_unsureCellsOfAll 15 = .ok (.iload_n 1, 1) := by decide +kernel
theorem dX9_unsureCellsOfAll_16 : decode cX9_unsureCellsOfAll 16 = .ok (.aload_n 0, 1) := by decide +kernel
theorem dX9_unsureCellsOfAll_17 : decode cX9_unsureCellsOfAll 17 = .ok (.aload_n 0, 1) := by decide +kernel
theorem dX9_unsureCellsOfAll_18 : decode cX9_unsureCellsOfAll 18 = .ok (.getfield 12, 3) := by decide +kernel
theorem dX9_unsureCellsOfAll_21 : decode cX9_unsureCellsOfAll 21 = .ok (.iload_n 2, 1) := by decide +kernel
theorem dX9_unsureCellsOfAll_22 : decode cX9_unsureCellsOfAll 22 = .ok (.invokevirtual 83, 3) := by decide +kernel
theorem dX9_unsureCellsOfAll_25 : decode cX9_unsureCellsOfAll 25 = .ok (.invokevirtual 290, 3) := by decide +kernel
theorem dX9_unsureCellsOfAll_28 : decode cX9_unsureCellsOfAll 28 = .ok (.iadd, 1) := by decide +kernel
theorem dX9_unsureCellsOfAll_29 : decode cX9_unsureCellsOfAll 29 = .ok (.istore_n 1, 1) := by decide +kernel
theorem dX9_unsureCellsOfAll_30 : decode cX9_unsureCellsOfAll 30 = .ok (.iinc 2 1, 3) := by decide +kernel
theorem dX9_unsureCellsOfAll_33 : decode cX9_unsureCellsOfAll 33 = .ok (.goto (-29), 3) := by decide +kernel
theorem dX9_unsureCellsOfAll_36 : decode cX9_unsureCellsOfAll 36 = .ok (.iload_n 1, 1) := by decide +kernel
theorem dX9_unsureCellsOfAll_37 : decode cX9_unsureCellsOfAll 37 = .ok (.ireturn, 1) := by decide +kernel
theorem dX9_gapsOfAll_0 : decode cX9_gapsOfAll 0 = .ok (.iconst 0, 1) := by decide +kernel
theorem dX9_gapsOfAll_1 : decode cX9_gapsOfAll 1 = .ok (.istore_n 1, 1) := by decide +kernel
theorem dX9_gapsOfAll_2 : decode cX9_gapsOfAll 2 = .ok (.iconst 0, 1) := by decide +kernel
theorem dX9_gapsOfAll_3 : decode cX9_gapsOfAll 3 = .ok (.istore_n 2, 1) := by decide +kernel
theorem dX9_gapsOfAll_4 : decode cX9_gapsOfAll 4 = .ok (.iload_n 2, 1) := by decide +kernel
theorem dX9_gapsOfAll_5 : decode cX9_gapsOfAll 5 = .ok (.aload_n 0, 1) := by decide +kernel
theorem dX9_gapsOfAll_6 : decode cX9_gapsOfAll 6 = .ok (.getfield 12, 3) := by decide +kernel
theorem dX9_gapsOfAll_9 : decode cX9_gapsOfAll 9 = .ok (.invokevirtual 61, 3) := by decide +kernel
theorem dX9_gapsOfAll_12 : decode cX9_gapsOfAll 12 = .ok (.if_icmp .ge 27, 3) := by decide +kernel
theorem dX9_gapsOfAll_15 : decode cX9_gapsOfAll 15 = .ok (.iload_n 1, 1) := by decide +kernel
theorem dX9_gapsOfAll_16 : decode cX9_gapsOfAll 16 = .ok (.aload_n 0, 1) := by decide +kernel
theorem dX9_gapsOfAll_17 : decode cX9_gapsOfAll 17 = .ok (.getfield 12, 3) := by decide +kernel
theorem dX9_gapsOfAll_20 : decode cX9_gapsOfAll 20 = .ok (.aload_n 0, 1) := by decide +kernel
theorem dX9_gapsOfAll_21 : decode cX9_gapsOfAll 21 = .ok (.getfield 12, 3) := by decide +kernel
theorem dX9_gapsOfAll_24 : decode cX9_gapsOfAll 24 = .ok (.iload_n 2, 1) := by decide +kernel
theorem dX9_gapsOfAll_25 : decode cX9_gapsOfAll 25 = .ok (.invokevirtual 83, 3) := by decide +kernel
theorem dX9_gapsOfAll_28 : decode cX9_gapsOfAll 28 = .ok (.invokestatic 132, 3) := by decide +kernel
theorem dX9_gapsOfAll_31 : decode cX9_gapsOfAll 31 = .ok (.iadd, 1) := by decide +kernel
theorem dX9_gapsOfAll_32 : decode cX9_gapsOfAll 32 = .ok (.istore_n 1, 1) := by decide +kernel
theorem dX9_gapsOfAll_33 : decode cX9_gapsOfAll 33 = .ok (.iinc 2 1, 3) := by decide +kernel
theorem dX9_gapsOfAll_36 : decode cX9_gapsOfAll 36 = .ok (.goto (-32), 3) := by decide +kernel
theorem dX9_gapsOfAll_39 : decode cX9_gapsOfAll 39 = .ok (.iload_n 1, 1) := by decide +kernel
theorem dX9_gapsOfAll_40 : decode cX9_gapsOfAll 40 = .ok (.ireturn, 1) := by decide +kernel
theorem dX9_firstWithGreatestGap_0 : decode cX9_firstWithGreatestGap 0 = .ok (.iconst (-1), 1) := by decide +kernel
theorem dX9_firstWithGreatestGap_1 : decode cX9_firstWithGreatestGap 1 = .ok (.istore_n 1, 1) := by decide +kernel
theorem dX9_firstWithGreatestGap_2 : decode cX9_firstWithGreatestGap 2 = .ok (.iconst 0, 1) := by decide +kernel
theorem dX9_firstWithGreatestGap_3 : decode cX9_firstWithGreatestGap 3 = .ok (.istore_n 2, 1) := by decide +kernel
theorem dX9_firstWithGreatestGap_4 : decode cX9_firstWithGreatestGap 4 = .ok (.iconst 0, 1) := by decide +kernel
theorem dX9_firstWithGreatestGap_5 : decode cX9_firstWithGreatestGap 5 = .ok (.istore_n 3, 1) := by decide +kernel
theorem dX9_firstWithGreatestGap_6 : decode cX9_firstWithGreatestGap 6 = .ok (.iload_n 3, 1) := by decide +kernel
theorem dX9_firstWithGreatestGap_7 : decode cX9_firstWithGreatestGap 7 = .ok (.aload_n 0, 1) := by decide +kernel
theorem dX9_firstWithGreatestGap_8 : decode cX9_firstWithGreatestGap 8 = .ok (.getfield 12, 3) := by decide +kernel
theorem dX9_firstWithGreatestGap_11 : decode cX9_firstWithGreatestGap 11 = .ok (.invokevirtual 61, 3) := by decide +kernel
theorem dX9_firstWithGreatestGap_14 : decode cX9_firstWithGreatestGap 14 = .ok (.if_icmp .ge 37, 3) := by decide +kernel
theorem dX9_firstWithGreatestGap_17 : decode cX9_firstWithGreatestGap 17 = .ok (.aload_n 0, 1) := by decide +kernel
theorem dX9_firstWithGreatestGap_18 : decode cX9_firstWithGreatestGap 18 = .ok (.getfield 12, 3) := by decide +kernel
theorem dX9_firstWithGreatestGap_21 : decode cX9_firstWithGreatestGap 21 = .ok (.aload_n 0, 1) := by decide +kernel
theorem dX9_firstWithGreatestGap_22 : decode cX9_firstWithGreatestGap 22 = .ok (.getfield 12, 3) := by decide +kernel
theorem dX9_firstWithGreatestGap_25 : decode cX9_firstWithGreatestGap 25 = .ok (.iload_n 3, 1) := by decide +kernel
theorem dX9_firstWithGreatestGap_26 : decode cX9_firstWithGreatestGap 26 = .ok (.invokevirtual 83, 3) := by decide +kernel
theorem dX9_firstWithGreatestGap_29 : decode cX9_firstWithGreatestGap 29 = .ok (.invokestatic 87, 3) := by decide +kernel
theorem dX9_firstWithGreatestGap_32 : decode cX9_firstWithGreatestGap 32 = .ok (.istore 4, 2) := by decide +kernel
theorem dX9_firstWithGreatestGap_34 : decode cX9_firstWithGreatestGap 34 = .ok (.iload 4, 2) := by decide +kernel
theorem dX9_firstWithGreatestGap_36 : decode cX9_firstWithGreatestGap 36 = .ok (.iload_n 2, 1) := by decide +kernel
theorem dX9_firstWithGreatestGap_37 : decode cX9_firstWithGreatestGap 37 = .ok (.if_icmp .le 8, 3) := by decide +kernel
theorem dX9_firstWithGreatestGap_40 : decode cX9_firstWithGreatestGap 40 = .ok (.iload 4, 2) := by decide +kernel
theorem dX9_firstWithGreatestGap_42 : decode cX9_firstWithGreatestGap 42 = .ok (.istore_n 2, 1) := by decide +kernel
theorem dX9_firstWithGreatestGap_43 : decode cX9_firstWithGreatestGap 43 = .ok (.iload_n 3, 1) := by decide +kernel
theorem dX9_firstWithGreatestGap_44 : decode cX9_firstWithGreatestGap 44 = .ok (.istore_n 1, 1) := by decide +kernel
theorem dX9_firstWithGreatestGap_45 : decode cX9_firstWithGreatestGap 45 = .ok (.iinc 3 1, 3) := by decide +kernel
theorem dX9_firstWithGreatestGap_48 : decode cX9_firstWithGreatestGap 48 = .ok (.goto (-42), 3) := by decide +kernel
theorem dX9_firstWithGreatestGap_51 : decode cX9_firstWithGreatestGap 51 = .ok (.iload_n 1, 1) := by decide +kernel
theorem dX9_firstWithGreatestGap_52 : decode cX9_firstWithGreatestGap 52 = .ok (.ireturn, 1) := by decide +kernel
theorem dX10_init_0 : decode cX10_init 0 = .ok (.aload_n 0, 1) := by decide +kernel
theorem dX10_init_1 : decode cX10_init 1 = .ok (.invokespecial 1, 3) := by decide +kernel
theorem dX10_init_4 : decode cX10_init 4 = .ok (.aload_n 0, 1) := by decide +kernel
theorem dX10_init_5 : decode cX10_init 5 = .ok (.sipush 338, 3) := by decide +kernel
theorem dX10_init_8 : decode cX10_init 8 = .ok (.newarray .int, 2) := by decide +kernel
theorem dX10_init_10 : decode cX10_init 10 = .ok (.putfield 7, 3) := by decide +kernel
theorem dX10_init_13 : decode cX10_init 13 = .ok (.aload_n 0, 1) := by decide +kernel
theorem dX10_init_14 : decode cX10_init 14 = .ok (.sipush 5408, 3) := by decide +kernel
theorem dX10_init_17 : decode cX10_init 17 = .ok (.newarray .int, 2) := by decide +kernel
theorem dX10_init_19 : decode cX10_init 19 = .ok (.putfield 13, 3) := by decide +kernel
theorem dX10_init_22 : decode cX10_init 22 = .ok (.aload_n 0, 1) := by decide +kernel
theorem dX10_init_23 : decode cX10_init 23 = .ok (.sipush 676, 3) := by decide +kernel
theorem dX10_init_26 : decode cX10_init 26 = .ok (.newarray .int, 2) := by decide +kernel
theorem dX10_init_28 : decode cX10_init 28 = .ok (.putfield 16, 3) := by decide +kernel
theorem dX10_init_31 : decode cX10_init 31 = .ok (.aload_n 0, 1) := by decide +kernel
theorem dX10_init_32 : decode cX10_init 32 = .ok (.iconst 2, 1) := by decide +kernel
theorem dX10_init_33 : decode cX10_init 33 = .ok (.newarray .boolean, 2) := by decide +kernel
theorem dX10_init_35 : decode cX10_init 35 = .ok (.putfield 19, 3) := by decide +kernel
theorem dX10_init_38 : decode cX10_init 38 = .ok (.aload_n 0, 1) := by decide +kernel
theorem dX10_init_39 : decode cX10_init 39 = .ok (.iconst 2, 1) := by decide +kernel
theorem dX10_init_40 : decode cX10_init 40 = .ok (.newarray .long, 2) := by decide +kernel
theorem dX10_init_42 : decode cX10_init 42 = .ok (.putfield 23, 3) := by decide +kernel
theorem dX10_init_45 : decode cX10_init 45 = .ok (.aload_n 0, 1) := by decide +kernel
theorem dX10_init_46 : decode cX10_init 46 = .ok (.bipush 20, 2) := by decide +kernel
theorem dX10_init_48 : decode cX10_init 48 = .ok (.newarray .int, 2) := by decide +kernel
theorem dX10_init_50 : decode cX10_init 50 = .ok (.putfield 27, 3) := by decide +kernel
theorem dX10_init_53 : decode cX10_init 53 = .ok (.aload_n 0, 1) := by decide +kernel
theorem dX10_init_54 : decode cX10_init 54 = .ok (.bipush 20, 2) := by decide +kernel
theorem dX10_init_56 : decode cX10_init 56 = .ok (.newarray .int, 2) := by decide +kernel
theorem dX10_init_58 : decode cX10_init 58 = .ok (.putfield 30, 3) := by decide +kernel
theorem dX10_init_61 : decode cX10_init 61 = .ok (.aload_n 0, 1) := by decide +kernel
theorem dX10_init_62 : decode cX10_init 62 = .ok (.bipush 20, 2) := by decide +kernel
theorem dX10_init_64 : decode cX10_init 64 = .ok (.newarray .int, 2) := by decide +kernel
theorem dX10_init_66 : decode cX10_init 66 = .ok (.putfield 33, 3) := by decide +kernel
theorem dX10_init_69 : decode cX10_init 69 = .ok (.aload_n 0, 1) := by decide +kernel
theorem dX10_init_70 : decode cX10_init 70 = .ok (.bipush 61, 2) := by decide +kernel
theorem dX10_init_72 : decode cX10_init 72 = .ok (.newarray .int, 2) := by decide +kernel
theorem dX10_init_74 : decode cX10_init 74 = .ok (.putfield 36, 3) := by decide +kernel
theorem dX10_init_77 : decode cX10_init 77 = .ok (.aload_n 0, 1) := by decide +kernel
theorem dX10_init_78 : decode cX10_init 78 = .ok (.bipush 61, 2) := by decide +kernel
theorem dX10_init_80 : decode cX10_init 80 = .ok (.newarray .int, 2) := by decide +kernel
theorem dX10_init_82 : decode cX10_init 82 = .ok (.putfield 39, 3) := by decide +kernel
theorem dX10_init_85 : decode cX10_init 85 = .ok (.aload_n 0, 1) := by decide +kernel
theorem dX10_init_86 : decode cX10_init 86 = .ok (.lconst 0, 1) := by decide +kernel
theorem dX10_init_87 : decode cX10_init 87 = .ok (.putfield 42, 3) := by decide +kernel
theorem dX10_init_90 : decode cX10_init 90 = .ok (.return_, 1) := by decide +kernel
theorem dX10_in_0 : decode cX10_in 0 = .ok (.lload_n 0, 1) := by decide +kernel
theorem dX10_in_1 : decode cX10_in 1 = .ok (.lload_n 2, 1) := by decide +kernel
theorem dX10_in_2 : decode cX10_in 2 = .ok (.lcmp, 1) := by decide +kernel
theorem dX10_in_3 : decode cX10_in 3 = .ok (.ifCond .lt 14, 3) := by decide +kernel
theorem dX10_in_6 : decode cX10_in 6 = .ok (.lload_n 0, 1) := by decide +kernel
theorem dX10_in_7 : decode cX10_in 7 = .ok (.lload 4, 2) := by decide +kernel
theorem dX10_in_9 : decode cX10_in 9 = .ok (.lcmp, 1) := by decide +kernel
theorem dX10_in_10 : decode cX10_in 10 = .ok (.ifCond .gt 7, 3) := by decide +kernel
theorem dX10_in_13 : decode cX10_in 13 = .ok (.iconst 1, 1) := by decide +kernel
theorem dX10_in_14 : decode cX10_in 14 = .ok (.goto 4, 3) := by decide +kernel
theorem dX10_in_17 : decode cX10_in 17 = .ok (.iconst 0, 1) := by decide +kernel
theorem dX10_in_18 : decode cX10_in 18 = .ok (.ireturn, 1) := by decide +kernel
theorem dX10_size_0 : decode cX10_size 0 = .ok (.iload_n 0, 1) := by decide +kernel
theorem dX10_size_1 : decode cX10_size 1 = .ok (.ifCond .ge 8, 3) := by decide +kernel
theorem dX10_size_4 : decode cX10_size 4 = .ok (.iload_n 0, 1) := by decide +kernel
theorem dX10_size_5 : decode cX10_size 5 = .ok (.ineg, 1) := by decide +kernel
theorem dX10_size_6 : decode cX10_size 6 = .ok (.goto 4, 3) := by decide +kernel
theorem dX10_size_9 : decode cX10_size 9 = .ok (.iload_n 0, 1) := by decide +kernel
theorem dX10_size_10 : decode cX10_size 10 = .ok (.ireturn, 1) := by decide +kernel
theorem dX10_larger_0 : decode cX10_larger 0 = .ok (.iload_n 0, 1) := by decide +kernel
theorem dX10_larger_1 : decode cX10_larger 1 = .ok (.iload_n 1, 1) := by decide +kernel
theorem dX10_larger_2 : decode cX10_larger 2 = .ok (.if_icmp .le 7, 3) := by decide +kernel
theorem dX10_larger_5 : decode cX10_larger 5 = .ok (.iload_n 0, 1) := by decide +kernel
theorem dX10_larger_6 : decode cX10_larger 6 = .ok (.goto 4, 3) := by decide +kernel
theorem dX10_larger_9 : decode cX10_larger 9 = .ok (.iload_n 1, 1) := by decide +kernel
theorem dX10_larger_10 : decode cX10_larger 10 = .ok (.ireturn, 1) := by decide +kernel
theorem dX10_its_0 : decode cX10_its 0 = .ok (.aload_n 0, 1) := by decide +kernel
theorem dX10_its_1 : decode cX10_its 1 = .ok (.getfield 7, 3) := by decide +kernel
theorem dX10_its_4 : decode cX10_its 4 = .ok (.iconst 2, 1) := by decide +kernel
theorem dX10_its_5 : decode cX10_its 5 = .ok (.bipush 6, 2) := by decide +kernel
theorem dX10_its_7 : decode cX10_its 7 = .ok (.iload_n 1, 1) := by decide +kernel
theorem dX10_its_8 : decode cX10_its 8 = .ok (.imul, 1) := by decide +kernel
theorem dX10_its_9 : decode cX10_its 9 = .ok (.iadd, 1) := by decide +kernel
theorem dX10_its_10 : decode cX10_its 10 = .ok (.iload_n 2, 1) := by decide +kernel
theorem dX10_its_11 : decode cX10_its 11 = .ok (.iadd, 1) := by decide +kernel
theorem dX10_its_12 : decode cX10_its 12 = .ok (.iaload, 1) := by decide +kernel
theorem dX10_its_13 : decode cX10_its 13 = .ok (.ireturn, 1) := by decide +kernel
theorem dX10_isGrid_0 : decode cX10_isGrid 0 = .ok (.iload_n 1, 1) := by decide +kernel
theorem dX10_isGrid_1 : decode cX10_isGrid 1 = .ok (.i2l, 1) := by decide +kernel
theorem dX10_isGrid_2 : decode cX10_isGrid 2 = .ok (.lconst 0, 1) := by decide +kernel
theorem dX10_isGrid_3 : decode cX10_isGrid 3 = .ok (.aload_n 0, 1) := by decide +kernel
theorem dX10_isGrid_4 : decode cX10_isGrid 4 = .ok (.getfield 7, 3) := by decide +kernel
theorem dX10_isGrid_7 : decode cX10_isGrid 7 = .ok (.iconst 0, 1) := by decide +kernel
theorem dX10_isGrid_8 : decode cX10_isGrid 8 = .ok (.iaload, 1) := by decide +kernel
theorem dX10_isGrid_9 : decode cX10_isGrid 9 = .ok (.iconst 1, 1) := by decide +kernel
theorem dX10_isGrid_10 : decode cX10_isGrid 10 = .ok (.isub, 1) := by decide +kernel
theorem dX10_isGrid_11 : decode cX10_isGrid 11 = .ok (.i2l, 1) := by decide +kernel
theorem dX10_isGrid_12 : decode cX10_isGrid 12 = .ok (.invokestatic 50, 3) := by decide +kernel
theorem dX10_isGrid_15 : decode cX10_isGrid 15 = .ok (.ireturn, 1) := by decide +kernel
theorem dX10_isNode_0 : decode cX10_isNode 0 = .ok (.aload_n 0, 1) := by decide +kernel
theorem dX10_isNode_1 : decode cX10_isNode 1 = .ok (.iload_n 1, 1) := by decide +kernel
theorem dX10_isNode_2 : decode cX10_isNode 2 = .ok (.invokevirtual 54, 3) := by decide +kernel
theorem dX10_isNode_5 : decode cX10_isNode 5 = .ok (.ifCond .eq 43, 3) := by decide +kernel
theorem dX10_isNode_8 : decode cX10_isNode 8 = .ok (.iload_n 2, 1) := by decide +kernel
theorem dX10_isNode_9 : decode cX10_isNode 9 = .ok (.i2l, 1) := by decide +kernel
theorem dX10_isNode_10 : decode cX10_isNode 10 = .ok (.lconst 0, 1) := by decide +kernel
theorem dX10_isNode_11 : decode cX10_isNode 11 = .ok (.aload_n 0, 1) := by decide +kernel
theorem dX10_isNode_12 : decode cX10_isNode 12 = .ok (.iload_n 1, 1) := by decide +kernel
theorem dX10_isNode_13 : decode cX10_isNode 13 = .ok (.iconst 4, 1) := by decide +kernel
theorem dX10_isNode_14 : decode cX10_isNode 14 = .ok (.invokevirtual 58, 3) := by decide +kernel
theorem dX10_isNode_17 : decode cX10_isNode 17 = .ok (.iconst 1, 1) := by decide +kernel
theorem dX10_isNode_18 : decode cX10_isNode 18 = .ok (.isub, 1) := by decide +kernel
theorem dX10_isNode_19 : decode cX10_isNode 19 = .ok (.i2l, 1) := by decide +kernel
theorem dX10_isNode_20 : decode cX10_isNode 20 = .ok (.invokestatic 50, 3) := by decide +kernel
theorem dX10_isNode_23 : decode cX10_isNode 23 = .ok (.ifCond .eq 25, 3) := by decide +kernel
theorem dX10_isNode_26 : decode cX10_isNode 26 = .ok (.iload_n 3, 1) := by decide +kernel
theorem dX10_isNode_27 : decode cX10_isNode 27 = .ok (.i2l, 1) := by decide +kernel
theorem dX10_isNode_28 : decode cX10_isNode 28 = .ok (.lconst 0, 1) := by decide +kernel
theorem dX10_isNode_29 : decode cX10_isNode 29 = .ok (.aload_n 0, 1) := by decide +kernel
theorem dX10_isNode_30 : decode cX10_isNode 30 = .ok (.iload_n 1, 1) := by decide +kernel
theorem dX10_isNode_31 : decode cX10_isNode 31 = .ok (.iconst 5, 1) := by decide +kernel
theorem dX10_isNode_32 : decode cX10_isNode 32 = .ok (.invokevirtual 58, 3) := by decide +kernel
theorem dX10_isNode_35 : decode cX10_isNode 35 = .ok (.iconst 1, 1) := by decide +kernel
theorem dX10_isNode_36 : decode cX10_isNode 36 = .ok (.isub, 1) := by decide +kernel
theorem dX10_isNode_37 : decode cX10_isNode 37 = .ok (.i2l, 1) := by decide +kernel
theorem dX10_isNode_38 : decode cX10_isNode 38 = .ok (.invokestatic 50, 3) := by decide +kernel
theorem dX10_isNode_41 : decode cX10_isNode 41 = .ok (.ifCond .eq 7, 3) := by decide +kernel
theorem dX10_isNode_44 : decode cX10_isNode 44 = .ok (.iconst 1, 1) := by decide +kernel
theorem dX10_isNode_45 : decode cX10_isNode 45 = .ok (.goto 4, 3) := by decide +kernel
theorem dX10_isNode_48 : decode cX10_isNode 48 = .ok (.iconst 0, 1) := by decide +kernel
theorem dX10_isNode_49 : decode cX10_isNode 49 = .ok (.ireturn, 1) := by decide +kernel
theorem dX10_isCell_0 : decode cX10_isCell 0 = .ok (.aload_n 0, 1) := by decide +kernel
theorem dX10_isCell_1 : decode cX10_isCell 1 = .ok (.iload_n 1, 1) := by decide +kernel
theorem dX10_isCell_2 : decode cX10_isCell 2 = .ok (.invokevirtual 54, 3) := by decide +kernel
theorem dX10_isCell_5 : decode cX10_isCell 5 = .ok (.ifCond .eq 43, 3) := by decide +kernel
theorem dX10_isCell_8 : decode cX10_isCell 8 = .ok (.iload_n 2, 1) := by decide +kernel
theorem dX10_isCell_9 : decode cX10_isCell 9 = .ok (.i2l, 1) := by decide +kernel
theorem dX10_isCell_10 : decode cX10_isCell 10 = .ok (.lconst 0, 1) := by decide +kernel
theorem dX10_isCell_11 : decode cX10_isCell 11 = .ok (.aload_n 0, 1) := by decide +kernel
theorem dX10_isCell_12 : decode cX10_isCell 12 = .ok (.iload_n 1, 1) := by decide +kernel
theorem dX10_isCell_13 : decode cX10_isCell 13 = .ok (.iconst 4, 1) := by decide +kernel
theorem dX10_isCell_14 : decode cX10_isCell 14 = .ok (.invokevirtual 58, 3) := by decide +kernel
theorem dX10_isCell_17 : decode cX10_isCell 17 = .ok (.iconst 2, 1) := by decide +kernel
theorem dX10_isCell_18 : decode cX10_isCell 18 = .ok (.isub, 1) := by decide +kernel
theorem dX10_isCell_19 : decode cX10_isCell 19 = .ok (.i2l, 1) := by decide +kernel
theorem dX10_isCell_20 : decode cX10_isCell 20 = .ok (.invokestatic 50, 3) := by decide +kernel
theorem dX10_isCell_23 : decode cX10_isCell 23 = .ok (.ifCond .eq 25, 3) := by decide +kernel
theorem dX10_isCell_26 : decode cX10_isCell 26 = .ok (.iload_n 3, 1) := by decide +kernel
theorem dX10_isCell_27 : decode cX10_isCell 27 = .ok (.i2l, 1) := by decide +kernel
theorem dX10_isCell_28 : decode cX10_isCell 28 = .ok (.lconst 0, 1) := by decide +kernel
theorem dX10_isCell_29 : decode cX10_isCell 29 = .ok (.aload_n 0, 1) := by decide +kernel
theorem dX10_isCell_30 : decode cX10_isCell 30 = .ok (.iload_n 1, 1) := by decide +kernel
theorem dX10_isCell_31 : decode cX10_isCell 31 = .ok (.iconst 5, 1) := by decide +kernel
theorem dX10_isCell_32 : decode cX10_isCell 32 = .ok (.invokevirtual 58, 3) := by decide +kernel
theorem dX10_isCell_35 : decode cX10_isCell 35 = .ok (.iconst 2, 1) := by decide +kernel
theorem dX10_isCell_36 : decode cX10_isCell 36 = .ok (.isub, 1) := by decide +kernel
theorem dX10_isCell_37 : decode cX10_isCell 37 = .ok (.i2l, 1) := by decide +kernel
theorem dX10_isCell_38 : decode cX10_isCell 38 = .ok (.invokestatic 50, 3) := by decide +kernel
theorem dX10_isCell_41 : decode cX10_isCell 41 = .ok (.ifCond .eq 7, 3) := by decide +kernel
theorem dX10_isCell_44 : decode cX10_isCell 44 = .ok (.iconst 1, 1) := by decide +kernel
theorem dX10_isCell_45 : decode cX10_isCell 45 = .ok (.goto 4, 3) := by decide +kernel
theorem dX10_isCell_48 : decode cX10_isCell 48 = .ok (.iconst 0, 1) := by decide +kernel
theorem dX10_isCell_49 : decode cX10_isCell 49 = .ok (.ireturn, 1) := by decide +kernel
theorem dX10_at_0 : decode cX10_at 0 = .ok (.bipush 38, 2) := by decide +kernel
theorem dX10_at_2 : decode cX10_at 2 = .ok (.bipush 50, 2) := by decide +kernel
theorem dX10_at_4 : decode cX10_at 4 = .ok (.iload_n 0, 1) := by decide +kernel
theorem dX10_at_5 : decode cX10_at 5 = .ok (.imul, 1) := by decide +kernel
theorem dX10_at_6 : decode cX10_at 6 = .ok (.iadd, 1) := by decide +kernel
theorem dX10_at_7 : decode cX10_at 7 = .ok (.iconst 2, 1) := by decide +kernel
theorem dX10_at_8 : decode cX10_at 8 = .ok (.iconst 5, 1) := by decide +kernel
theorem dX10_at_9 : decode cX10_at 9 = .ok (.iload_n 2, 1) := by decide +kernel
theorem dX10_at_10 : decode cX10_at 10 = .ok (.imul, 1) := by decide +kernel
theorem dX10_at_11 : decode cX10_at 11 = .ok (.iload_n 1, 1) := by decide +kernel
theorem dX10_at_12 : decode cX10_at 12 = .ok (.iadd, 1) := by decide +kernel
theorem dX10_at_13 : decode cX10_at 13 = .ok (.imul, 1) := by decide +kernel
theorem dX10_at_14 : decode cX10_at 14 = .ok (.iadd, 1) := by decide +kernel
theorem dX10_at_15 : decode cX10_at 15 = .ok (.ireturn, 1) := by decide +kernel
theorem dX10_off_0 : decode cX10_off 0 = .ok (.aload_n 0, 1) := by decide +kernel
theorem dX10_off_1 : decode cX10_off 1 = .ok (.getfield 7, 3) := by decide +kernel
theorem dX10_off_4 : decode cX10_off 4 = .ok (.iload_n 1, 1) := by decide +kernel
theorem dX10_off_5 : decode cX10_off 5 = .ok (.iload_n 2, 1) := by decide +kernel
theorem dX10_off_6 : decode cX10_off 6 = .ok (.iload_n 3, 1) := by decide +kernel
theorem dX10_off_7 : decode cX10_off 7 = .ok (.invokestatic 62, 3) := by decide +kernel
theorem dX10_off_10 : decode cX10_off 10 = .ok (.iload 4, 2) := by decide +kernel
theorem dX10_off_12 : decode cX10_off 12 = .ok (.iadd, 1) := by decide +kernel
theorem dX10_off_13 : decode cX10_off 13 = .ok (.iaload, 1) := by decide +kernel
theorem dX10_off_14 : decode cX10_off 14 = .ok (.ireturn, 1) := by decide +kernel
theorem dX10_stands_0 : decode cX10_stands 0 = .ok (.bipush 64, 2) := by decide +kernel
theorem dX10_stands_2 : decode cX10_stands 2 = .ok (.aload_n 0, 1) := by decide +kernel
theorem dX10_stands_3 : decode cX10_stands 3 = .ok (.iload_n 1, 1) := by decide +kernel
theorem dX10_stands_4 : decode cX10_stands 4 = .ok (.iconst 1, 1) := by decide +kernel
theorem dX10_stands_5 : decode cX10_stands 5 = .ok (.iload_n 3, 1) := by decide +kernel
theorem dX10_stands_6 : decode cX10_stands 6 = .ok (.iadd, 1) := by decide +kernel
theorem dX10_stands_7 : decode cX10_stands 7 = .ok (.invokevirtual 58, 3) := by decide +kernel
theorem dX10_stands_10 : decode cX10_stands 10 = .ok (.iload_n 2, 1) := by decide +kernel
theorem dX10_stands_11 : decode cX10_stands 11 = .ok (.aload_n 0, 1) := by decide +kernel
theorem dX10_stands_12 : decode cX10_stands 12 = .ok (.iload_n 1, 1) := by decide +kernel
theorem dX10_stands_13 : decode cX10_stands 13 = .ok (.iconst 3, 1) := by decide +kernel
theorem dX10_stands_14 : decode cX10_stands 14 = .ok (.invokevirtual 58, 3) := by decide +kernel
theorem dX10_stands_17 : decode cX10_stands 17 = .ok (.imul, 1) := by decide +kernel
theorem dX10_stands_18 : decode cX10_stands 18 = .ok (.iadd, 1) := by decide +kernel
theorem dX10_stands_19 : decode cX10_stands 19 = .ok (.imul, 1) := by decide +kernel
theorem dX10_stands_20 : decode cX10_stands 20 = .ok (.ireturn, 1) := by decide +kernel
theorem dX10_last_0 : decode cX10_last 0 = .ok (.aload_n 0, 1) := by decide +kernel
theorem dX10_last_1 : decode cX10_last 1 = .ok (.iload_n 1, 1) := by decide +kernel
theorem dX10_last_2 : decode cX10_last 2 = .ok (.aload_n 0, 1) := by decide +kernel
theorem dX10_last_3 : decode cX10_last 3 = .ok (.iload_n 1, 1) := by decide +kernel
theorem dX10_last_4 : decode cX10_last 4 = .ok (.iconst 4, 1) := by decide +kernel
theorem dX10_last_5 : decode cX10_last 5 = .ok (.iload_n 2, 1) := by decide +kernel
theorem dX10_last_6 : decode cX10_last 6 = .ok (.iadd, 1) := by decide +kernel
theorem dX10_last_7 : decode cX10_last 7 = .ok (.invokevirtual 58, 3) := by decide +kernel
theorem dX10_last_10 : decode cX10_last 10 = .ok (.iconst 1, 1) := by decide +kernel
theorem dX10_last_11 : decode cX10_last 11 = .ok (.isub, 1) := by decide +kernel
theorem dX10_last_12 : decode cX10_last 12 = .ok (.iload_n 2, 1) := by decide +kernel
theorem dX10_last_13 : decode cX10_last 13 = .ok (.invokevirtual 66, 3) := by decide +kernel
theorem dX10_last_16 : decode cX10_last 16 = .ok (.ireturn, 1) := by decide +kernel
theorem dX10_isOn_0 : decode cX10_isOn 0 = .ok (.iload_n 2, 1) := by decide +kernel
theorem dX10_isOn_1 : decode cX10_isOn 1 = .ok (.i2l, 1) := by decide +kernel
theorem dX10_isOn_2 : decode cX10_isOn 2 = .ok (.aload_n 0, 1) := by decide +kernel
theorem dX10_isOn_3 : decode cX10_isOn 3 = .ok (.iload_n 1, 1) := by decide +kernel
theorem dX10_isOn_4 : decode cX10_isOn 4 = .ok (.iconst 0, 1) := by decide +kernel
theorem dX10_isOn_5 : decode cX10_isOn 5 = .ok (.iconst 0, 1) := by decide +kernel
theorem dX10_isOn_6 : decode cX10_isOn 6 = .ok (.invokevirtual 66, 3) := by decide +kernel
theorem dX10_isOn_9 : decode cX10_isOn 9 = .ok (.i2l, 1) := by decide +kernel
theorem dX10_isOn_10 : decode cX10_isOn 10 = .ok (.aload_n 0, 1) := by decide +kernel
theorem dX10_isOn_11 : decode cX10_isOn 11 = .ok (.iload_n 1, 1) := by decide +kernel
theorem dX10_isOn_12 : decode cX10_isOn 12 = .ok (.iconst 0, 1) := by decide +kernel
theorem dX10_isOn_13 : decode cX10_isOn 13 = .ok (.invokevirtual 69, 3) := by decide +kernel
theorem dX10_isOn_16 : decode cX10_isOn 16 = .ok (.i2l, 1) := by decide +kernel
theorem dX10_isOn_17 : decode cX10_isOn 17 = .ok (.invokestatic 50, 3) := by decide +kernel
theorem dX10_isOn_20 : decode cX10_isOn 20 = .ok (.ifCond .eq 30, 3) := by decide +kernel
theorem dX10_isOn_23 : decode cX10_isOn 23 = .ok (.iload_n 3, 1) := by decide +kernel
theorem dX10_isOn_24 : decode cX10_isOn 24 = .ok (.i2l, 1) := by decide +kernel
theorem dX10_isOn_25 : decode cX10_isOn 25 = .ok (.aload_n 0, 1) := by decide +kernel
theorem dX10_isOn_26 : decode cX10_isOn 26 = .ok (.iload_n 1, 1) := by decide +kernel
theorem dX10_isOn_27 : decode cX10_isOn 27 = .ok (.iconst 0, 1) := by decide +kernel
theorem dX10_isOn_28 : decode cX10_isOn 28 = .ok (.iconst 1, 1) := by decide +kernel
theorem dX10_isOn_29 : decode cX10_isOn 29 = .ok (.invokevirtual 66, 3) := by decide +kernel
theorem dX10_isOn_32 : decode cX10_isOn 32 = .ok (.i2l, 1) := by decide +kernel
theorem dX10_isOn_33 : decode cX10_isOn 33 = .ok (.aload_n 0, 1) := by decide +kernel
theorem dX10_isOn_34 : decode cX10_isOn 34 = .ok (.iload_n 1, 1) := by decide +kernel
theorem dX10_isOn_35 : decode cX10_isOn 35 = .ok (.iconst 1, 1) := by decide +kernel
theorem dX10_isOn_36 : decode cX10_isOn 36 = .ok (.invokevirtual 69, 3) := by decide +kernel
theorem dX10_isOn_39 : decode cX10_isOn 39 = .ok (.i2l, 1) := by decide +kernel
theorem dX10_isOn_40 : decode cX10_isOn 40 = .ok (.invokestatic 50, 3) := by decide +kernel
theorem dX10_isOn_43 : decode cX10_isOn 43 = .ok (.ifCond .eq 7, 3) := by decide +kernel
theorem dX10_isOn_46 : decode cX10_isOn 46 = .ok (.iconst 1, 1) := by decide +kernel
theorem dX10_isOn_47 : decode cX10_isOn 47 = .ok (.goto 4, 3) := by decide +kernel
theorem dX10_isOn_50 : decode cX10_isOn 50 = .ok (.iconst 0, 1) := by decide +kernel
theorem dX10_isOn_51 : decode cX10_isOn 51 = .ok (.ireturn, 1) := by decide +kernel
theorem dX10_isPlace_0 : decode cX10_isPlace 0 = .ok (.iload_n 0, 1) := by decide +kernel
theorem dX10_isPlace_1 : decode cX10_isPlace 1 = .ok (.i2l, 1) := by decide +kernel
theorem dX10_isPlace_2 : decode cX10_isPlace 2 = .ok (.lconst 0, 1) := by decide +kernel
theorem dX10_isPlace_3 : decode cX10_isPlace 3 = .ok (.ldc2_w 72, 3) := by decide +kernel
theorem dX10_isPlace_6 : decode cX10_isPlace 6 = .ok (.invokestatic 50, 3) := by decide +kernel
theorem dX10_isPlace_9 : decode cX10_isPlace 9 = .ok (.ifCond .eq 19, 3) := by decide +kernel
theorem dX10_isPlace_12 : decode cX10_isPlace 12 = .ok (.iload_n 1, 1) := by decide +kernel
theorem dX10_isPlace_13 : decode cX10_isPlace 13 = .ok (.i2l, 1) := by decide +kernel
theorem dX10_isPlace_14 : decode cX10_isPlace 14 = .ok (.lconst 0, 1) := by decide +kernel
theorem dX10_isPlace_15 : decode cX10_isPlace 15 = .ok (.ldc2_w 72, 3) := by decide +kernel
theorem dX10_isPlace_18 : decode cX10_isPlace 18 = .ok (.invokestatic 50, 3) := by decide +kernel
theorem dX10_isPlace_21 : decode cX10_isPlace 21 = .ok (.ifCond .eq 7, 3) := by decide +kernel
theorem dX10_isPlace_24 : decode cX10_isPlace 24 = .ok (.iconst 1, 1) := by decide +kernel
theorem dX10_isPlace_25 : decode cX10_isPlace 25 = .ok (.goto 4, 3) := by decide +kernel
theorem dX10_isPlace_28 : decode cX10_isPlace 28 = .ok (.iconst 0, 1) := by decide +kernel
theorem dX10_isPlace_29 : decode cX10_isPlace 29 = .ok (.ireturn, 1) := by decide +kernel
theorem dX10_child_0 : decode cX10_child 0 = .ok (.iconst 0, 1) := by decide +kernel
theorem dX10_child_1 : decode cX10_child 1 = .ok (.istore 4, 2) := by decide +kernel
theorem dX10_child_3 : decode cX10_child 3 = .ok (.iload 4, 2) := by decide +kernel
theorem dX10_child_5 : decode cX10_child 5 = .ok (.aload_n 0, 1) := by decide +kernel
theorem dX10_child_6 : decode cX10_child 6 = .ok (.getfield 7, 3) := by decide +kernel
theorem dX10_child_9 : decode cX10_child 9 = .ok (.iconst 0, 1) := by decide +kernel
theorem dX10_child_10 : decode cX10_child 10 = .ok (.iaload, 1) := by decide +kernel
theorem dX10_child_11 : decode cX10_child 11 = .ok (.if_icmp .ge 34, 3) := by decide +kernel
theorem dX10_child_14 : decode cX10_child 14 = .ok (.aload_n 0, 1) := by decide +kernel
theorem dX10_child_15 : decode cX10_child 15 = .ok (.iload 4, 2) := by decide +kernel
theorem dX10_child_17 : decode cX10_child 17 = .ok (.iconst 0, 1) := by decide +kernel
theorem dX10_child_18 : decode cX10_child 18 = .ok (.invokevirtual 58, 3) := by decide +kernel
theorem dX10_child_21 : decode cX10_child 21 = .ok (.iload_n 1, 1) := by decide +kernel
theorem dX10_child_22 : decode cX10_child 22 = .ok (.if_icmp .ne 17, 3) := by decide +kernel
theorem dX10_child_25 : decode cX10_child 25 = .ok (.aload_n 0, 1) := by decide +kernel
theorem dX10_child_26 : decode cX10_child 26 = .ok (.iload 4, 2) := by decide +kernel
theorem dX10_child_28 : decode cX10_child 28 = .ok (.iload_n 2, 1) := by decide +kernel
theorem dX10_child_29 : decode cX10_child 29 = .ok (.iload_n 3, 1) := by decide +kernel
theorem dX10_child_30 : decode cX10_child 30 = .ok (.invokevirtual 74, 3) := by decide +kernel
theorem dX10_child_33 : decode cX10_child 33 = .ok (.ifCond .eq 6, 3) := by decide +kernel
theorem dX10_child_36 : decode cX10_child 36 = .ok (.iload 4, 2) := by decide +kernel
theorem dX10_child_38 : decode cX10_child 38 = .ok (.ireturn, 1) := by decide +kernel
theorem dX10_child_39 : decode cX10_child 39 = .ok (.iinc 4 1, 3) := by decide +kernel
theorem dX10_child_42 : decode cX10_child 42 = .ok (.goto (-39), 3) := by decide +kernel
theorem dX10_child_45 : decode cX10_child 45 = .ok (.iconst (-1), 1) := by decide +kernel
theorem dX10_child_46 : decode cX10_child 46 = .ok (.ireturn, 1) := by decide +kernel
theorem dX10_belongs_0 : decode cX10_belongs 0 = .ok (.aload_n 0, 1) := by decide +kernel
theorem dX10_belongs_1 : decode cX10_belongs 1 = .ok (.iconst (-1), 1) := by decide +kernel
theorem dX10_belongs_2 : decode cX10_belongs 2 = .ok (.iload_n 1, 1) := by decide +kernel
theorem dX10_belongs_3 : decode cX10_belongs 3 = .ok (.iload_n 2, 1) := by decide +kernel
theorem dX10_belongs_4 : decode cX10_belongs 4 = .ok (.invokevirtual 78, 3) := by decide +kernel
theorem dX10_belongs_7 : decode cX10_belongs 7 = .ok (.istore_n 3, 1) := by decide +kernel
theorem dX10_belongs_8 : decode cX10_belongs 8 = .ok (.iload_n 3, 1) := by decide +kernel
theorem dX10_belongs_9 : decode cX10_belongs 9 = .ok (.istore 4, 2) := by decide +kernel
theorem dX10_belongs_11 : decode cX10_belongs 11 = .ok (.iload 4, 2) := by decide +kernel
theorem dX10_belongs_13 : decode cX10_belongs 13 = .ok (.iconst (-1), 1) := by decide +kernel
theorem dX10_belongs_14 : decode cX10_belongs 14 = .ok (.if_icmp .eq 18, 3) := by decide +kernel
theorem dX10_belongs_17 : decode cX10_belongs 17 = .ok (.iload 4, 2) := by decide +kernel
theorem dX10_belongs_19 : decode cX10_belongs 19 = .ok (.istore_n 3, 1) := by decide +kernel
theorem dX10_belongs_20 : decode cX10_belongs 20 = .ok (.aload_n 0, 1) := by decide +kernel
theorem dX10_belongs_21 : decode cX10_belongs 21 = .ok (.iload_n 3, 1) := by decide +kernel
theorem dX10_belongs_22 : decode cX10_belongs 22 = .ok (.iload_n 1, 1) := by decide +kernel
theorem dX10_belongs_23 : decode cX10_belongs 23 = .ok (.iload_n 2, 1) := by decide +kernel
theorem dX10_belongs_24 : decode cX10_belongs 24 = .ok (.invokevirtual 78, 3) := by decide +kernel
theorem dX10_belongs_27 : decode cX10_belongs 27 = .ok (.istore 4, 2) := by decide +kernel
theorem dX10_belongs_29 : decode cX10_belongs 29 = .ok (.goto (-18), 3) := by decide +kernel
theorem dX10_belongs_32 : decode cX10_belongs 32 = .ok (.iload_n 3, 1) := by decide +kernel
theorem dX10_belongs_33 : decode cX10_belongs 33 = .ok (.ireturn, 1) := by decide +kernel
theorem dX10_rounded_0 : decode cX10_rounded 0 = .ok (.ldc2_w 81, 3) := by decide +kernel
theorem dX10_rounded_3 : decode cX10_rounded 3 = .ok (.lload_n 0, 1) := by decide +kernel
theorem dX10_rounded_4 : decode cX10_rounded 4 = .ok (.lmul, 1) := by decide +kernel
theorem dX10_rounded_5 : decode cX10_rounded 5 = .ok (.lload_n 2, 1) := by decide +kernel
theorem dX10_rounded_6 : decode cX10_rounded 6 = .ok (.ladd, 1) := by decide +kernel
theorem dX10_rounded_7 : decode cX10_rounded 7 = .ok (.lstore 4, 2) := by decide +kernel
theorem dX10_rounded_9 : decode cX10_rounded 9 = .ok (.lload 4, 2) := by decide +kernel
theorem dX10_rounded_11 : decode cX10_rounded 11 = .ok (.ldc2_w 81, 3) := by decide +kernel
theorem dX10_rounded_14 : decode cX10_rounded 14 = .ok (.lload_n 2, 1) := by decide +kernel
theorem dX10_rounded_15 : decode cX10_rounded 15 = .ok (.lmul, 1) := by decide +kernel
theorem dX10_rounded_16 : decode cX10_rounded 16 = .ok (.ldiv, 1) := by decide +kernel
theorem dX10_rounded_17 : decode cX10_rounded 17 = .ok (.lstore 6, 2) := by decide +kernel
theorem dX10_rounded_19 : decode cX10_rounded 19 = .ok (.lload 4, 2) := by decide +kernel
theorem dX10_rounded_21 : decode cX10_rounded 21 = .ok (.ldc2_w 81, 3) := by decide +kernel
theorem dX10_rounded_24 : decode cX10_rounded 24 = .ok (.lload_n 2, 1) := by decide +kernel
theorem dX10_rounded_25 : decode cX10_rounded 25 = .ok (.lmul, 1) := by decide +kernel
theorem dX10_rounded_26 : decode cX10_rounded 26 = .ok (.lrem, 1) := by decide +kernel
theorem dX10_rounded_27 : decode cX10_rounded 27 = .ok (.lconst 0, 1) := by decide +kernel
theorem dX10_rounded_28 : decode cX10_rounded 28 = .ok (.lcmp, 1) := by decide +kernel
theorem dX10_rounded_29 : decode cX10_rounded 29 = .ok (.ifCond .ge 10, 3) := by decide +kernel
theorem dX10_rounded_32 : decode cX10_rounded 32 = .ok (.lload 6, 2) := by decide +kernel
theorem dX10_rounded_34 : decode cX10_rounded 34 = .ok (.lconst 1, 1) := by decide +kernel
theorem dX10_rounded_35 : decode cX10_rounded 35 = .ok (.lsub, 1) := by decide +kernel
theorem dX10_rounded_36 : decode cX10_rounded 36 = .ok (.goto 5, 3) := by decide +kernel
theorem dX10_rounded_39 : decode cX10_rounded 39 = .ok (.lload 6, 2) := by decide +kernel
theorem dX10_rounded_41 : decode cX10_rounded 41 = .ok (.lreturn, 1) := by decide +kernel
theorem dX10_between_0 : decode cX10_between 0 = .ok (.aload_n 0, 1) := by decide +kernel
theorem dX10_between_1 : decode cX10_between 1 = .ok (.getfield 7, 3) := by decide +kernel
theorem dX10_between_4 : decode cX10_between 4 = .ok (.iconst 1, 1) := by decide +kernel
theorem dX10_between_5 : decode cX10_between 5 = .ok (.iaload, 1) := by decide +kernel
theorem dX10_between_6 : decode cX10_between 6 = .ok (.ifCond .ne 61, 3) := by decide +kernel
theorem dX10_between_9 : decode cX10_between 9 = .ok (.iload_n 1, 1) := by decide +kernel
theorem dX10_between_10 : decode cX10_between 10 = .ok (.i2l, 1) := by decide +kernel
theorem dX10_between_11 : decode cX10_between 11 = .ok (.lload 9, 2) := by decide +kernel
theorem dX10_between_13 : decode cX10_between 13 = .ok (.lload 5, 2) := by decide +kernel
theorem dX10_between_15 : decode cX10_between 15 = .ok (.lsub, 1) := by decide +kernel
theorem dX10_between_16 : decode cX10_between 16 = .ok (.lmul, 1) := by decide +kernel
theorem dX10_between_17 : decode cX10_between 17 = .ok (.lload 9, 2) := by decide +kernel
theorem dX10_between_19 : decode cX10_between 19 = .ok (.lload 7, 2) := by decide +kernel
theorem dX10_between_21 : decode cX10_between 21 = .ok (.lsub, 1) := by decide +kernel
theorem dX10_between_22 : decode cX10_between 22 = .ok (.lmul, 1) := by decide +kernel
theorem dX10_between_23 : decode cX10_between 23 = .ok (.iload_n 2, 1) := by decide +kernel
theorem dX10_between_24 : decode cX10_between 24 = .ok (.i2l, 1) := by decide +kernel
theorem dX10_between_25 : decode cX10_between 25 = .ok (.lload 5, 2) := by decide +kernel
theorem dX10_between_27 : decode cX10_between 27 = .ok (.lmul, 1) := by decide +kernel
theorem dX10_between_28 : decode cX10_between 28 = .ok (.lload 9, 2) := by decide +kernel
theorem dX10_between_30 : decode cX10_between 30 = .ok (.lload 7, 2) := by decide +kernel
theorem dX10_between_32 : decode cX10_between 32 = .ok (.lsub, 1) := by decide +kernel
theorem dX10_between_33 : decode cX10_between 33 = .ok (.lmul, 1) := by decide +kernel
theorem dX10_between_34 : decode cX10_between 34 = .ok (.ladd, 1) := by decide +kernel
theorem dX10_between_35 : decode cX10_between 35 = .ok (.iload_n 3, 1) := by decide +kernel
theorem dX10_between_36 : decode cX10_between 36 = .ok (.i2l, 1) := by decide +kernel
theorem dX10_between_37 : decode cX10_between 37 = .ok (.lload 9, 2) := by decide +kernel
theorem dX10_between_39 : decode cX10_between 39 = .ok (.lload 5, 2) := by decide +kernel
theorem dX10_between_41 : decode cX10_between 41 = .ok (.lsub, 1) := by decide +kernel
theorem dX10_between_42 : decode cX10_between 42 = .ok (.lmul, 1) := by decide +kernel
theorem dX10_between_43 : decode cX10_between 43 = .ok (.lload 7, 2) := by decide +kernel
theorem dX10_between_45 : decode cX10_between 45 = .ok (.lmul, 1) := by decide +kernel
theorem dX10_between_46 : decode cX10_between 46 = .ok (.ladd, 1) := by decide +kernel
theorem dX10_between_47 : decode cX10_between 47 = .ok (.iload 4, 2) := by decide +kernel
theorem dX10_between_49 : decode cX10_between 49 = .ok (.i2l, 1) := by decide +kernel
theorem dX10_between_50 : decode cX10_between 50 = .ok (.lload 5, 2) := by decide +kernel
theorem dX10_between_52 : decode cX10_between 52 = .ok (.lmul, 1) := by decide +kernel
theorem dX10_between_53 : decode cX10_between 53 = .ok (.lload 7, 2) := by decide +kernel
theorem dX10_between_55 : decode cX10_between 55 = .ok (.lmul, 1) := by decide +kernel
theorem dX10_between_56 : decode cX10_between 56 = .ok (.ladd, 1) := by decide +kernel
theorem dX10_between_57 : decode cX10_between 57 = .ok (.lload 9, 2) := by decide +kernel
theorem dX10_between_59 : decode cX10_between 59 = .ok (.lload 9, 2) := by decide +kernel
theorem dX10_between_61 : decode cX10_between 61 = .ok (.lmul, 1) := by decide +kernel
theorem dX10_between_62 : decode cX10_between 62 = .ok (.invokestatic 83, 3) := by decide +kernel
theorem dX10_between_65 : decode cX10_between 65 = .ok (.l2i, 1) := by decide +kernel
theorem dX10_between_66 : decode cX10_between 66 = .ok (.ireturn, 1) := by decide +kernel
theorem dX10_between_67 : decode cX10_between 67 = .ok (.aload_n 0, 1) := by decide +kernel
theorem dX10_between_68 : decode cX10_between 68 = .ok (.getfield 7, 3) := by decide +kernel
theorem dX10_between_71 : decode cX10_between 71 = .ok (.iconst 1, 1) := by decide +kernel
theorem dX10_between_72 : decode cX10_between 72 = .ok (.iaload, 1) := by decide +kernel
theorem dX10_between_73 : decode cX10_between 73 = .ok (.iconst 1, 1) := by decide +kernel
theorem dX10_between_74 : decode cX10_between 74 = .ok (.if_icmp .ne 71, 3) := by decide +kernel
theorem dX10_between_77 : decode cX10_between 77 = .ok (.ldc2_w 81, 3) := by decide +kernel
theorem dX10_between_80 : decode cX10_between 80 = .ok (.lload 5, 2) := by decide +kernel
theorem dX10_between_82 : decode cX10_between 82 = .ok (.lmul, 1) := by decide +kernel
theorem dX10_between_83 : decode cX10_between 83 = .ok (.lload 9, 2) := by decide +kernel
theorem dX10_between_85 : decode cX10_between 85 = .ok (.lcmp, 1) := by decide +kernel
theorem dX10_between_86 : decode cX10_between 86 = .ok (.ifCond .lt 7, 3) := by decide +kernel
theorem dX10_between_89 : decode cX10_between 89 = .ok (.iconst 1, 1) := by decide +kernel
theorem dX10_between_90 : decode cX10_between 90 = .ok (.goto 4, 3) := by decide +kernel
theorem dX10_between_93 : decode cX10_between 93 = .ok (.iconst 0, 1) := by decide +kernel
theorem dX10_between_94 : decode cX10_between 94 = .ok (.istore 11, 2) := by decide +kernel
theorem dX10_between_96 : decode cX10_between 96 = .ok (.ldc2_w 81, 3) := by decide +kernel
theorem dX10_between_99 : decode cX10_between 99 = .ok (.lload 7, 2) := by decide +kernel
theorem dX10_between_101 : decode cX10_between 101 = .ok (.lmul, 1) := by decide +kernel
theorem dX10_between_102 : decode cX10_between 102 = .ok (.lload 9, 2) := by decide +kernel
theorem dX10_between_104 : decode cX10_between 104 = .ok (.lcmp, 1) := by decide +kernel
theorem dX10_between_105 : decode cX10_between 105 = .ok (.ifCond .lt 7, 3) := by decide +kernel
theorem dX10_between_108 : decode cX10_between 108 = .ok (.iconst 1, 1) := by decide +kernel
theorem dX10_between_109 : decode cX10_between 109 = .ok (.goto 4, 3) := by decide +kernel
theorem dX10_between_112 : decode cX10_between 112 = .ok (.iconst 0, 1) := by decide +kernel
theorem dX10_between_113 : decode cX10_between 113 = .ok (.istore 12, 2) := by decide +kernel
theorem dX10_between_115 : decode cX10_between 115 = .ok (.iload 12, 2) := by decide +kernel
theorem dX10_between_117 : decode cX10_between 117 = .ok (.ifCond .eq 17, 3) := by decide +kernel
theorem dX10_between_120 : decode cX10_between 120 = .ok (.iload 11, 2) := by decide +kernel
theorem dX10_between_122 : decode cX10_between 122 = .ok (.ifCond .eq 8, 3) := by decide +kernel
theorem dX10_between_125 : decode cX10_between 125 = .ok (.iload 4, 2) := by decide +kernel
theorem dX10_between_127 : decode cX10_between 127 = .ok (.goto 17, 3) := by decide +kernel
theorem dX10_between_130 : decode cX10_between 130 = .ok (.iload_n 3, 1) := by decide +kernel
theorem dX10_between_131 : decode cX10_between 131 = .ok (.goto 13, 3) := by decide +kernel
theorem dX10_between_134 : decode cX10_between 134 = .ok (.iload 11, 2) := by decide +kernel
theorem dX10_between_136 : decode cX10_between 136 = .ok (.ifCond .eq 7, 3) := by decide +kernel
theorem dX10_between_139 : decode cX10_between 139 = .ok (.iload_n 2, 1) := by decide +kernel
theorem dX10_between_140 : decode cX10_between 140 = .ok (.goto 4, 3) := by decide +kernel
theorem dX10_between_143 : decode cX10_between 143 = .ok (.iload_n 1, 1) := by decide +kernel
theorem dX10_between_144 : decode cX10_between 144 = .ok (.ireturn, 1) := by decide +kernel
theorem dX10_between_145 : decode cX10_between 145 = .ok (.lload 5, 2) := by decide +kernel
theorem dX10_between_147 : decode cX10_between 147 = .ok (.lload 7, 2) := by decide +kernel
theorem dX10_between_149 : decode cX10_between 149 = .ok (.lcmp, 1) := by decide +kernel
theorem dX10_between_150 : decode cX10_between 150 = .ok (.ifCond .lt 28, 3) := by decide +kernel
theorem dX10_between_153 : decode cX10_between 153 = .ok (.iload_n 1, 1) := by decide +kernel
theorem dX10_between_154 : decode cX10_between 154 = .ok (.i2l, 1) := by decide +kernel
theorem dX10_between_155 : decode cX10_between 155 = .ok (.lload 9, 2) := by decide +kernel
theorem dX10_between_157 : decode cX10_between 157 = .ok (.lmul, 1) := by decide +kernel
theorem dX10_between_158 : decode cX10_between 158 = .ok (.iload_n 2, 1) := by decide +kernel
theorem dX10_between_159 : decode cX10_between 159 = .ok (.iload_n 1, 1) := by decide +kernel
theorem dX10_between_160 : decode cX10_between 160 = .ok (.isub, 1) := by decide +kernel
theorem dX10_between_161 : decode cX10_between 161 = .ok (.i2l, 1) := by decide +kernel
theorem dX10_between_162 : decode cX10_between 162 = .ok (.lload 5, 2) := by decide +kernel
theorem dX10_between_164 : decode cX10_between 164 = .ok (.lmul, 1) := by decide +kernel
theorem dX10_between_165 : decode cX10_between 165 = .ok (.ladd, 1) := by decide +kernel
theorem dX10_between_166 : decode cX10_between 166 = .ok (.iload 4, 2) := by decide +kernel
theorem dX10_between_168 : decode cX10_between 168 = .ok (.iload_n 2, 1) := by decide +kernel
theorem dX10_between_169 : decode cX10_between 169 = .ok (.isub, 1) := by decide +kernel
theorem dX10_between_170 : decode cX10_between 170 = .ok (.i2l, 1) := by decide +kernel
theorem dX10_between_171 : decode cX10_between 171 = .ok (.lload 7, 2) := by decide +kernel
theorem dX10_between_173 : decode cX10_between 173 = .ok (.lmul, 1) := by decide +kernel
theorem dX10_between_174 : decode cX10_between 174 = .ok (.ladd, 1) := by decide +kernel
theorem dX10_between_175 : decode cX10_between 175 = .ok (.goto 25, 3) := by decide +kernel
theorem dX10_between_178 : decode cX10_between 178 = .ok (.iload_n 1, 1) := by decide +kernel
theorem dX10_between_179 : decode cX10_between 179 = .ok (.i2l, 1) := by decide +kernel
theorem dX10_between_180 : decode cX10_between 180 = .ok (.lload 9, 2) := by decide +kernel
theorem dX10_between_182 : decode cX10_between 182 = .ok (.lmul, 1) := by decide +kernel
theorem dX10_between_183 : decode cX10_between 183 = .ok (.iload 4, 2) := by decide +kernel
theorem dX10_between_185 : decode cX10_between 185 = .ok (.iload_n 3, 1) := by decide +kernel
theorem dX10_between_186 : decode cX10_between 186 = .ok (.isub, 1) := by decide +kernel
theorem dX10_between_187 : decode cX10_between 187 = .ok (.i2l, 1) := by decide +kernel
theorem dX10_between_188 : decode cX10_between 188 = .ok (.lload 5, 2) := by decide +kernel
theorem dX10_between_190 : decode cX10_between 190 = .ok (.lmul, 1) := by decide +kernel
theorem dX10_between_191 : decode cX10_between 191 = .ok (.ladd, 1) := by decide +kernel
theorem dX10_between_192 : decode cX10_between 192 = .ok (.iload_n 3, 1) := by decide +kernel
theorem dX10_between_193 : decode cX10_between 193 = .ok (.iload_n 1, 1) := by decide +kernel
theorem dX10_between_194 : decode cX10_between 194 = .ok (.isub, 1) := by decide +kernel
theorem dX10_between_195 : decode cX10_between 195 = .ok (.i2l, 1) := by decide +kernel
theorem dX10_between_196 : decode cX10_between 196 = .ok (.lload 7, 2) := by decide +kernel
theorem dX10_between_198 : decode cX10_between 198 = .ok (.lmul, 1) := by decide +kernel
theorem dX10_between_199 : decode cX10_between 199 = .ok (.ladd, 1) := by decide +kernel
theorem dX10_between_200 : decode cX10_between 200 = .ok (.lload 9, 2) := by decide +kernel
theorem dX10_between_202 : decode cX10_between 202 = .ok (.invokestatic 83, 3) := by decide +kernel
theorem dX10_between_205 : decode cX10_between 205 = .ok (.l2i, 1) := by decide +kernel
theorem dX10_between_206 : decode cX10_between 206 = .ok (.ireturn, 1) := by decide +kernel
theorem dX10_offset_0 : decode cX10_offset 0 = .ok (.bipush 64, 2) := by decide +kernel
theorem dX10_offset_2 : decode cX10_offset 2 = .ok (.aload_n 0, 1) := by decide +kernel
theorem dX10_offset_3 : decode cX10_offset 3 = .ok (.iload_n 1, 1) := by decide +kernel
theorem dX10_offset_4 : decode cX10_offset 4 = .ok (.iconst 3, 1) := by decide +kernel
theorem dX10_offset_5 : decode cX10_offset 5 = .ok (.invokevirtual 58, 3) := by decide +kernel
theorem dX10_offset_8 : decode cX10_offset 8 = .ok (.imul, 1) := by decide +kernel
theorem dX10_offset_9 : decode cX10_offset 9 = .ok (.istore 5, 2) := by decide +kernel
theorem dX10_offset_11 : decode cX10_offset 11 = .ok (.iload_n 2, 1) := by decide +kernel
theorem dX10_offset_12 : decode cX10_offset 12 = .ok (.aload_n 0, 1) := by decide +kernel
theorem dX10_offset_13 : decode cX10_offset 13 = .ok (.iload_n 1, 1) := by decide +kernel
theorem dX10_offset_14 : decode cX10_offset 14 = .ok (.iconst 0, 1) := by decide +kernel
theorem dX10_offset_15 : decode cX10_offset 15 = .ok (.iconst 0, 1) := by decide +kernel
theorem dX10_offset_16 : decode cX10_offset 16 = .ok (.invokevirtual 66, 3) := by decide +kernel
theorem dX10_offset_19 : decode cX10_offset 19 = .ok (.isub, 1) := by decide +kernel
theorem dX10_offset_20 : decode cX10_offset 20 = .ok (.iload 5, 2) := by decide +kernel
theorem dX10_offset_22 : decode cX10_offset 22 = .ok (.idiv, 1) := by decide +kernel
theorem dX10_offset_23 : decode cX10_offset 23 = .ok (.istore 6, 2) := by decide +kernel
theorem dX10_offset_25 : decode cX10_offset 25 = .ok (.iload_n 3, 1) := by decide +kernel
theorem dX10_offset_26 : decode cX10_offset 26 = .ok (.aload_n 0, 1) := by decide +kernel
theorem dX10_offset_27 : decode cX10_offset 27 = .ok (.iload_n 1, 1) := by decide +kernel
theorem dX10_offset_28 : decode cX10_offset 28 = .ok (.iconst 0, 1) := by decide +kernel
theorem dX10_offset_29 : decode cX10_offset 29 = .ok (.iconst 1, 1) := by decide +kernel
theorem dX10_offset_30 : decode cX10_offset 30 = .ok (.invokevirtual 66, 3) := by decide +kernel
theorem dX10_offset_33 : decode cX10_offset 33 = .ok (.isub, 1) := by decide +kernel
theorem dX10_offset_34 : decode cX10_offset 34 = .ok (.iload 5, 2) := by decide +kernel
theorem dX10_offset_36 : decode cX10_offset 36 = .ok (.idiv, 1) := by decide +kernel
theorem dX10_offset_37 : decode cX10_offset 37 = .ok (.istore 7, 2) := by decide +kernel
theorem dX10_offset_39 : decode cX10_offset 39 = .ok (.iload 6, 2) := by decide +kernel
theorem dX10_offset_41 : decode cX10_offset 41 = .ok (.aload_n 0, 1) := by decide +kernel
theorem dX10_offset_42 : decode cX10_offset 42 = .ok (.iload_n 1, 1) := by decide +kernel
theorem dX10_offset_43 : decode cX10_offset 43 = .ok (.iconst 4, 1) := by decide +kernel
theorem dX10_offset_44 : decode cX10_offset 44 = .ok (.invokevirtual 58, 3) := by decide +kernel
theorem dX10_offset_47 : decode cX10_offset 47 = .ok (.iconst 2, 1) := by decide +kernel
theorem dX10_offset_48 : decode cX10_offset 48 = .ok (.isub, 1) := by decide +kernel
theorem dX10_offset_49 : decode cX10_offset 49 = .ok (.if_icmp .le 14, 3) := by decide +kernel
theorem dX10_offset_52 : decode cX10_offset 52 = .ok (.aload_n 0, 1) := by decide +kernel
theorem dX10_offset_53 : decode cX10_offset 53 = .ok (.iload_n 1, 1) := by decide +kernel
theorem dX10_offset_54 : decode cX10_offset 54 = .ok (.iconst 4, 1) := by decide +kernel
theorem dX10_offset_55 : decode cX10_offset 55 = .ok (.invokevirtual 58, 3) := by decide +kernel
theorem dX10_offset_58 : decode cX10_offset 58 = .ok (.iconst 2, 1) := by decide +kernel
theorem dX10_offset_59 : decode cX10_offset 59 = .ok (.isub, 1) := by decide +kernel
theorem dX10_offset_60 : decode cX10_offset 60 = .ok (.goto 5, 3) := by decide +kernel
theorem dX10_offset_63 : decode cX10_offset 63 = .ok (.iload 6, 2) := by decide +kernel
theorem dX10_offset_65 : decode cX10_offset 65 = .ok (.istore 6, 2) := by decide +kernel
theorem dX10_offset_67 : decode cX10_offset 67 = .ok (.iload 7, 2) := by decide +kernel
theorem dX10_offset_69 : decode cX10_offset 69 = .ok (.aload_n 0, 1) := by decide +kernel
theorem dX10_offset_70 : decode cX10_offset 70 = .ok (.iload_n 1, 1) := by decide +kernel
theorem dX10_offset_71 : decode cX10_offset 71 = .ok (.iconst 5, 1) := by decide +kernel
theorem dX10_offset_72 : decode cX10_offset 72 = .ok (.invokevirtual 58, 3) := by decide +kernel
theorem dX10_offset_75 : decode cX10_offset 75 = .ok (.iconst 2, 1) := by decide +kernel
theorem dX10_offset_76 : decode cX10_offset 76 = .ok (.isub, 1) := by decide +kernel
theorem dX10_offset_77 : decode cX10_offset 77 = .ok (.if_icmp .le 14, 3) := by decide +kernel
theorem dX10_offset_80 : decode cX10_offset 80 = .ok (.aload_n 0, 1) := by decide +kernel
theorem dX10_offset_81 : decode cX10_offset 81 = .ok (.iload_n 1, 1) := by decide +kernel
theorem dX10_offset_82 : decode cX10_offset 82 = .ok (.iconst 5, 1) := by decide +kernel
theorem dX10_offset_83 : decode cX10_offset 83 = .ok (.invokevirtual 58, 3) := by decide +kernel
theorem dX10_offset_86 : decode cX10_offset 86 = .ok (.iconst 2, 1) := by decide +kernel
theorem dX10_offset_87 : decode cX10_offset 87 = .ok (.isub, 1) := by decide +kernel
theorem dX10_offset_88 : decode cX10_offset 88 = .ok (.goto 5, 3) := by decide +kernel
theorem dX10_offset_91 : decode cX10_offset 91 = .ok (.iload 7, 2) := by decide +kernel
theorem dX10_offset_93 : decode cX10_offset 93 = .ok (.istore 7, 2) := by decide +kernel
theorem dX10_offset_95 : decode cX10_offset 95 = .ok (.iload_n 2, 1) := by decide +kernel
theorem dX10_offset_96 : decode cX10_offset 96 = .ok (.aload_n 0, 1) := by decide +kernel
theorem dX10_offset_97 : decode cX10_offset 97 = .ok (.iload_n 1, 1) := by decide +kernel
theorem dX10_offset_98 : decode cX10_offset 98 = .ok (.iload 6, 2) := by decide +kernel
theorem dX10_offset_100 : decode cX10_offset 100 = .ok (.iconst 0, 1) := by decide +kernel
theorem dX10_offset_101 : decode cX10_offset 101 = .ok (.invokevirtual 66, 3) := by decide +kernel
theorem dX10_offset_104 : decode cX10_offset 104 = .ok (.isub, 1) := by decide +kernel
theorem dX10_offset_105 : decode cX10_offset 105 = .ok (.istore 8, 2) := by decide +kernel
theorem dX10_offset_107 : decode cX10_offset 107 = .ok (.iload_n 3, 1) := by decide +kernel
theorem dX10_offset_108 : decode cX10_offset 108 = .ok (.aload_n 0, 1) := by decide +kernel
theorem dX10_offset_109 : decode cX10_offset 109 = .ok (.iload_n 1, 1) := by decide +kernel
theorem dX10_offset_110 : decode cX10_offset 110 = .ok (.iload 7, 2) := by decide +kernel
theorem dX10_offset_112 : decode cX10_offset 112 = .ok (.iconst 1, 1) := by decide +kernel
theorem dX10_offset_113 : decode cX10_offset 113 = .ok (.invokevirtual 66, 3) := by decide +kernel
theorem dX10_offset_116 : decode cX10_offset 116 = .ok (.isub, 1) := by decide +kernel
theorem dX10_offset_117 : decode cX10_offset 117 = .ok (.istore 9, 2) := by decide +kernel
theorem dX10_offset_119 : decode cX10_offset 119 = .ok (.aload_n 0, 1) := by decide +kernel
theorem dX10_offset_120 : decode cX10_offset 120 = .ok (.aload_n 0, 1) := by decide +kernel
theorem dX10_offset_121 : decode cX10_offset 121 = .ok (.iload_n 1, 1) := by decide +kernel
theorem dX10_offset_122 : decode cX10_offset 122 = .ok (.iload 6, 2) := by decide +kernel
theorem dX10_offset_124 : decode cX10_offset 124 = .ok (.iload 7, 2) := by decide +kernel
theorem dX10_offset_126 : decode cX10_offset 126 = .ok (.iload 4, 2) := by decide +kernel
theorem dX10_offset_128 : decode cX10_offset 128 = .ok (.invokevirtual 87, 3) := by decide +kernel
theorem dX10_offset_131 : decode cX10_offset 131 = .ok (.aload_n 0, 1) := by decide +kernel
theorem dX10_offset_132 : decode cX10_offset 132 = .ok (.iload_n 1, 1) := by decide +kernel
theorem dX10_offset_133 : decode cX10_offset 133 = .ok (.iload 6, 2) := by decide +kernel
theorem dX10_offset_135 : decode cX10_offset 135 = .ok (.iconst 1, 1) := by decide +kernel
theorem dX10_offset_136 : decode cX10_offset 136 = .ok (.iadd, 1) := by decide +kernel
theorem dX10_offset_137 : decode cX10_offset 137 = .ok (.iload 7, 2) := by decide +kernel
theorem dX10_offset_139 : decode cX10_offset 139 = .ok (.iload 4, 2) := by decide +kernel
theorem dX10_offset_141 : decode cX10_offset 141 = .ok (.invokevirtual 87, 3) := by decide +kernel
theorem dX10_offset_144 : decode cX10_offset 144 = .ok (.aload_n 0, 1) := by decide +kernel
theorem dX10_offset_145 : decode cX10_offset 145 = .ok (.iload_n 1, 1) := by decide +kernel
theorem dX10_offset_146 : decode cX10_offset 146 = .ok (.iload 6, 2) := by decide +kernel
theorem dX10_offset_148 : decode cX10_offset 148 = .ok (.iload 7, 2) := by decide +kernel
theorem dX10_offset_150 : decode cX10_offset 150 = .ok (.iconst 1, 1) := by decide +kernel
theorem dX10_offset_151 : decode cX10_offset 151 = .ok (.iadd, 1) := by decide +kernel
theorem dX10_offset_152 : decode cX10_offset 152 = .ok (.iload 4, 2) := by decide +kernel
theorem dX10_offset_154 : decode cX10_offset 154 = .ok (.invokevirtual 87, 3) := by decide +kernel
theorem dX10_offset_157 : decode cX10_offset 157 = .ok (.aload_n 0, 1) := by decide +kernel
theorem dX10_offset_158 : decode cX10_offset 158 = .ok (.iload_n 1, 1) := by decide +kernel
theorem dX10_offset_159 : decode cX10_offset 159 = .ok (.iload 6, 2) := by decide +kernel
theorem dX10_offset_161 : decode cX10_offset 161 = .ok (.iconst 1, 1) := by decide +kernel
theorem dX10_offset_162 : decode cX10_offset 162 = .ok (.iadd, 1) := by decide +kernel
theorem dX10_offset_163 : decode cX10_offset 163 = .ok (.iload 7, 2) := by decide +kernel
theorem dX10_offset_165 : decode cX10_offset 165 = .ok (.iconst 1, 1) := by decide +kernel
theorem dX10_offset_166 : decode cX10_offset 166 = .ok (.iadd, 1) := by decide +kernel
theorem dX10_offset_167 : decode cX10_offset 167 = .ok (.iload 4, 2) := by decide +kernel
theorem dX10_offset_169 : decode cX10_offset 169 = .ok (.invokevirtual 87, 3) := by decide +kernel
theorem dX10_offset_172 : decode cX10_offset 172 = .ok (.iload 8, 2) := by decide +kernel
theorem dX10_offset_174 : decode cX10_offset 174 = .ok (.i2l, 1) := by decide +kernel
theorem dX10_offset_175 : decode cX10_offset 175 = .ok (.iload 9, 2) := by decide +kernel
theorem dX10_offset_177 : decode cX10_offset 177 = .ok (.i2l, 1) := by decide +kernel
theorem dX10_offset_178 : decode cX10_offset 178 = .ok (.iload 5, 2) := by decide +kernel
theorem dX10_offset_180 : decode cX10_offset 180 = .ok (.i2l, 1) := by decide +kernel
theorem dX10_offset_181 : decode cX10_offset 181 = .ok (.invokevirtual 91, 3) := by decide +kernel
theorem dX10_offset_184 : decode cX10_offset 184 = .ok (.ireturn, 1) := by decide +kernel
theorem dX10_movedBy_0 : decode cX10_movedBy 0 = .ok (.aload_n 0, 1) := by decide +kernel
theorem dX10_movedBy_1 : decode cX10_movedBy 1 = .ok (.iload_n 1, 1) := by decide +kernel
theorem dX10_movedBy_2 : decode cX10_movedBy 2 = .ok (.iload_n 2, 1) := by decide +kernel
theorem dX10_movedBy_3 : decode cX10_movedBy 3 = .ok (.invokevirtual 95, 3) := by decide +kernel
theorem dX10_movedBy_6 : decode cX10_movedBy 6 = .ok (.istore 4, 2) := by decide +kernel
theorem dX10_movedBy_8 : decode cX10_movedBy 8 = .ok (.iload 4, 2) := by decide +kernel
theorem dX10_movedBy_10 : decode cX10_movedBy 10 = .ok (.iconst (-1), 1) := by decide +kernel
theorem dX10_movedBy_11 : decode cX10_movedBy 11 = .ok (.if_icmp .ne 7, 3) := by decide +kernel
theorem dX10_movedBy_14 : decode cX10_movedBy 14 = .ok (.iconst 0, 1) := by decide +kernel
theorem dX10_movedBy_15 : decode cX10_movedBy 15 = .ok (.goto 12, 3) := by decide +kernel
theorem dX10_movedBy_18 : decode cX10_movedBy 18 = .ok (.aload_n 0, 1) := by decide +kernel
theorem dX10_movedBy_19 : decode cX10_movedBy 19 = .ok (.iload 4, 2) := by decide +kernel
theorem dX10_movedBy_21 : decode cX10_movedBy 21 = .ok (.iload_n 1, 1) := by decide +kernel
theorem dX10_movedBy_22 : decode cX10_movedBy 22 = .ok (.iload_n 2, 1) := by decide +kernel
theorem dX10_movedBy_23 : decode cX10_movedBy 23 = .ok (.iload_n 3, 1) := by decide +kernel
theorem dX10_movedBy_24 : decode cX10_movedBy 24 = .ok (.invokevirtual 98, 3) := by decide +kernel
theorem dX10_movedBy_27 : decode cX10_movedBy 27 = .ok (.ireturn, 1) := by decide +kernel
theorem dX10_isBorder_0 : decode cX10_isBorder 0 = .ok (.iload_n 2, 1) := by decide +kernel
theorem dX10_isBorder_1 : decode cX10_isBorder 1 = .ok (.ifCond .eq 31, 3) := by decide +kernel
theorem dX10_isBorder_4 : decode cX10_isBorder 4 = .ok (.iload_n 3, 1) := by decide +kernel
theorem dX10_isBorder_5 : decode cX10_isBorder 5 = .ok (.ifCond .eq 27, 3) := by decide +kernel
theorem dX10_isBorder_8 : decode cX10_isBorder 8 = .ok (.iload_n 2, 1) := by decide +kernel
theorem dX10_isBorder_9 : decode cX10_isBorder 9 = .ok (.aload_n 0, 1) := by decide +kernel
theorem dX10_isBorder_10 : decode cX10_isBorder 10 = .ok (.iload_n 1, 1) := by decide +kernel
theorem dX10_isBorder_11 : decode cX10_isBorder 11 = .ok (.iconst 4, 1) := by decide +kernel
theorem dX10_isBorder_12 : decode cX10_isBorder 12 = .ok (.invokevirtual 58, 3) := by decide +kernel
theorem dX10_isBorder_15 : decode cX10_isBorder 15 = .ok (.iconst 1, 1) := by decide +kernel
theorem dX10_isBorder_16 : decode cX10_isBorder 16 = .ok (.isub, 1) := by decide +kernel
theorem dX10_isBorder_17 : decode cX10_isBorder 17 = .ok (.if_icmp .eq 15, 3) := by decide +kernel
theorem dX10_isBorder_20 : decode cX10_isBorder 20 = .ok (.iload_n 3, 1) := by decide +kernel
theorem dX10_isBorder_21 : decode cX10_isBorder 21 = .ok (.aload_n 0, 1) := by decide +kernel
theorem dX10_isBorder_22 : decode cX10_isBorder 22 = .ok (.iload_n 1, 1) := by decide +kernel
theorem dX10_isBorder_23 : decode cX10_isBorder 23 = .ok (.iconst 5, 1) := by decide +kernel
theorem dX10_isBorder_24 : decode cX10_isBorder 24 = .ok (.invokevirtual 58, 3) := by decide +kernel
theorem dX10_isBorder_27 : decode cX10_isBorder 27 = .ok (.iconst 1, 1) := by decide +kernel
theorem dX10_isBorder_28 : decode cX10_isBorder 28 = .ok (.isub, 1) := by decide +kernel
theorem dX10_isBorder_29 : decode cX10_isBorder 29 = .ok (.if_icmp .ne 7, 3) := by decide +kernel
theorem dX10_isBorder_32 : decode cX10_isBorder 32 = .ok (.iconst 1, 1) := by decide +kernel
theorem dX10_isBorder_33 : decode cX10_isBorder 33 = .ok (.goto 4, 3) := by decide +kernel
theorem dX10_isBorder_36 : decode cX10_isBorder 36 = .ok (.iconst 0, 1) := by decide +kernel
theorem dX10_isBorder_37 : decode cX10_isBorder 37 = .ok (.ireturn, 1) := by decide +kernel
theorem dX10_ofParent_0 : decode cX10_ofParent 0 = .ok (.aload_n 0, 1) := by decide +kernel
theorem dX10_ofParent_1 : decode cX10_ofParent 1 = .ok (.aload_n 0, 1) := by decide +kernel
theorem dX10_ofParent_2 : decode cX10_ofParent 2 = .ok (.iload_n 1, 1) := by decide +kernel
theorem dX10_ofParent_3 : decode cX10_ofParent 3 = .ok (.iconst 0, 1) := by decide +kernel
theorem dX10_ofParent_4 : decode cX10_ofParent 4 = .ok (.invokevirtual 58, 3) := by decide +kernel
theorem dX10_ofParent_7 : decode cX10_ofParent 7 = .ok (.aload_n 0, 1) := by decide +kernel
theorem dX10_ofParent_8 : decode cX10_ofParent 8 = .ok (.iload_n 1, 1) := by decide +kernel
theorem dX10_ofParent_9 : decode cX10_ofParent 9 = .ok (.iload_n 2, 1) := by decide +kernel
theorem dX10_ofParent_10 : decode cX10_ofParent 10 = .ok (.iconst 0, 1) := by decide +kernel
theorem dX10_ofParent_11 : decode cX10_ofParent 11 = .ok (.invokevirtual 66, 3) := by decide +kernel
theorem dX10_ofParent_14 : decode cX10_ofParent 14 = .ok (.aload_n 0, 1) := by decide +kernel
theorem dX10_ofParent_15 : decode cX10_ofParent 15 = .ok (.iload_n 1, 1) := by decide +kernel
theorem dX10_ofParent_16 : decode cX10_ofParent 16 = .ok (.iload_n 3, 1) := by decide +kernel
theorem dX10_ofParent_17 : decode cX10_ofParent 17 = .ok (.iconst 1, 1) := by decide +kernel
theorem dX10_ofParent_18 : decode cX10_ofParent 18 = .ok (.invokevirtual 66, 3) := by decide +kernel
theorem dX10_ofParent_21 : decode cX10_ofParent 21 = .ok (.iload 4, 2) := by decide +kernel
theorem dX10_ofParent_23 : decode cX10_ofParent 23 = .ok (.invokevirtual 98, 3) := by decide +kernel
theorem dX10_ofParent_26 : decode cX10_ofParent 26 = .ok (.ireturn, 1) := by decide +kernel
theorem dX10_gapAt_0 : decode cX10_gapAt 0 = .ok (.aload_n 0, 1) := by decide +kernel
theorem dX10_gapAt_1 : decode cX10_gapAt 1 = .ok (.iload_n 1, 1) := by decide +kernel
theorem dX10_gapAt_2 : decode cX10_gapAt 2 = .ok (.iload_n 2, 1) := by decide +kernel
theorem dX10_gapAt_3 : decode cX10_gapAt 3 = .ok (.iload_n 3, 1) := by decide +kernel
theorem dX10_gapAt_4 : decode cX10_gapAt 4 = .ok (.iconst 0, 1) := by decide +kernel
theorem dX10_gapAt_5 : decode cX10_gapAt 5 = .ok (.invokevirtual 87, 3) := by decide +kernel
theorem dX10_gapAt_8 : decode cX10_gapAt 8 = .ok (.aload_n 0, 1) := by decide +kernel
theorem dX10_gapAt_9 : decode cX10_gapAt 9 = .ok (.iload_n 1, 1) := by decide +kernel
theorem dX10_gapAt_10 : decode cX10_gapAt 10 = .ok (.iload_n 2, 1) := by decide +kernel
theorem dX10_gapAt_11 : decode cX10_gapAt 11 = .ok (.iload_n 3, 1) := by decide +kernel
theorem dX10_gapAt_12 : decode cX10_gapAt 12 = .ok (.iconst 0, 1) := by decide +kernel
theorem dX10_gapAt_13 : decode cX10_gapAt 13 = .ok (.invokevirtual 101, 3) := by decide +kernel
theorem dX10_gapAt_16 : decode cX10_gapAt 16 = .ok (.isub, 1) := by decide +kernel
theorem dX10_gapAt_17 : decode cX10_gapAt 17 = .ok (.invokestatic 104, 3) := by decide +kernel
theorem dX10_gapAt_20 : decode cX10_gapAt 20 = .ok (.istore 4, 2) := by decide +kernel
theorem dX10_gapAt_22 : decode cX10_gapAt 22 = .ok (.iload 4, 2) := by decide +kernel
theorem dX10_gapAt_24 : decode cX10_gapAt 24 = .ok (.aload_n 0, 1) := by decide +kernel
theorem dX10_gapAt_25 : decode cX10_gapAt 25 = .ok (.iload_n 1, 1) := by decide +kernel
theorem dX10_gapAt_26 : decode cX10_gapAt 26 = .ok (.iload_n 2, 1) := by decide +kernel
theorem dX10_gapAt_27 : decode cX10_gapAt 27 = .ok (.iload_n 3, 1) := by decide +kernel
theorem dX10_gapAt_28 : decode cX10_gapAt 28 = .ok (.iconst 1, 1) := by decide +kernel
theorem dX10_gapAt_29 : decode cX10_gapAt 29 = .ok (.invokevirtual 87, 3) := by decide +kernel
theorem dX10_gapAt_32 : decode cX10_gapAt 32 = .ok (.aload_n 0, 1) := by decide +kernel
theorem dX10_gapAt_33 : decode cX10_gapAt 33 = .ok (.iload_n 1, 1) := by decide +kernel
theorem dX10_gapAt_34 : decode cX10_gapAt 34 = .ok (.iload_n 2, 1) := by decide +kernel
theorem dX10_gapAt_35 : decode cX10_gapAt 35 = .ok (.iload_n 3, 1) := by decide +kernel
theorem dX10_gapAt_36 : decode cX10_gapAt 36 = .ok (.iconst 1, 1) := by decide +kernel
theorem dX10_gapAt_37 : decode cX10_gapAt 37 = .ok (.invokevirtual 101, 3) := by decide +kernel
theorem dX10_gapAt_40 : decode cX10_gapAt 40 = .ok (.isub, 1) := by decide +kernel
theorem dX10_gapAt_41 : decode cX10_gapAt 41 = .ok (.invokestatic 104, 3) := by decide +kernel
theorem dX10_gapAt_44 : decode cX10_gapAt 44 = .ok (.invokestatic 108, 3) := by decide +kernel
theorem dX10_gapAt_47 : decode cX10_gapAt 47 = .ok (.ireturn, 1) := by decide +kernel
theorem dX10_gaps_0 : decode cX10_gaps 0 = .ok (.aload_n 0, 1) := by decide +kernel
theorem dX10_gaps_1 : decode cX10_gaps 1 = .ok (.iconst 0, 1) := by decide +kernel
theorem dX10_gaps_2 : decode cX10_gaps 2 = .ok (.putfield 111, 3) := by decide +kernel
theorem dX10_gaps_5 : decode cX10_gaps 5 = .ok (.aload_n 0, 1) := by decide +kernel
theorem dX10_gaps_6 : decode cX10_gaps 6 = .ok (.iconst 0, 1) := by decide +kernel
theorem dX10_gaps_7 : decode cX10_gaps 7 = .ok (.putfield 114, 3) := by decide +kernel
theorem dX10_gaps_10 : decode cX10_gaps 10 = .ok (.iconst 0, 1) := by decide +kernel
theorem dX10_gaps_11 : decode cX10_gaps 11 = .ok (.istore_n 2, 1) := by decide +kernel
theorem dX10_gaps_12 : decode cX10_gaps 12 = .ok (.iload_n 2, 1) := by decide +kernel
theorem dX10_gaps_13 : decode cX10_gaps 13 = .ok (.aload_n 0, 1) := by decide +kernel
theorem dX10_gaps_14 : decode cX10_gaps 14 = .ok (.iload_n 1, 1) := by decide +kernel
theorem dX10_gaps_15 : decode cX10_gaps 15 = .ok (.iconst 4, 1) := by decide +kernel
theorem dX10_gaps_16 : decode cX10_gaps 16 = .ok (.invokevirtual 58, 3) := by decide +kernel
theorem dX10_gaps_19 : decode cX10_gaps 19 = .ok (.aload_n 0, 1) := by decide +kernel
theorem dX10_gaps_20 : decode cX10_gaps 20 = .ok (.iload_n 1, 1) := by decide +kernel
theorem dX10_gaps_21 : decode cX10_gaps 21 = .ok (.iconst 5, 1) := by decide +kernel
theorem dX10_gaps_22 : decode cX10_gaps 22 = .ok (.invokevirtual 58, 3) := by decide +kernel
theorem dX10_gaps_25 : decode cX10_gaps 25 = .ok (.imul, 1) := by decide +kernel
theorem dX10_gaps_26 : decode cX10_gaps 26 = .ok (.if_icmp .ge 93, 3) := by decide +kernel
theorem dX10_gaps_29 : decode cX10_gaps 29 = .ok (.aload_n 0, 1) := by decide +kernel
theorem dX10_gaps_30 : decode cX10_gaps 30 = .ok (.iload_n 1, 1) := by decide +kernel
theorem dX10_gaps_31 : decode cX10_gaps 31 = .ok (.iconst 0, 1) := by decide +kernel
theorem dX10_gaps_32 : decode cX10_gaps 32 = .ok (.invokevirtual 58, 3) := by decide +kernel
theorem dX10_gaps_35 : decode cX10_gaps 35 = .ok (.iconst (-1), 1) := by decide +kernel
theorem dX10_gaps_36 : decode cX10_gaps 36 = .ok (.if_icmp .eq 83, 3) := by decide +kernel
theorem dX10_gaps_39 : decode cX10_gaps 39 = .ok (.iload_n 2, 1) := by decide +kernel
theorem dX10_gaps_40 : decode cX10_gaps 40 = .ok (.aload_n 0, 1) := by decide +kernel
theorem dX10_gaps_41 : decode cX10_gaps 41 = .ok (.iload_n 1, 1) := by decide +kernel
theorem dX10_gaps_42 : decode cX10_gaps 42 = .ok (.iconst 4, 1) := by decide +kernel
theorem dX10_gaps_43 : decode cX10_gaps 43 = .ok (.invokevirtual 58, 3) := by decide +kernel
theorem dX10_gaps_46 : decode cX10_gaps 46 = .ok (.irem, 1) := by decide +kernel
theorem dX10_gaps_47 : decode cX10_gaps 47 = .ok (.istore_n 3, 1) := by decide +kernel
theorem dX10_gaps_48 : decode cX10_gaps 48 = .ok (.iload_n 2, 1) := by decide +kernel
theorem dX10_gaps_49 : decode cX10_gaps 49 = .ok (.aload_n 0, 1) := by decide +kernel
theorem dX10_gaps_50 : decode cX10_gaps 50 = .ok (.iload_n 1, 1) := by decide +kernel
theorem dX10_gaps_51 : decode cX10_gaps 51 = .ok (.iconst 4, 1) := by decide +kernel
theorem dX10_gaps_52 : decode cX10_gaps 52 = .ok (.invokevirtual 58, 3) := by decide +kernel
theorem dX10_gaps_55 : decode cX10_gaps 55 = .ok (.idiv, 1) := by decide +kernel
theorem dX10_gaps_56 : decode cX10_gaps 56 = .ok (.istore 4, 2) := by decide +kernel
theorem dX10_gaps_58 : decode cX10_gaps 58 = .ok (.aload_n 0, 1) := by decide +kernel
theorem dX10_gaps_59 : decode cX10_gaps 59 = .ok (.iload_n 1, 1) := by decide +kernel
theorem dX10_gaps_60 : decode cX10_gaps 60 = .ok (.iload_n 3, 1) := by decide +kernel
theorem dX10_gaps_61 : decode cX10_gaps 61 = .ok (.iload 4, 2) := by decide +kernel
theorem dX10_gaps_63 : decode cX10_gaps 63 = .ok (.invokevirtual 117, 3) := by decide +kernel
theorem dX10_gaps_66 : decode cX10_gaps 66 = .ok (.ifCond .eq 47, 3) := by decide +kernel
theorem dX10_gaps_69 : decode cX10_gaps 69 = .ok (.aload_n 0, 1) := by decide +kernel
theorem dX10_gaps_70 : decode cX10_gaps 70 = .ok (.dup, 1) := by decide +kernel
theorem dX10_gaps_71 : decode cX10_gaps 71 = .ok (.getfield 111, 3) := by decide +kernel
theorem dX10_gaps_74 : decode cX10_gaps 74 = .ok (.aload_n 0, 1) := by decide +kernel
theorem dX10_gaps_75 : decode cX10_gaps 75 = .ok (.iload_n 1, 1) := by decide +kernel
theorem dX10_gaps_76 : decode cX10_gaps 76 = .ok (.iload_n 3, 1) := by decide +kernel
theorem dX10_gaps_77 : decode cX10_gaps 77 = .ok (.iload 4, 2) := by decide +kernel
theorem dX10_gaps_79 : decode cX10_gaps 79 = .ok (.invokevirtual 120, 3) := by decide +kernel
theorem dX10_gaps_82 : decode cX10_gaps 82 = .ok (.ifCond .le 7, 3) := by decide +kernel
theorem dX10_gaps_85 : decode cX10_gaps 85 = .ok (.iconst 1, 1) := by decide +kernel
theorem dX10_gaps_86 : decode cX10_gaps 86 = .ok (.goto 4, 3) := by decide +kernel
theorem dX10_gaps_89 : decode cX10_gaps 89 = .ok (.iconst 0, 1) := by decide +kernel
theorem dX10_gaps_90 : decode cX10_gaps 90 = .ok (.iadd, 1) := by decide +kernel
theorem dX10_gaps_91 : decode cX10_gaps 91 = .ok (.putfield 111, 3) := by decide +kernel
theorem dX10_gaps_94 : decode cX10_gaps 94 = .ok (.aload_n 0, 1) := by decide +kernel
theorem dX10_gaps_95 : decode cX10_gaps 95 = .ok (.aload_n 0, 1) := by decide +kernel
theorem dX10_gaps_96 : decode cX10_gaps 96 = .ok (.getfield 114, 3) := by decide +kernel
theorem dX10_gaps_99 : decode cX10_gaps 99 = .ok (.aload_n 0, 1) := by decide +kernel
theorem dX10_gaps_100 : decode cX10_gaps 100 = .ok (.iload_n 1, 1) := by decide +kernel
theorem dX10_gaps_101 : decode cX10_gaps 101 = .ok (.iload_n 3, 1) := by decide +kernel
theorem dX10_gaps_102 : decode cX10_gaps 102 = .ok (.iload 4, 2) := by decide +kernel
theorem dX10_gaps_104 : decode cX10_gaps 104 = .ok (.invokevirtual 120, 3) := by decide +kernel
theorem dX10_gaps_107 : decode cX10_gaps 107 = .ok (.invokestatic 108, 3) := by decide +kernel
theorem dX10_gaps_110 : decode cX10_gaps 110 = .ok (.putfield 114, 3) := by decide +kernel
theorem dX10_gaps_113 : decode cX10_gaps 113 = .ok (.iinc 2 1, 3) := by decide +kernel
theorem dX10_gaps_116 : decode cX10_gaps 116 = .ok (.goto (-104), 3) := by decide +kernel
theorem dX10_gaps_119 : decode cX10_gaps 119 = .ok (.return_, 1) := by decide +kernel
theorem dX10_steepIn_0 : decode cX10_steepIn 0 = .ok (.aload_n 0, 1) := by decide +kernel
theorem dX10_steepIn_1 : decode cX10_steepIn 1 = .ok (.iload_n 1, 1) := by decide +kernel
theorem dX10_steepIn_2 : decode cX10_steepIn 2 = .ok (.iload_n 2, 1) := by decide +kernel
theorem dX10_steepIn_3 : decode cX10_steepIn 3 = .ok (.iload_n 3, 1) := by decide +kernel
theorem dX10_steepIn_4 : decode cX10_steepIn 4 = .ok (.iload 4, 2) := by decide +kernel
theorem dX10_steepIn_6 : decode cX10_steepIn 6 = .ok (.invokevirtual 87, 3) := by decide +kernel
theorem dX10_steepIn_9 : decode cX10_steepIn 9 = .ok (.istore 5, 2) := by decide +kernel
theorem dX10_steepIn_11 : decode cX10_steepIn 11 = .ok (.aload_n 0, 1) := by decide +kernel
theorem dX10_steepIn_12 : decode cX10_steepIn 12 = .ok (.iload_n 1, 1) := by decide +kernel
theorem dX10_steepIn_13 : decode cX10_steepIn 13 = .ok (.iload_n 2, 1) := by decide +kernel
theorem dX10_steepIn_14 : decode cX10_steepIn 14 = .ok (.iconst 1, 1) := by decide +kernel
theorem dX10_steepIn_15 : decode cX10_steepIn 15 = .ok (.iadd, 1) := by decide +kernel
theorem dX10_steepIn_16 : decode cX10_steepIn 16 = .ok (.iload_n 3, 1) := by decide +kernel
theorem dX10_steepIn_17 : decode cX10_steepIn 17 = .ok (.iload 4, 2) := by decide +kernel
theorem dX10_steepIn_19 : decode cX10_steepIn 19 = .ok (.invokevirtual 87, 3) := by decide +kernel
theorem dX10_steepIn_22 : decode cX10_steepIn 22 = .ok (.istore 6, 2) := by decide +kernel
theorem dX10_steepIn_24 : decode cX10_steepIn 24 = .ok (.aload_n 0, 1) := by decide +kernel
theorem dX10_steepIn_25 : decode cX10_steepIn 25 = .ok (.iload_n 1, 1) := by decide +kernel
theorem dX10_steepIn_26 : decode cX10_steepIn 26 = .ok (.iload_n 2, 1) := by decide +kernel
theorem dX10_steepIn_27 : decode cX10_steepIn 27 = .ok (.iload_n 3, 1) := by decide +kernel
theorem dX10_steepIn_28 : decode cX10_steepIn 28 = .ok (.iconst 1, 1) := by decide +kernel
theorem dX10_steepIn_29 : decode cX10_steepIn 29 = .ok (.iadd, 1) := by decide +kernel
theorem dX10_steepIn_30 : decode cX10_steepIn 30 = .ok (.iload 4, 2) := by decide +kernel
theorem dX10_steepIn_32 : decode cX10_steepIn 32 = .ok (.invokevirtual 87, 3) := by decide +kernel
theorem dX10_steepIn_35 : decode cX10_steepIn 35 = .ok (.istore 7, 2) := by decide +kernel
theorem dX10_steepIn_37 : decode cX10_steepIn 37 = .ok (.aload_n 0, 1) := by decide +kernel
theorem dX10_steepIn_38 : decode cX10_steepIn 38 = .ok (.iload_n 1, 1) := by decide +kernel
theorem dX10_steepIn_39 : decode cX10_steepIn 39 = .ok (.iload_n 2, 1) := by decide +kernel
theorem dX10_steepIn_40 : decode cX10_steepIn 40 = .ok (.iconst 1, 1) := by decide +kernel
theorem dX10_steepIn_41 : decode cX10_steepIn 41 = .ok (.iadd, 1) := by decide +kernel
theorem dX10_steepIn_42 : decode cX10_steepIn 42 = .ok (.iload_n 3, 1) := by decide +kernel
theorem dX10_steepIn_43 : decode cX10_steepIn 43 = .ok (.iconst 1, 1) := by decide +kernel
theorem dX10_steepIn_44 : decode cX10_steepIn 44 = .ok (.iadd, 1) := by decide +kernel
theorem dX10_steepIn_45 : decode cX10_steepIn 45 = .ok (.iload 4, 2) := by decide +kernel
theorem dX10_steepIn_47 : decode cX10_steepIn 47 = .ok (.invokevirtual 87, 3) := by decide +kernel
theorem dX10_steepIn_50 : decode cX10_steepIn 50 = .ok (.istore 8, 2) := by decide +kernel
theorem dX10_steepIn_52 : decode cX10_steepIn 52 = .ok (.iload 6, 2) := by decide +kernel
theorem dX10_steepIn_54 : decode cX10_steepIn 54 = .ok (.iload 5, 2) := by decide +kernel
theorem dX10_steepIn_56 : decode cX10_steepIn 56 = .ok (.isub, 1) := by decide +kernel
theorem dX10_steepIn_57 : decode cX10_steepIn 57 = .ok (.invokestatic 104, 3) := by decide +kernel
theorem dX10_steepIn_60 : decode cX10_steepIn 60 = .ok (.iload 8, 2) := by decide +kernel
theorem dX10_steepIn_62 : decode cX10_steepIn 62 = .ok (.iload 7, 2) := by decide +kernel
theorem dX10_steepIn_64 : decode cX10_steepIn 64 = .ok (.isub, 1) := by decide +kernel
theorem dX10_steepIn_65 : decode cX10_steepIn 65 = .ok (.invokestatic 104, 3) := by decide +kernel
theorem dX10_steepIn_68 : decode cX10_steepIn 68 = .ok (.invokestatic 108, 3) := by decide +kernel
theorem dX10_steepIn_71 : decode cX10_steepIn 71 = .ok (.iload 7, 2) := by decide +kernel
theorem dX10_steepIn_73 : decode cX10_steepIn 73 = .ok (.iload 5, 2) := by decide +kernel
theorem dX10_steepIn_75 : decode cX10_steepIn 75 = .ok (.isub, 1) := by decide +kernel
theorem dX10_steepIn_76 : decode cX10_steepIn 76 = .ok (.invokestatic 104, 3) := by decide +kernel
theorem dX10_steepIn_79 : decode cX10_steepIn 79 = .ok (.iload 8, 2) := by decide +kernel
theorem dX10_steepIn_81 : decode cX10_steepIn 81 = .ok (.iload 6, 2) := by decide +kernel
theorem dX10_steepIn_83 : decode cX10_steepIn 83 = .ok (.isub, 1) := by decide +kernel
theorem dX10_steepIn_84 : decode cX10_steepIn 84 = .ok (.invokestatic 104, 3) := by decide +kernel
theorem dX10_steepIn_87 : decode cX10_steepIn 87 = .ok (.invokestatic 108, 3) := by decide +kernel
theorem dX10_steepIn_90 : decode cX10_steepIn 90 = .ok (.iadd, 1) := by decide +kernel
theorem dX10_steepIn_91 : decode cX10_steepIn 91 = .ok (.ireturn, 1) := by decide +kernel
theorem dX10_steep_0 : decode cX10_steep 0 = .ok (.aload_n 0, 1) := by decide +kernel
theorem dX10_steep_1 : decode cX10_steep 1 = .ok (.iload_n 1, 1) := by decide +kernel
theorem dX10_steep_2 : decode cX10_steep 2 = .ok (.iload_n 2, 1) := by decide +kernel
theorem dX10_steep_3 : decode cX10_steep 3 = .ok (.iload_n 3, 1) := by decide +kernel
theorem dX10_steep_4 : decode cX10_steep 4 = .ok (.iconst 0, 1) := by decide +kernel
theorem dX10_steep_5 : decode cX10_steep 5 = .ok (.invokevirtual 123, 3) := by decide +kernel
theorem dX10_steep_8 : decode cX10_steep 8 = .ok (.aload_n 0, 1) := by decide +kernel
theorem dX10_steep_9 : decode cX10_steep 9 = .ok (.iload_n 1, 1) := by decide +kernel
theorem dX10_steep_10 : decode cX10_steep 10 = .ok (.iload_n 2, 1) := by decide +kernel
theorem dX10_steep_11 : decode cX10_steep 11 = .ok (.iload_n 3, 1) := by decide +kernel
theorem dX10_steep_12 : decode cX10_steep 12 = .ok (.iconst 1, 1) := by decide +kernel
theorem dX10_steep_13 : decode cX10_steep 13 = .ok (.invokevirtual 123, 3) := by decide +kernel
theorem dX10_steep_16 : decode cX10_steep 16 = .ok (.invokestatic 108, 3) := by decide +kernel
theorem dX10_steep_19 : decode cX10_steep 19 = .ok (.ireturn, 1) := by decide +kernel
theorem dX10_isSure_0 : decode cX10_isSure 0 = .ok (.iconst 2, 1) := by decide +kernel
theorem dX10_isSure_1 : decode cX10_isSure 1 = .ok (.aload_n 0, 1) := by decide +kernel
theorem dX10_isSure_2 : decode cX10_isSure 2 = .ok (.iload_n 1, 1) := by decide +kernel
theorem dX10_isSure_3 : decode cX10_isSure 3 = .ok (.iload_n 2, 1) := by decide +kernel
theorem dX10_isSure_4 : decode cX10_isSure 4 = .ok (.iload_n 3, 1) := by decide +kernel
theorem dX10_isSure_5 : decode cX10_isSure 5 = .ok (.invokevirtual 126, 3) := by decide +kernel
theorem dX10_isSure_8 : decode cX10_isSure 8 = .ok (.imul, 1) := by decide +kernel
theorem dX10_isSure_9 : decode cX10_isSure 9 = .ok (.bipush 64, 2) := by decide +kernel
theorem dX10_isSure_11 : decode cX10_isSure 11 = .ok (.aload_n 0, 1) := by decide +kernel
theorem dX10_isSure_12 : decode cX10_isSure 12 = .ok (.iload_n 1, 1) := by decide +kernel
theorem dX10_isSure_13 : decode cX10_isSure 13 = .ok (.iconst 3, 1) := by decide +kernel
theorem dX10_isSure_14 : decode cX10_isSure 14 = .ok (.invokevirtual 58, 3) := by decide +kernel
theorem dX10_isSure_17 : decode cX10_isSure 17 = .ok (.imul, 1) := by decide +kernel
theorem dX10_isSure_18 : decode cX10_isSure 18 = .ok (.if_icmp .ge 7, 3) := by decide +kernel
theorem dX10_isSure_21 : decode cX10_isSure 21 = .ok (.iconst 1, 1) := by decide +kernel
theorem dX10_isSure_22 : decode cX10_isSure 22 = .ok (.goto 4, 3) := by decide +kernel
theorem dX10_isSure_25 : decode cX10_isSure 25 = .ok (.iconst 0, 1) := by decide +kernel
theorem dX10_isSure_26 : decode cX10_isSure 26 = .ok (.ireturn, 1) := by decide +kernel
theorem dX10_corner_0 : decode cX10_corner 0 = .ok (.iload_n 2, 1) := by decide +kernel
theorem dX10_corner_1 : decode cX10_corner 1 = .ok (.iload 4, 2) := by decide +kernel
theorem dX10_corner_3 : decode cX10_corner 3 = .ok (.iconst 4, 1) := by decide +kernel
theorem dX10_corner_4 : decode cX10_corner 4 = .ok (.irem, 1) := by decide +kernel
theorem dX10_corner_5 : decode cX10_corner 5 = .ok (.iconst 1, 1) := by decide +kernel
theorem dX10_corner_6 : decode cX10_corner 6 = .ok (.if_icmp .eq 11, 3) := by decide +kernel
theorem dX10_corner_9 : decode cX10_corner 9 = .ok (.iload 4, 2) := by decide +kernel
theorem dX10_corner_11 : decode cX10_corner 11 = .ok (.iconst 4, 1) := by decide +kernel
theorem dX10_corner_12 : decode cX10_corner 12 = .ok (.irem, 1) := by decide +kernel
theorem dX10_corner_13 : decode cX10_corner 13 = .ok (.iconst 2, 1) := by decide +kernel
theorem dX10_corner_14 : decode cX10_corner 14 = .ok (.if_icmp .ne 7, 3) := by decide +kernel
theorem dX10_corner_17 : decode cX10_corner 17 = .ok (.iconst 1, 1) := by decide +kernel
theorem dX10_corner_18 : decode cX10_corner 18 = .ok (.goto 4, 3) := by decide +kernel
theorem dX10_corner_21 : decode cX10_corner 21 = .ok (.iconst 0, 1) := by decide +kernel
theorem dX10_corner_22 : decode cX10_corner 22 = .ok (.iadd, 1) := by decide +kernel
theorem dX10_corner_23 : decode cX10_corner 23 = .ok (.istore 6, 2) := by decide +kernel
theorem dX10_corner_25 : decode cX10_corner 25 = .ok (.iload_n 3, 1) := by decide +kernel
theorem dX10_corner_26 : decode cX10_corner 26 = .ok (.iload 4, 2) := by decide +kernel
theorem dX10_corner_28 : decode cX10_corner 28 = .ok (.iconst 4, 1) := by decide +kernel
theorem dX10_corner_29 : decode cX10_corner 29 = .ok (.irem, 1) := by decide +kernel
theorem dX10_corner_30 : decode cX10_corner 30 = .ok (.iconst 1, 1) := by decide +kernel
theorem dX10_corner_31 : decode cX10_corner 31 = .ok (.if_icmp .le 7, 3) := by decide +kernel
theorem dX10_corner_34 : decode cX10_corner 34 = .ok (.iconst 1, 1) := by decide +kernel
theorem dX10_corner_35 : decode cX10_corner 35 = .ok (.goto 4, 3) := by decide +kernel
theorem dX10_corner_38 : decode cX10_corner 38 = .ok (.iconst 0, 1) := by decide +kernel
theorem dX10_corner_39 : decode cX10_corner 39 = .ok (.iadd, 1) := by decide +kernel
theorem dX10_corner_40 : decode cX10_corner 40 = .ok (.istore 7, 2) := by decide +kernel
theorem dX10_corner_42 : decode cX10_corner 42 = .ok (.aload_n 0, 1) := by decide +kernel
theorem dX10_corner_43 : decode cX10_corner 43 = .ok (.iload_n 1, 1) := by decide +kernel
theorem dX10_corner_44 : decode cX10_corner 44 = .ok (.iload 5, 2) := by decide +kernel
theorem dX10_corner_46 : decode cX10_corner 46 = .ok (.ifCond .ne 8, 3) := by decide +kernel
theorem dX10_corner_49 : decode cX10_corner 49 = .ok (.iload 6, 2) := by decide +kernel
theorem dX10_corner_51 : decode cX10_corner 51 = .ok (.goto 5, 3) := by decide +kernel
theorem dX10_corner_54 : decode cX10_corner 54 = .ok (.iload 7, 2) := by decide +kernel
theorem dX10_corner_56 : decode cX10_corner 56 = .ok (.iload 5, 2) := by decide +kernel
theorem dX10_corner_58 : decode cX10_corner 58 = .ok (.invokevirtual 66, 3) := by decide +kernel
theorem dX10_corner_61 : decode cX10_corner 61 = .ok (.aload_n 0, 1) := by decide +kernel
theorem dX10_corner_62 : decode cX10_corner 62 = .ok (.iload_n 1, 1) := by decide +kernel
theorem dX10_corner_63 : decode cX10_corner 63 = .ok (.iload 6, 2) := by decide +kernel
theorem dX10_corner_65 : decode cX10_corner 65 = .ok (.iload 7, 2) := by decide +kernel
theorem dX10_corner_67 : decode cX10_corner 67 = .ok (.iload 5, 2) := by decide +kernel
theorem dX10_corner_69 : decode cX10_corner 69 = .ok (.invokevirtual 87, 3) := by decide +kernel
theorem dX10_corner_72 : decode cX10_corner 72 = .ok (.iadd, 1) := by decide +kernel
theorem dX10_corner_73 : decode cX10_corner 73 = .ok (.i2l, 1) := by decide +kernel
theorem dX10_corner_74 : decode cX10_corner 74 = .ok (.lreturn, 1) := by decide +kernel
theorem dX10_cross_0 : decode cX10_cross 0 = .ok (.aload_n 0, 1) := by decide +kernel
theorem dX10_cross_1 : decode cX10_cross 1 = .ok (.iload_n 1, 1) := by decide +kernel
theorem dX10_cross_2 : decode cX10_cross 2 = .ok (.iload_n 2, 1) := by decide +kernel
theorem dX10_cross_3 : decode cX10_cross 3 = .ok (.iload_n 3, 1) := by decide +kernel
theorem dX10_cross_4 : decode cX10_cross 4 = .ok (.iload 4, 2) := by decide +kernel
theorem dX10_cross_6 : decode cX10_cross 6 = .ok (.iconst 0, 1) := by decide +kernel
theorem dX10_cross_7 : decode cX10_cross 7 = .ok (.invokevirtual 129, 3) := by decide +kernel
theorem dX10_cross_10 : decode cX10_cross 10 = .ok (.aload_n 0, 1) := by decide +kernel
theorem dX10_cross_11 : decode cX10_cross 11 = .ok (.iload_n 1, 1) := by decide +kernel
theorem dX10_cross_12 : decode cX10_cross 12 = .ok (.iload_n 2, 1) := by decide +kernel
theorem dX10_cross_13 : decode cX10_cross 13 = .ok (.iload_n 3, 1) := by decide +kernel
theorem dX10_cross_14 : decode cX10_cross 14 = .ok (.iload 5, 2) := by decide +kernel
theorem dX10_cross_16 : decode cX10_cross 16 = .ok (.iconst 1, 1) := by decide +kernel
theorem dX10_cross_17 : decode cX10_cross 17 = .ok (.invokevirtual 129, 3) := by decide +kernel
theorem dX10_cross_20 : decode cX10_cross 20 = .ok (.lmul, 1) := by decide +kernel
theorem dX10_cross_21 : decode cX10_cross 21 = .ok (.aload_n 0, 1) := by decide +kernel
theorem dX10_cross_22 : decode cX10_cross 22 = .ok (.iload_n 1, 1) := by decide +kernel
theorem dX10_cross_23 : decode cX10_cross 23 = .ok (.iload_n 2, 1) := by decide +kernel
theorem dX10_cross_24 : decode cX10_cross 24 = .ok (.iload_n 3, 1) := by decide +kernel
theorem dX10_cross_25 : decode cX10_cross 25 = .ok (.iload 5, 2) := by decide +kernel
theorem dX10_cross_27 : decode cX10_cross 27 = .ok (.iconst 0, 1) := by decide +kernel
theorem dX10_cross_28 : decode cX10_cross 28 = .ok (.invokevirtual 129, 3) := by decide +kernel
theorem dX10_cross_31 : decode cX10_cross 31 = .ok (.aload_n 0, 1) := by decide +kernel
theorem dX10_cross_32 : decode cX10_cross 32 = .ok (.iload_n 1, 1) := by decide +kernel
theorem dX10_cross_33 : decode cX10_cross 33 = .ok (.iload_n 2, 1) := by decide +kernel
theorem dX10_cross_34 : decode cX10_cross 34 = .ok (.iload_n 3, 1) := by decide +kernel
theorem dX10_cross_35 : decode cX10_cross 35 = .ok (.iload 4, 2) := by decide +kernel
theorem dX10_cross_37 : decode cX10_cross 37 = .ok (.iconst 1, 1) := by decide +kernel
theorem dX10_cross_38 : decode cX10_cross 38 = .ok (.invokevirtual 129, 3) := by decide +kernel
theorem dX10_cross_41 : decode cX10_cross 41 = .ok (.lmul, 1) := by decide +kernel
theorem dX10_cross_42 : decode cX10_cross 42 = .ok (.lsub, 1) := by decide +kernel
theorem dX10_cross_43 : decode cX10_cross 43 = .ok (.lreturn, 1) := by decide +kernel
theorem dX10_area_0 : decode cX10_area 0 = .ok (.aload_n 0, 1) := by decide +kernel
theorem dX10_area_1 : decode cX10_area 1 = .ok (.iload_n 1, 1) := by decide +kernel
theorem dX10_area_2 : decode cX10_area 2 = .ok (.iload_n 2, 1) := by decide +kernel
theorem dX10_area_3 : decode cX10_area 3 = .ok (.iload_n 3, 1) := by decide +kernel
theorem dX10_area_4 : decode cX10_area 4 = .ok (.iconst 0, 1) := by decide +kernel
theorem dX10_area_5 : decode cX10_area 5 = .ok (.iconst 1, 1) := by decide +kernel
theorem dX10_area_6 : decode cX10_area 6 = .ok (.invokevirtual 133, 3) := by decide +kernel
theorem dX10_area_9 : decode cX10_area 9 = .ok (.aload_n 0, 1) := by decide +kernel
theorem dX10_area_10 : decode cX10_area 10 = .ok (.iload_n 1, 1) := by decide +kernel
theorem dX10_area_11 : decode cX10_area 11 = .ok (.iload_n 2, 1) := by decide +kernel
theorem dX10_area_12 : decode cX10_area 12 = .ok (.iload_n 3, 1) := by decide +kernel
theorem dX10_area_13 : decode cX10_area 13 = .ok (.iconst 1, 1) := by decide +kernel
theorem dX10_area_14 : decode cX10_area 14 = .ok (.iconst 2, 1) := by decide +kernel
theorem dX10_area_15 : decode cX10_area 15 = .ok (.invokevirtual 133, 3) := by decide +kernel
theorem dX10_area_18 : decode cX10_area 18 = .ok (.ladd, 1) := by decide +kernel
theorem dX10_area_19 : decode cX10_area 19 = .ok (.aload_n 0, 1) := by decide +kernel
theorem dX10_area_20 : decode cX10_area 20 = .ok (.iload_n 1, 1) := by decide +kernel
theorem dX10_area_21 : decode cX10_area 21 = .ok (.iload_n 2, 1) := by decide +kernel
theorem dX10_area_22 : decode cX10_area 22 = .ok (.iload_n 3, 1) := by decide +kernel
theorem dX10_area_23 : decode cX10_area 23 = .ok (.iconst 2, 1) := by decide +kernel
theorem dX10_area_24 : decode cX10_area 24 = .ok (.iconst 3, 1) := by decide +kernel
theorem dX10_area_25 : decode cX10_area 25 = .ok (.invokevirtual 133, 3) := by decide +kernel
theorem dX10_area_28 : decode cX10_area 28 = .ok (.ladd, 1) := by decide +kernel
theorem dX10_area_29 : decode cX10_area 29 = .ok (.aload_n 0, 1) := by decide +kernel
theorem dX10_area_30 : decode cX10_area 30 = .ok (.iload_n 1, 1) := by decide +kernel
theorem dX10_area_31 : decode cX10_area 31 = .ok (.iload_n 2, 1) := by decide +kernel
theorem dX10_area_32 : decode cX10_area 32 = .ok (.iload_n 3, 1) := by decide +kernel
theorem dX10_area_33 : decode cX10_area 33 = .ok (.iconst 3, 1) := by decide +kernel
theorem dX10_area_34 : decode cX10_area 34 = .ok (.iconst 0, 1) := by decide +kernel
theorem dX10_area_35 : decode cX10_area 35 = .ok (.invokevirtual 133, 3) := by decide +kernel
theorem dX10_area_38 : decode cX10_area 38 = .ok (.ladd, 1) := by decide +kernel
theorem dX10_area_39 : decode cX10_area 39 = .ok (.lreturn, 1) := by decide +kernel
theorem dX10_isFolded_0 : decode cX10_isFolded 0 = .ok (.iconst 0, 1) := by decide +kernel
theorem dX10_isFolded_1 : decode cX10_isFolded 1 = .ok (.istore 4, 2) := by decide +kernel
theorem dX10_isFolded_3 : decode cX10_isFolded 3 = .ok (.iconst 0, 1) := by decide +kernel
theorem dX10_isFolded_4 : decode cX10_isFolded 4 = .ok (.istore 5, 2) := by decide +kernel
theorem dX10_isFolded_6 : decode cX10_isFolded 6 = .ok (.iload 5, 2) := by decide +kernel
theorem dX10_isFolded_8 : decode cX10_isFolded 8 = .ok (.iconst 4, 1) := by decide +kernel
theorem dX10_isFolded_9 : decode cX10_isFolded 9 = .ok (.if_icmp .ge 69, 3) := by decide +kernel
theorem dX10_isFolded_12 : decode cX10_isFolded 12 = .ok (.iload 4, 2) := by decide +kernel
theorem dX10_isFolded_14 : decode cX10_isFolded 14 = .ok (.ifCond .ne 51, 3) := by decide +kernel
theorem dX10_isFolded_17 : decode cX10_isFolded 17 = .ok (.aload_n 0, 1) := by decide +kernel
theorem dX10_isFolded_18 : decode cX10_isFolded 18 = .ok (.iload_n 1, 1) := by decide +kernel
theorem dX10_isFolded_19 : decode cX10_isFolded 19 = .ok (.iload_n 2, 1) := by decide +kernel
theorem dX10_isFolded_20 : decode cX10_isFolded 20 = .ok (.iload_n 3, 1) := by decide +kernel
theorem dX10_isFolded_21 : decode cX10_isFolded 21 = .ok (.iload 5, 2) := by decide +kernel
theorem dX10_isFolded_23 : decode cX10_isFolded 23 = .ok (.iload 5, 2) := by decide +kernel
theorem dX10_isFolded_25 : decode cX10_isFolded 25 = .ok (.iconst 1, 1) := by decide +kernel
theorem dX10_isFolded_26 : decode cX10_isFolded 26 = .ok (.iadd, 1) := by decide +kernel
theorem dX10_isFolded_27 : decode cX10_isFolded 27 = .ok (.invokevirtual 133, 3) := by decide +kernel
theorem dX10_isFolded_30 : decode cX10_isFolded 30 = .ok (.aload_n 0, 1) := by decide +kernel
theorem dX10_isFolded_31 : decode cX10_isFolded 31 = .ok (.iload_n 1, 1) := by decide +kernel
theorem dX10_isFolded_32 : decode cX10_isFolded 32 = .ok (.iload_n 2, 1) := by decide +kernel
theorem dX10_isFolded_33 : decode cX10_isFolded 33 = .ok (.iload_n 3, 1) := by decide +kernel
theorem dX10_isFolded_34 : decode cX10_isFolded 34 = .ok (.iload 5, 2) := by decide +kernel
theorem dX10_isFolded_36 : decode cX10_isFolded 36 = .ok (.iconst 1, 1) := by decide +kernel
theorem dX10_isFolded_37 : decode cX10_isFolded 37 = .ok (.iadd, 1) := by decide +kernel
theorem dX10_isFolded_38 : decode cX10_isFolded 38 = .ok (.iload 5, 2) := by decide +kernel
theorem dX10_isFolded_40 : decode cX10_isFolded 40 = .ok (.iconst 2, 1) := by decide +kernel
theorem dX10_isFolded_41 : decode cX10_isFolded 41 = .ok (.iadd, 1) := by decide +kernel
theorem dX10_isFolded_42 : decode cX10_isFolded 42 = .ok (.invokevirtual 133, 3) := by decide +kernel
theorem dX10_isFolded_45 : decode cX10_isFolded 45 = .ok (.ladd, 1) := by decide +kernel
theorem dX10_isFolded_46 : decode cX10_isFolded 46 = .ok (.aload_n 0, 1) := by decide +kernel
theorem dX10_isFolded_47 : decode cX10_isFolded 47 = .ok (.iload_n 1, 1) := by decide +kernel
theorem dX10_isFolded_48 : decode cX10_isFolded 48 = .ok (.iload_n 2, 1) := by decide +kernel
theorem dX10_isFolded_49 : decode cX10_isFolded 49 = .ok (.iload_n 3, 1) := by decide +kernel
theorem dX10_isFolded_50 : decode cX10_isFolded 50 = .ok (.iload 5, 2) := by decide +kernel
theorem dX10_isFolded_52 : decode cX10_isFolded 52 = .ok (.iconst 2, 1) := by decide +kernel
theorem dX10_isFolded_53 : decode cX10_isFolded 53 = .ok (.iadd, 1) := by decide +kernel
theorem dX10_isFolded_54 : decode cX10_isFolded 54 = .ok (.iload 5, 2) := by decide +kernel
theorem dX10_isFolded_56 : decode cX10_isFolded 56 = .ok (.invokevirtual 133, 3) := by decide +kernel
theorem dX10_isFolded_59 : decode cX10_isFolded 59 = .ok (.ladd, 1) := by decide +kernel
theorem dX10_isFolded_60 : decode cX10_isFolded 60 = .ok (.lconst 0, 1) := by decide +kernel
theorem dX10_isFolded_61 : decode cX10_isFolded 61 = .ok (.lcmp, 1) := by decide +kernel
theorem dX10_isFolded_62 : decode cX10_isFolded 62 = .ok (.ifCond .gt 7, 3) := by decide +kernel
theorem dX10_isFolded_65 : decode cX10_isFolded 65 = .ok (.iconst 1, 1) := by decide +kernel
theorem dX10_isFolded_66 : decode cX10_isFolded 66 = .ok (.goto 4, 3) := by decide +kernel
theorem dX10_isFolded_69 : decode cX10_isFolded 69 = .ok (.iconst 0, 1) := by decide +kernel
theorem dX10_isFolded_70 : decode cX10_isFolded 70 = .ok (.istore 4, 2) := by decide +kernel
theorem dX10_isFolded_72 : decode cX10_isFolded 72 = .ok (.iinc 5 1, 3) := by decide +kernel
theorem dX10_isFolded_75 : decode cX10_isFolded 75 = .ok (.goto (-69), 3) := by decide +kernel
theorem dX10_isFolded_78 : decode cX10_isFolded 78 = .ok (.iload 4, 2) := by decide +kernel
theorem dX10_isFolded_80 : decode cX10_isFolded 80 = .ok (.ireturn, 1) := by decide +kernel
theorem dX10_cells_0 : decode cX10_cells 0 = .ok (.iconst 0, 1) := by decide +kernel
theorem dX10_cells_1 : decode cX10_cells 1 = .ok (.istore_n 3, 1) := by decide +kernel
theorem dX10_cells_2 : decode cX10_cells 2 = .ok (.iconst 0, 1) := by decide +kernel
theorem dX10_cells_3 : decode cX10_cells 3 = .ok (.istore 4, 2) := by decide +kernel
theorem dX10_cells_5 : decode cX10_cells 5 = .ok (.iload 4, 2) := by decide +kernel
theorem dX10_cells_7 : decode cX10_cells 7 = .ok (.aload_n 0, 1) := by decide +kernel
theorem dX10_cells_8 : decode cX10_cells 8 = .ok (.iload_n 1, 1) := by decide +kernel
theorem dX10_cells_9 : decode cX10_cells 9 = .ok (.iconst 4, 1) := by decide +kernel
theorem dX10_cells_10 : decode cX10_cells 10 = .ok (.invokevirtual 58, 3) := by decide +kernel
theorem dX10_cells_13 : decode cX10_cells 13 = .ok (.iconst 1, 1) := by decide +kernel
theorem dX10_cells_14 : decode cX10_cells 14 = .ok (.isub, 1) := by decide +kernel
theorem dX10_cells_15 : decode cX10_cells 15 = .ok (.if_icmp .ge 70, 3) := by decide +kernel
theorem dX10_cells_18 : decode cX10_cells 18 = .ok (.iconst 0, 1) := by decide +kernel
theorem dX10_cells_19 : decode cX10_cells 19 = .ok (.istore 5, 2) := by decide +kernel
theorem dX10_cells_21 : decode cX10_cells 21 = .ok (.iload 5, 2) := by decide +kernel
theorem dX10_cells_23 : decode cX10_cells 23 = .ok (.aload_n 0, 1) := by decide +kernel
theorem dX10_cells_24 : decode cX10_cells 24 = .ok (.iload_n 1, 1) := by decide +kernel
theorem dX10_cells_25 : decode cX10_cells 25 = .ok (.iconst 5, 1) := by decide +kernel
theorem dX10_cells_26 : decode cX10_cells 26 = .ok (.invokevirtual 58, 3) := by decide +kernel
theorem dX10_cells_29 : decode cX10_cells 29 = .ok (.iconst 1, 1) := by decide +kernel
theorem dX10_cells_30 : decode cX10_cells 30 = .ok (.isub, 1) := by decide +kernel
theorem dX10_cells_31 : decode cX10_cells 31 = .ok (.if_icmp .ge 48, 3) := by decide +kernel
theorem dX10_cells_34 : decode cX10_cells 34 = .ok (.iload_n 3, 1) := by decide +kernel
theorem dX10_cells_35 : decode cX10_cells 35 = .ok (.iload_n 2, 1) := by decide +kernel
theorem dX10_cells_36 : decode cX10_cells 36 = .ok (.ifCond .eq 18, 3) := by decide +kernel
theorem dX10_cells_39 : decode cX10_cells 39 = .ok (.aload_n 0, 1) := by decide +kernel
theorem dX10_cells_40 : decode cX10_cells 40 = .ok (.iload_n 1, 1) := by decide +kernel
theorem dX10_cells_41 : decode cX10_cells 41 = .ok (.iload 4, 2) := by decide +kernel
theorem dX10_cells_43 : decode cX10_cells 43 = .ok (.iload 5, 2) := by decide +kernel
theorem dX10_cells_45 : decode cX10_cells 45 = .ok (.invokevirtual 136, 3) := by decide +kernel
theorem dX10_cells_48 : decode cX10_cells 48 = .ok (.ifCond .eq 22, 3) := by decide +kernel
theorem dX10_cells_51 : decode cX10_cells 51 = .ok (.goto 15, 3) := by decide +kernel
theorem dX10_cells_54 : decode cX10_cells 54 = .ok (.aload_n 0, 1) := by decide +kernel
theorem dX10_cells_55 : decode cX10_cells 55 = .ok (.iload_n 1, 1) := by decide +kernel
theorem dX10_cells_56 : decode cX10_cells 56 = .ok (.iload 4, 2) := by decide +kernel
theorem dX10_cells_58 : decode cX10_cells 58 = .ok (.iload 5, 2) := by decide +kernel
theorem dX10_cells_60 : decode cX10_cells 60 = .ok (.invokevirtual 139, 3) := by decide +kernel
theorem dX10_cells_63 : decode cX10_cells 63 = .ok (.ifCond .ne 7, 3) := by decide +kernel
theorem dX10_cells_66 : decode cX10_cells 66 = .ok (.iconst 1, 1) := by decide +kernel
theorem dX10_cells_67 : decode cX10_cells 67 = .ok (.goto 4, 3) := by decide +kernel
theorem dX10_cells_70 : decode cX10_cells 70 = .ok (.iconst 0, 1) := by decide +kernel
theorem dX10_cells_71 : decode cX10_cells 71 = .ok (.iadd, 1) := by decide +kernel
theorem dX10_cells_72 : decode cX10_cells 72 = .ok (.istore_n 3, 1) := by decide +kernel
theorem dX10_cells_73 : decode cX10_cells 73 = .ok (.iinc 5 1, 3) := by decide +kernel
theorem dX10_cells_76 : decode cX10_cells 76 = .ok (.goto (-55), 3) := by decide +kernel
theorem dX10_cells_79 : decode cX10_cells 79 = .ok (.iinc 4 1, 3) := by decide +kernel
theorem dX10_cells_82 : decode cX10_cells 82 = .ok (.goto (-77), 3) := by decide +kernel
theorem dX10_cells_85 : decode cX10_cells 85 = .ok (.iload_n 3, 1) := by decide +kernel
theorem dX10_cells_86 : decode cX10_cells 86 = .ok (.ireturn, 1) := by decide +kernel
theorem dX10_nodesMoved_0 : decode cX10_nodesMoved 0 = .ok (.iconst 0, 1) := by decide +kernel
theorem dX10_nodesMoved_1 : decode cX10_nodesMoved 1 = .ok (.istore_n 1, 1) := by decide +kernel
theorem dX10_nodesMoved_2 : decode cX10_nodesMoved 2 = .ok (.iconst 0, 1) := by decide +kernel
theorem dX10_nodesMoved_3 : decode cX10_nodesMoved 3 = .ok (.istore_n 2, 1) := by decide +kernel
theorem dX10_nodesMoved_4 : decode cX10_nodesMoved 4 = .ok (.iload_n 2, 1) := by decide +kernel
theorem dX10_nodesMoved_5 : decode cX10_nodesMoved 5 = .ok (.aload_n 0, 1) := by decide +kernel
theorem dX10_nodesMoved_6 : decode cX10_nodesMoved 6 = .ok (.getfield 7, 3) := by decide +kernel
theorem dX10_nodesMoved_9 : decode cX10_nodesMoved 9 = .ok (.iconst 0, 1) := by decide +kernel
theorem dX10_nodesMoved_10 : decode cX10_nodesMoved 10 = .ok (.iaload, 1) := by decide +kernel
theorem dX10_nodesMoved_11 : decode cX10_nodesMoved 11 = .ok (.if_icmp .ge 88, 3) := by decide +kernel
theorem dX10_nodesMoved_14 : decode cX10_nodesMoved 14 = .ok (.iconst 0, 1) := by decide +kernel
theorem dX10_nodesMoved_15 : decode cX10_nodesMoved 15 = .ok (.istore_n 3, 1) := by decide +kernel
theorem dX10_nodesMoved_16 : decode cX10_nodesMoved 16 = .ok (.iload_n 3, 1) := by decide +kernel
theorem dX10_nodesMoved_17 : decode cX10_nodesMoved 17 = .ok (.aload_n 0, 1) := by decide +kernel
theorem dX10_nodesMoved_18 : decode cX10_nodesMoved 18 = .ok (.iload_n 2, 1) := by decide +kernel
theorem dX10_nodesMoved_19 : decode cX10_nodesMoved 19 = .ok (.iconst 4, 1) := by decide +kernel
theorem dX10_nodesMoved_20 : decode cX10_nodesMoved 20 = .ok (.invokevirtual 58, 3) := by decide +kernel
theorem dX10_nodesMoved_23 : decode cX10_nodesMoved 23 = .ok (.aload_n 0, 1) := by decide +kernel
theorem dX10_nodesMoved_24 : decode cX10_nodesMoved 24 = .ok (.iload_n 2, 1) := by decide +kernel
theorem dX10_nodesMoved_25 : decode cX10_nodesMoved 25 = .ok (.iconst 5, 1) := by decide +kernel
theorem dX10_nodesMoved_26 : decode cX10_nodesMoved 26 = .ok (.invokevirtual 58, 3) := by decide +kernel
theorem dX10_nodesMoved_29 : decode cX10_nodesMoved 29 = .ok (.imul, 1) := by decide +kernel
theorem dX10_nodesMoved_30 : decode cX10_nodesMoved 30 = .ok (.if_icmp .ge 63, 3) := by decide +kernel
theorem dX10_nodesMoved_33 : decode cX10_nodesMoved 33 = .ok (.iload_n 3, 1) := by decide +kernel
theorem dX10_nodesMoved_34 : decode cX10_nodesMoved 34 = .ok (.aload_n 0, 1) := by decide +kernel
theorem dX10_nodesMoved_35 : decode cX10_nodesMoved 35 = .ok (.iload_n 2, 1) := by decide +kernel
theorem dX10_nodesMoved_36 : decode cX10_nodesMoved 36 = .ok (.iconst 4, 1) := by decide +kernel
theorem dX10_nodesMoved_37 : decode cX10_nodesMoved 37 = .ok (.invokevirtual 58, 3) := by decide +kernel
theorem dX10_nodesMoved_40 : decode cX10_nodesMoved 40 = .ok (.irem, 1) := by decide +kernel
theorem dX10_nodesMoved_41 : decode cX10_nodesMoved 41 = .ok (.istore 4, 2) := by decide +kernel
theorem dX10_nodesMoved_43 : decode cX10_nodesMoved 43 = .ok (.iload_n 3, 1) := by decide +kernel
theorem dX10_nodesMoved_44 : decode cX10_nodesMoved 44 = .ok (.aload_n 0, 1) := by decide +kernel
theorem dX10_nodesMoved_45 : decode cX10_nodesMoved 45 = .ok (.iload_n 2, 1) := by decide +kernel
theorem dX10_nodesMoved_46 : decode cX10_nodesMoved 46 = .ok (.iconst 4, 1) := by decide +kernel
theorem dX10_nodesMoved_47 : decode cX10_nodesMoved 47 = .ok (.invokevirtual 58, 3) := by decide +kernel
theorem dX10_nodesMoved_50 : decode cX10_nodesMoved 50 = .ok (.idiv, 1) := by decide +kernel
theorem dX10_nodesMoved_51 : decode cX10_nodesMoved 51 = .ok (.istore 5, 2) := by decide +kernel
theorem dX10_nodesMoved_53 : decode cX10_nodesMoved 53 = .ok (.iload_n 1, 1) := by decide +kernel
theorem dX10_nodesMoved_54 : decode cX10_nodesMoved 54 = .ok (.aload_n 0, 1) := by decide +kernel
theorem dX10_nodesMoved_55 : decode cX10_nodesMoved 55 = .ok (.iload_n 2, 1) := by decide +kernel
theorem dX10_nodesMoved_56 : decode cX10_nodesMoved 56 = .ok (.iload 4, 2) := by decide +kernel
theorem dX10_nodesMoved_58 : decode cX10_nodesMoved 58 = .ok (.iload 5, 2) := by decide +kernel
theorem dX10_nodesMoved_60 : decode cX10_nodesMoved 60 = .ok (.iconst 0, 1) := by decide +kernel
theorem dX10_nodesMoved_61 : decode cX10_nodesMoved 61 = .ok (.invokevirtual 87, 3) := by decide +kernel
theorem dX10_nodesMoved_64 : decode cX10_nodesMoved 64 = .ok (.ifCond .ne 16, 3) := by decide +kernel
theorem dX10_nodesMoved_67 : decode cX10_nodesMoved 67 = .ok (.aload_n 0, 1) := by decide +kernel
theorem dX10_nodesMoved_68 : decode cX10_nodesMoved 68 = .ok (.iload_n 2, 1) := by decide +kernel
theorem dX10_nodesMoved_69 : decode cX10_nodesMoved 69 = .ok (.iload 4, 2) := by decide +kernel
theorem dX10_nodesMoved_71 : decode cX10_nodesMoved 71 = .ok (.iload 5, 2) := by decide +kernel
theorem dX10_nodesMoved_73 : decode cX10_nodesMoved 73 = .ok (.iconst 1, 1) := by decide +kernel
theorem dX10_nodesMoved_74 : decode cX10_nodesMoved 74 = .ok (.invokevirtual 87, 3) := by decide +kernel
theorem dX10_nodesMoved_77 : decode cX10_nodesMoved 77 = .ok (.ifCond .eq 7, 3) := by decide +kernel
theorem dX10_nodesMoved_80 : decode cX10_nodesMoved 80 = .ok (.iconst 1, 1) := by decide +kernel
theorem dX10_nodesMoved_81 : decode cX10_nodesMoved 81 = .ok (.goto 4, 3) := by decide +kernel
theorem dX10_nodesMoved_84 : decode cX10_nodesMoved 84 = .ok (.iconst 0, 1) := by decide +kernel
theorem dX10_nodesMoved_85 : decode cX10_nodesMoved 85 = .ok (.iadd, 1) := by decide +kernel
theorem dX10_nodesMoved_86 : decode cX10_nodesMoved 86 = .ok (.istore_n 1, 1) := by decide +kernel
theorem dX10_nodesMoved_87 : decode cX10_nodesMoved 87 = .ok (.iinc 3 1, 3) := by decide +kernel
theorem dX10_nodesMoved_90 : decode cX10_nodesMoved 90 = .ok (.goto (-74), 3) := by decide +kernel
theorem dX10_nodesMoved_93 : decode cX10_nodesMoved 93 = .ok (.iinc 2 1, 3) := by decide +kernel
theorem dX10_nodesMoved_96 : decode cX10_nodesMoved 96 = .ok (.goto (-92), 3) := by decide +kernel
theorem dX10_nodesMoved_99 : decode cX10_nodesMoved 99 = .ok (.iload_n 1, 1) := by decide +kernel
theorem dX10_nodesMoved_100 : decode cX10_nodesMoved 100 = .ok (.ireturn, 1) := by decide +kernel
theorem dX10_wrong_0 : decode cX10_wrong 0 = .ok (.iconst 0, 1) := by decide +kernel
theorem dX10_wrong_1 : decode cX10_wrong 1 = .ok (.istore_n 1, 1) := by decide +kernel
theorem dX10_wrong_2 : decode cX10_wrong 2 = .ok (.iload_n 1, 1) := by decide +kernel
theorem dX10_wrong_3 : decode cX10_wrong 3 = .ok (.aload_n 0, 1) := by decide +kernel
theorem dX10_wrong_4 : decode cX10_wrong 4 = .ok (.getfield 142, 3) := by decide +kernel
theorem dX10_wrong_7 : decode cX10_wrong 7 = .ok (.if_icmp .ge 44, 3) := by decide +kernel
theorem dX10_wrong_10 : decode cX10_wrong 10 = .ok (.aload_n 0, 1) := by decide +kernel
theorem dX10_wrong_11 : decode cX10_wrong 11 = .ok (.getfield 27, 3) := by decide +kernel
theorem dX10_wrong_14 : decode cX10_wrong 14 = .ok (.iload_n 1, 1) := by decide +kernel
theorem dX10_wrong_15 : decode cX10_wrong 15 = .ok (.iaload, 1) := by decide +kernel
theorem dX10_wrong_16 : decode cX10_wrong 16 = .ok (.aload_n 0, 1) := by decide +kernel
theorem dX10_wrong_17 : decode cX10_wrong 17 = .ok (.aload_n 0, 1) := by decide +kernel
theorem dX10_wrong_18 : decode cX10_wrong 18 = .ok (.getfield 27, 3) := by decide +kernel
theorem dX10_wrong_21 : decode cX10_wrong 21 = .ok (.iload_n 1, 1) := by decide +kernel
theorem dX10_wrong_22 : decode cX10_wrong 22 = .ok (.iaload, 1) := by decide +kernel
theorem dX10_wrong_23 : decode cX10_wrong 23 = .ok (.aload_n 0, 1) := by decide +kernel
theorem dX10_wrong_24 : decode cX10_wrong 24 = .ok (.getfield 30, 3) := by decide +kernel
theorem dX10_wrong_27 : decode cX10_wrong 27 = .ok (.iload_n 1, 1) := by decide +kernel
theorem dX10_wrong_28 : decode cX10_wrong 28 = .ok (.iaload, 1) := by decide +kernel
theorem dX10_wrong_29 : decode cX10_wrong 29 = .ok (.iconst 0, 1) := by decide +kernel
theorem dX10_wrong_30 : decode cX10_wrong 30 = .ok (.invokevirtual 145, 3) := by decide +kernel
theorem dX10_wrong_33 : decode cX10_wrong 33 = .ok (.iadd, 1) := by decide +kernel
theorem dX10_wrong_34 : decode cX10_wrong 34 = .ok (.aload_n 0, 1) := by decide +kernel
theorem dX10_wrong_35 : decode cX10_wrong 35 = .ok (.getfield 33, 3) := by decide +kernel
theorem dX10_wrong_38 : decode cX10_wrong 38 = .ok (.iload_n 1, 1) := by decide +kernel
theorem dX10_wrong_39 : decode cX10_wrong 39 = .ok (.iaload, 1) := by decide +kernel
theorem dX10_wrong_40 : decode cX10_wrong 40 = .ok (.if_icmp .eq 5, 3) := by decide +kernel
theorem dX10_wrong_43 : decode cX10_wrong 43 = .ok (.iload_n 1, 1) := by decide +kernel
theorem dX10_wrong_44 : decode cX10_wrong 44 = .ok (.ireturn, 1) := by decide +kernel
theorem dX10_wrong_45 : decode cX10_wrong 45 = .ok (.iinc 1 1, 3) := by decide +kernel
theorem dX10_wrong_48 : decode cX10_wrong 48 = .ok (.goto (-46), 3) := by decide +kernel
theorem dX10_wrong_51 : decode cX10_wrong 51 = .ok (.iconst (-1), 1) := by decide +kernel
theorem dX10_wrong_52 : decode cX10_wrong 52 = .ok (.ireturn, 1) := by decide +kernel
theorem dX10_tally_0 : decode cX10_tally 0 = .ok (.iconst 0, 1) := by decide +kernel
theorem dX10_tally_1 : decode cX10_tally 1 = .ok (.istore_n 2, 1) := by decide +kernel
theorem dX10_tally_2 : decode cX10_tally 2 = .ok (.iconst 0, 1) := by decide +kernel
theorem dX10_tally_3 : decode cX10_tally 3 = .ok (.istore_n 3, 1) := by decide +kernel
theorem dX10_tally_4 : decode cX10_tally 4 = .ok (.iconst (-1), 1) := by decide +kernel
theorem dX10_tally_5 : decode cX10_tally 5 = .ok (.istore 4, 2) := by decide +kernel
theorem dX10_tally_7 : decode cX10_tally 7 = .ok (.iconst 0, 1) := by decide +kernel
theorem dX10_tally_8 : decode cX10_tally 8 = .ok (.istore 5, 2) := by decide +kernel
theorem dX10_tally_10 : decode cX10_tally 10 = .ok (.iload 5, 2) := by decide +kernel
theorem dX10_tally_12 : decode cX10_tally 12 = .ok (.aload_n 0, 1) := by decide +kernel
theorem dX10_tally_13 : decode cX10_tally 13 = .ok (.getfield 7, 3) := by decide +kernel
theorem dX10_tally_16 : decode cX10_tally 16 = .ok (.iconst 0, 1) := by decide +kernel
theorem dX10_tally_17 : decode cX10_tally 17 = .ok (.iaload, 1) := by decide +kernel
theorem dX10_tally_18 : decode cX10_tally 18 = .ok (.if_icmp .ge 81, 3) := by decide +kernel
theorem dX10_tally_21 : decode cX10_tally 21 = .ok (.aload_n 0, 1) := by decide +kernel
theorem dX10_tally_22 : decode cX10_tally 22 = .ok (.iload 5, 2) := by decide +kernel
theorem dX10_tally_24 : decode cX10_tally 24 = .ok (.invokevirtual 148, 3) := by decide +kernel
theorem dX10_tally_27 : decode cX10_tally 27 = .ok (.iload_n 2, 1) := by decide +kernel
theorem dX10_tally_28 : decode cX10_tally 28 = .ok (.iload_n 1, 1) := by decide +kernel
theorem dX10_tally_29 : decode cX10_tally 29 = .ok (.iconst 5, 1) := by decide +kernel
theorem dX10_tally_30 : decode cX10_tally 30 = .ok (.if_icmp .ne 10, 3) := by decide +kernel
theorem dX10_tally_33 : decode cX10_tally 33 = .ok (.aload_n 0, 1) := by decide +kernel
theorem dX10_tally_34 : decode cX10_tally 34 = .ok (.getfield 111, 3) := by decide +kernel
theorem dX10_tally_37 : decode cX10_tally 37 = .ok (.goto 28, 3) := by decide +kernel
theorem dX10_tally_40 : decode cX10_tally 40 = .ok (.iload_n 1, 1) := by decide +kernel
theorem dX10_tally_41 : decode cX10_tally 41 = .ok (.iconst 5, 1) := by decide +kernel
theorem dX10_tally_42 : decode cX10_tally 42 = .ok (.if_icmp .ge 22, 3) := by decide +kernel
theorem dX10_tally_45 : decode cX10_tally 45 = .ok (.aload_n 0, 1) := by decide +kernel
theorem dX10_tally_46 : decode cX10_tally 46 = .ok (.iload 5, 2) := by decide +kernel
theorem dX10_tally_48 : decode cX10_tally 48 = .ok (.iload_n 1, 1) := by decide +kernel
theorem dX10_tally_49 : decode cX10_tally 49 = .ok (.iconst 4, 1) := by decide +kernel
theorem dX10_tally_50 : decode cX10_tally 50 = .ok (.if_icmp .ne 7, 3) := by decide +kernel
theorem dX10_tally_53 : decode cX10_tally 53 = .ok (.iconst 1, 1) := by decide +kernel
theorem dX10_tally_54 : decode cX10_tally 54 = .ok (.goto 4, 3) := by decide +kernel
theorem dX10_tally_57 : decode cX10_tally 57 = .ok (.iconst 0, 1) := by decide +kernel
theorem dX10_tally_58 : decode cX10_tally 58 = .ok (.invokevirtual 152, 3) := by decide +kernel
theorem dX10_tally_61 : decode cX10_tally 61 = .ok (.goto 4, 3) := by decide +kernel
theorem dX10_tally_64 : decode cX10_tally 64 = .ok (.iconst 0, 1) := by decide +kernel
theorem dX10_tally_65 : decode cX10_tally 65 = .ok (.iadd, 1) := by decide +kernel
theorem dX10_tally_66 : decode cX10_tally 66 = .ok (.istore_n 2, 1) := by decide +kernel
theorem dX10_tally_67 : decode cX10_tally 67 = .ok (.aload_n 0, 1) := by decide +kernel
theorem dX10_tally_68 : decode cX10_tally 68 = .ok (.getfield 114, 3) := by decide +kernel
theorem dX10_tally_71 : decode cX10_tally 71 = .ok (.iload_n 3, 1) := by decide +kernel
theorem dX10_tally_72 : decode cX10_tally 72 = .ok (.if_icmp .le 8, 3) := by decide +kernel
theorem dX10_tally_75 : decode cX10_tally 75 = .ok (.iload 5, 2) := by decide +kernel
theorem dX10_tally_77 : decode cX10_tally 77 = .ok (.goto 5, 3) := by decide +kernel
theorem dX10_tally_80 : decode cX10_tally 80 = .ok (.iload 4, 2) := by decide +kernel
theorem dX10_tally_82 : decode cX10_tally 82 = .ok (.istore 4, 2) := by decide +kernel
theorem dX10_tally_84 : decode cX10_tally 84 = .ok (.iload_n 3, 1) := by decide +kernel
theorem dX10_tally_85 : decode cX10_tally 85 = .ok (.aload_n 0, 1) := by decide +kernel
theorem dX10_tally_86 : decode cX10_tally 86 = .ok (.getfield 114, 3) := by decide +kernel
theorem dX10_tally_89 : decode cX10_tally 89 = .ok (.invokestatic 108, 3) := by decide +kernel
theorem dX10_tally_92 : decode cX10_tally 92 = .ok (.istore_n 3, 1) := by decide +kernel
theorem dX10_tally_93 : decode cX10_tally 93 = .ok (.iinc 5 1, 3) := by decide +kernel
theorem dX10_tally_96 : decode cX10_tally 96 = .ok (.goto (-86), 3) := by decide +kernel
theorem dX10_tally_99 : decode cX10_tally 99 = .ok (.iload_n 1, 1) := by decide +kernel
theorem dX10_tally_100 : decode cX10_tally 100 = .ok (.bipush 6, 2) := by decide +kernel
theorem dX10_tally_102 : decode cX10_tally 102 = .ok (.if_icmp .ge 7, 3) := by decide +kernel
theorem dX10_tally_105 : decode cX10_tally 105 = .ok (.iload_n 2, 1) := by decide +kernel
theorem dX10_tally_106 : decode cX10_tally 106 = .ok (.goto 15, 3) := by decide +kernel
theorem dX10_tally_109 : decode cX10_tally 109 = .ok (.iload_n 1, 1) := by decide +kernel
theorem dX10_tally_110 : decode cX10_tally 110 = .ok (.bipush 6, 2) := by decide +kernel
theorem dX10_tally_112 : decode cX10_tally 112 = .ok (.if_icmp .ne 7, 3) := by decide +kernel
theorem dX10_tally_115 : decode cX10_tally 115 = .ok (.iload_n 3, 1) := by decide +kernel
theorem dX10_tally_116 : decode cX10_tally 116 = .ok (.goto 5, 3) := by decide +kernel
theorem dX10_tally_119 : decode cX10_tally 119 = .ok (.iload 4, 2) := by decide +kernel
theorem dX10_tally_121 : decode cX10_tally 121 = .ok (.ireturn, 1) := by decide +kernel
theorem dX10_told_0 : decode cX10_told 0 = .ok (.aload_n 0, 1) := by decide +kernel
theorem dX10_told_1 : decode cX10_told 1 = .ok (.iconst 0, 1) := by decide +kernel
theorem dX10_told_2 : decode cX10_told 2 = .ok (.putfield 46, 3) := by decide +kernel
theorem dX10_told_5 : decode cX10_told 5 = .ok (.iload_n 1, 1) := by decide +kernel
theorem dX10_told_6 : decode cX10_told 6 = .ok (.tableswitch 108 0 11 #[62, 69, 76, 81, 81, 81, 81, 81, 87, 92, 97, 102], 62) := by decide +kernel
theorem dX10_told_68 : decode cX10_told 68 = .ok (.aload_n 0, 1) := by decide +kernel
theorem dX10_told_69 : decode cX10_told 69 = .ok (.getfield 7, 3) := by decide +kernel
theorem dX10_told_72 : decode cX10_told 72 = .ok (.iconst 0, 1) := by decide +kernel
theorem dX10_told_73 : decode cX10_told 73 = .ok (.iaload, 1) := by decide +kernel
theorem dX10_told_74 : decode cX10_told 74 = .ok (.ireturn, 1) := by decide +kernel
theorem dX10_told_75 : decode cX10_told 75 = .ok (.aload_n 0, 1) := by decide +kernel
theorem dX10_told_76 : decode cX10_told 76 = .ok (.getfield 7, 3) := by decide +kernel
theorem dX10_told_79 : decode cX10_told 79 = .ok (.iconst 1, 1) := by decide +kernel
theorem dX10_told_80 : decode cX10_told 80 = .ok (.iaload, 1) := by decide +kernel
theorem dX10_told_81 : decode cX10_told 81 = .ok (.ireturn, 1) := by decide +kernel
theorem dX10_told_82 : decode cX10_told 82 = .ok (.aload_n 0, 1) := by decide +kernel
theorem dX10_told_83 : decode cX10_told 83 = .ok (.invokevirtual 156, 3) := by decide +kernel
theorem dX10_told_86 : decode cX10_told 86 = .ok (.ireturn, 1) := by decide +kernel
theorem dX10_told_87 : decode cX10_told 87 = .ok (.aload_n 0, 1) := by decide +kernel
theorem dX10_told_88 : decode cX10_told 88 = .ok (.iload_n 1, 1) := by decide +kernel
theorem dX10_told_89 : decode cX10_told 89 = .ok (.invokevirtual 160, 3) := by decide +kernel
theorem dX10_told_92 : decode cX10_told 92 = .ok (.ireturn, 1) := by decide +kernel
theorem dX10_told_93 : decode cX10_told 93 = .ok (.aload_n 0, 1) := by decide +kernel
theorem dX10_told_94 : decode cX10_told 94 = .ok (.getfield 142, 3) := by decide +kernel
theorem dX10_told_97 : decode cX10_told 97 = .ok (.ireturn, 1) := by decide +kernel
theorem dX10_told_98 : decode cX10_told 98 = .ok (.aload_n 0, 1) := by decide +kernel
theorem dX10_told_99 : decode cX10_told 99 = .ok (.invokevirtual 163, 3) := by decide +kernel
theorem dX10_told_102 : decode cX10_told 102 = .ok (.ireturn, 1) := by decide +kernel
theorem dX10_told_103 : decode cX10_told 103 = .ok (.aload_n 0, 1) := by decide +kernel
theorem dX10_told_104 : decode cX10_told 104 = .ok (.getfield 166, 3) := by decide +kernel
theorem dX10_told_107 : decode cX10_told 107 = .ok (.ireturn, 1) := by decide +kernel
theorem dX10_told_108 : decode cX10_told 108 = .ok (.aload_n 0, 1) := by decide +kernel
theorem dX10_told_109 : decode cX10_told 109 = .ok (.getfield 42, 3) := by decide +kernel
theorem dX10_told_112 : decode cX10_told 112 = .ok (.l2i, 1) := by decide +kernel
theorem dX10_told_113 : decode cX10_told 113 = .ok (.ireturn, 1) := by decide +kernel
theorem dX10_told_114 : decode cX10_told 114 = .ok (.ldc 169, 2) := by decide +kernel
theorem dX10_told_116 : decode cX10_told 116 = .ok (.ireturn, 1) := by decide +kernel
theorem dX10_children_0 : decode cX10_children 0 = .ok (.iconst 0, 1) := by decide +kernel
theorem dX10_children_1 : decode cX10_children 1 = .ok (.istore_n 2, 1) := by decide +kernel
theorem dX10_children_2 : decode cX10_children 2 = .ok (.iconst 0, 1) := by decide +kernel
theorem dX10_children_3 : decode cX10_children 3 = .ok (.istore_n 3, 1) := by decide +kernel
theorem dX10_children_4 : decode cX10_children 4 = .ok (.iload_n 3, 1) := by decide +kernel
theorem dX10_children_5 : decode cX10_children 5 = .ok (.aload_n 0, 1) := by decide +kernel
theorem dX10_children_6 : decode cX10_children 6 = .ok (.getfield 7, 3) := by decide +kernel
theorem dX10_children_9 : decode cX10_children 9 = .ok (.iconst 0, 1) := by decide +kernel
theorem dX10_children_10 : decode cX10_children 10 = .ok (.iaload, 1) := by decide +kernel
theorem dX10_children_11 : decode cX10_children 11 = .ok (.if_icmp .ge 27, 3) := by decide +kernel
theorem dX10_children_14 : decode cX10_children 14 = .ok (.iload_n 2, 1) := by decide +kernel
theorem dX10_children_15 : decode cX10_children 15 = .ok (.aload_n 0, 1) := by decide +kernel
theorem dX10_children_16 : decode cX10_children 16 = .ok (.iload_n 3, 1) := by decide +kernel
theorem dX10_children_17 : decode cX10_children 17 = .ok (.iconst 0, 1) := by decide +kernel
theorem dX10_children_18 : decode cX10_children 18 = .ok (.invokevirtual 58, 3) := by decide +kernel
theorem dX10_children_21 : decode cX10_children 21 = .ok (.iload_n 1, 1) := by decide +kernel
theorem dX10_children_22 : decode cX10_children 22 = .ok (.if_icmp .ne 7, 3) := by decide +kernel
theorem dX10_children_25 : decode cX10_children 25 = .ok (.iconst 1, 1) := by decide +kernel
theorem dX10_children_26 : decode cX10_children 26 = .ok (.goto 4, 3) := by decide +kernel
theorem dX10_children_29 : decode cX10_children 29 = .ok (.iconst 0, 1) := by decide +kernel
theorem dX10_children_30 : decode cX10_children 30 = .ok (.iadd, 1) := by decide +kernel
theorem dX10_children_31 : decode cX10_children 31 = .ok (.istore_n 2, 1) := by decide +kernel
theorem dX10_children_32 : decode cX10_children 32 = .ok (.iinc 3 1, 3) := by decide +kernel
theorem dX10_children_35 : decode cX10_children 35 = .ok (.goto (-31), 3) := by decide +kernel
theorem dX10_children_38 : decode cX10_children 38 = .ok (.iload_n 2, 1) := by decide +kernel
theorem dX10_children_39 : decode cX10_children 39 = .ok (.ireturn, 1) := by decide +kernel
theorem dX10_depth_0 : decode cX10_depth 0 = .ok (.iconst 0, 1) := by decide +kernel
theorem dX10_depth_1 : decode cX10_depth 1 = .ok (.istore_n 2, 1) := by decide +kernel
theorem dX10_depth_2 : decode cX10_depth 2 = .ok (.aload_n 0, 1) := by decide +kernel
theorem dX10_depth_3 : decode cX10_depth 3 = .ok (.iload_n 1, 1) := by decide +kernel
theorem dX10_depth_4 : decode cX10_depth 4 = .ok (.iconst 0, 1) := by decide +kernel
theorem dX10_depth_5 : decode cX10_depth 5 = .ok (.invokevirtual 58, 3) := by decide +kernel
theorem dX10_depth_8 : decode cX10_depth 8 = .ok (.istore_n 3, 1) := by decide +kernel
theorem dX10_depth_9 : decode cX10_depth 9 = .ok (.iload_n 3, 1) := by decide +kernel
theorem dX10_depth_10 : decode cX10_depth 10 = .ok (.iconst (-1), 1) := by decide +kernel
theorem dX10_depth_11 : decode cX10_depth 11 = .ok (.if_icmp .eq 16, 3) := by decide +kernel
theorem dX10_depth_14 : decode cX10_depth 14 = .ok (.aload_n 0, 1) := by decide +kernel
theorem dX10_depth_15 : decode cX10_depth 15 = .ok (.iload_n 3, 1) := by decide +kernel
theorem dX10_depth_16 : decode cX10_depth 16 = .ok (.iconst 0, 1) := by decide +kernel
theorem dX10_depth_17 : decode cX10_depth 17 = .ok (.invokevirtual 58, 3) := by decide +kernel
theorem dX10_depth_20 : decode cX10_depth 20 = .ok (.istore_n 3, 1) := by decide +kernel
theorem dX10_depth_21 : decode cX10_depth 21 = .ok (.iinc 2 1, 3) := by decide +kernel
theorem dX10_depth_24 : decode cX10_depth 24 = .ok (.goto (-15), 3) := by decide +kernel
theorem dX10_depth_27 : decode cX10_depth 27 = .ok (.iload_n 2, 1) := by decide +kernel
theorem dX10_depth_28 : decode cX10_depth 28 = .ok (.ireturn, 1) := by decide +kernel
theorem dX10_gridAt_0 : decode cX10_gridAt 0 = .ok (.aload_n 0, 1) := by decide +kernel
theorem dX10_gridAt_1 : decode cX10_gridAt 1 = .ok (.iconst 0, 1) := by decide +kernel
theorem dX10_gridAt_2 : decode cX10_gridAt 2 = .ok (.putfield 46, 3) := by decide +kernel
theorem dX10_gridAt_5 : decode cX10_gridAt 5 = .ok (.aload_n 0, 1) := by decide +kernel
theorem dX10_gridAt_6 : decode cX10_gridAt 6 = .ok (.iload_n 1, 1) := by decide +kernel
theorem dX10_gridAt_7 : decode cX10_gridAt 7 = .ok (.invokevirtual 54, 3) := by decide +kernel
theorem dX10_gridAt_10 : decode cX10_gridAt 10 = .ok (.ifCond .ne 6, 3) := by decide +kernel
theorem dX10_gridAt_13 : decode cX10_gridAt 13 = .ok (.ldc 170, 2) := by decide +kernel
theorem dX10_gridAt_15 : decode cX10_gridAt 15 = .ok (.ireturn, 1) := by decide +kernel
theorem dX10_gridAt_16 : decode cX10_gridAt 16 = .ok (.iload_n 2, 1) := by decide +kernel
