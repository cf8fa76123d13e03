theorem dX10_gridAt_17 : decode cX10_gridAt 17 = .ok (.i2l, 1) := by decide +kernel
theorem dX10_gridAt_18 : decode cX10_gridAt 18 = .ok (.lconst 0, 1) := by decide +kernel
theorem dX10_gridAt_19 : decode cX10_gridAt 19 = .ok (.ldc2_w 171, 3) := by decide +kernel
theorem dX10_gridAt_22 : decode cX10_gridAt 22 = .ok (.invokestatic 50, 3) := by decide +kernel
theorem dX10_gridAt_25 : decode cX10_gridAt 25 = .ok (.ifCond .ne 6, 3) := by decide +kernel
theorem dX10_gridAt_28 : decode cX10_gridAt 28 = .ok (.ldc 169, 2) := by decide +kernel
theorem dX10_gridAt_30 : decode cX10_gridAt 30 = .ok (.ireturn, 1) := by decide +kernel
theorem dX10_gridAt_31 : decode cX10_gridAt 31 = .ok (.iload_n 2, 1) := by decide +kernel
theorem dX10_gridAt_32 : decode cX10_gridAt 32 = .ok (.bipush 6, 2) := by decide +kernel
theorem dX10_gridAt_34 : decode cX10_gridAt 34 = .ok (.if_icmp .ge 10, 3) := by decide +kernel
theorem dX10_gridAt_37 : decode cX10_gridAt 37 = .ok (.aload_n 0, 1) := by decide +kernel
theorem dX10_gridAt_38 : decode cX10_gridAt 38 = .ok (.iload_n 1, 1) := by decide +kernel
theorem dX10_gridAt_39 : decode cX10_gridAt 39 = .ok (.iload_n 2, 1) := by decide +kernel
theorem dX10_gridAt_40 : decode cX10_gridAt 40 = .ok (.invokevirtual 58, 3) := by decide +kernel
theorem dX10_gridAt_43 : decode cX10_gridAt 43 = .ok (.ireturn, 1) := by decide +kernel
theorem dX10_gridAt_44 : decode cX10_gridAt 44 = .ok (.aload_n 0, 1) := by decide +kernel
theorem dX10_gridAt_45 : decode cX10_gridAt 45 = .ok (.iload_n 1, 1) := by decide +kernel
theorem dX10_gridAt_46 : decode cX10_gridAt 46 = .ok (.invokevirtual 148, 3) := by decide +kernel
theorem dX10_gridAt_49 : decode cX10_gridAt 49 = .ok (.iload_n 2, 1) := by decide +kernel
theorem dX10_gridAt_50 : decode cX10_gridAt 50 = .ok (.tableswitch 52 6 9 #[30, 36, 42, 47], 30) := by decide +kernel
theorem dX10_gridAt_80 : decode cX10_gridAt 80 = .ok (.aload_n 0, 1) := by decide +kernel
theorem dX10_gridAt_81 : decode cX10_gridAt 81 = .ok (.iload_n 1, 1) := by decide +kernel
theorem dX10_gridAt_82 : decode cX10_gridAt 82 = .ok (.invokevirtual 173, 3) := by decide +kernel
theorem dX10_gridAt_85 : decode cX10_gridAt 85 = .ok (.ireturn, 1) := by decide +kernel
theorem dX10_gridAt_86 : decode cX10_gridAt 86 = .ok (.aload_n 0, 1) := by decide +kernel
theorem dX10_gridAt_87 : decode cX10_gridAt 87 = .ok (.iload_n 1, 1) := by decide +kernel
theorem dX10_gridAt_88 : decode cX10_gridAt 88 = .ok (.invokevirtual 176, 3) := by decide +kernel
theorem dX10_gridAt_91 : decode cX10_gridAt 91 = .ok (.ireturn, 1) := by decide +kernel
theorem dX10_gridAt_92 : decode cX10_gridAt 92 = .ok (.aload_n 0, 1) := by decide +kernel
theorem dX10_gridAt_93 : decode cX10_gridAt 93 = .ok (.getfield 111, 3) := by decide +kernel
theorem dX10_gridAt_96 : decode cX10_gridAt 96 = .ok (.ireturn, 1) := by decide +kernel
theorem dX10_gridAt_97 : decode cX10_gridAt 97 = .ok (.aload_n 0, 1) := by decide +kernel
theorem dX10_gridAt_98 : decode cX10_gridAt 98 = .ok (.getfield 114, 3) := by decide +kernel
theorem dX10_gridAt_101 : decode cX10_gridAt 101 = .ok (.ireturn, 1) := by decide +kernel
theorem dX10_gridAt_102 : decode cX10_gridAt 102 = .ok (.aload_n 0, 1) := by decide +kernel
theorem dX10_gridAt_103 : decode cX10_gridAt 103 = .ok (.iload_n 1, 1) := by decide +kernel
theorem dX10_gridAt_104 : decode cX10_gridAt 104 = .ok (.iconst 1, 1) := by decide +kernel
theorem dX10_gridAt_105 : decode cX10_gridAt 105 = .ok (.invokevirtual 152, 3) := by decide +kernel
theorem dX10_gridAt_108 : decode cX10_gridAt 108 = .ok (.ireturn, 1) := by decide +kernel
theorem dX10_nodeAt_0 : decode cX10_nodeAt 0 = .ok (.aload_n 0, 1) := by decide +kernel
theorem dX10_nodeAt_1 : decode cX10_nodeAt 1 = .ok (.iconst 0, 1) := by decide +kernel
theorem dX10_nodeAt_2 : decode cX10_nodeAt 2 = .ok (.putfield 46, 3) := by decide +kernel
theorem dX10_nodeAt_5 : decode cX10_nodeAt 5 = .ok (.aload_n 0, 1) := by decide +kernel
theorem dX10_nodeAt_6 : decode cX10_nodeAt 6 = .ok (.iload_n 1, 1) := by decide +kernel
theorem dX10_nodeAt_7 : decode cX10_nodeAt 7 = .ok (.iload_n 2, 1) := by decide +kernel
theorem dX10_nodeAt_8 : decode cX10_nodeAt 8 = .ok (.iload_n 3, 1) := by decide +kernel
theorem dX10_nodeAt_9 : decode cX10_nodeAt 9 = .ok (.invokevirtual 179, 3) := by decide +kernel
theorem dX10_nodeAt_12 : decode cX10_nodeAt 12 = .ok (.ifCond .ne 6, 3) := by decide +kernel
theorem dX10_nodeAt_15 : decode cX10_nodeAt 15 = .ok (.ldc 170, 2) := by decide +kernel
theorem dX10_nodeAt_17 : decode cX10_nodeAt 17 = .ok (.ireturn, 1) := by decide +kernel
theorem dX10_nodeAt_18 : decode cX10_nodeAt 18 = .ok (.iload 4, 2) := by decide +kernel
theorem dX10_nodeAt_20 : decode cX10_nodeAt 20 = .ok (.i2l, 1) := by decide +kernel
theorem dX10_nodeAt_21 : decode cX10_nodeAt 21 = .ok (.lconst 0, 1) := by decide +kernel
theorem dX10_nodeAt_22 : decode cX10_nodeAt 22 = .ok (.ldc2_w 182, 3) := by decide +kernel
theorem dX10_nodeAt_25 : decode cX10_nodeAt 25 = .ok (.invokestatic 50, 3) := by decide +kernel
theorem dX10_nodeAt_28 : decode cX10_nodeAt 28 = .ok (.ifCond .ne 6, 3) := by decide +kernel
theorem dX10_nodeAt_31 : decode cX10_nodeAt 31 = .ok (.ldc 169, 2) := by decide +kernel
theorem dX10_nodeAt_33 : decode cX10_nodeAt 33 = .ok (.ireturn, 1) := by decide +kernel
theorem dX10_nodeAt_34 : decode cX10_nodeAt 34 = .ok (.iload 4, 2) := by decide +kernel
theorem dX10_nodeAt_36 : decode cX10_nodeAt 36 = .ok (.iconst 2, 1) := by decide +kernel
theorem dX10_nodeAt_37 : decode cX10_nodeAt 37 = .ok (.if_icmp .ge 16, 3) := by decide +kernel
theorem dX10_nodeAt_40 : decode cX10_nodeAt 40 = .ok (.aload_n 0, 1) := by decide +kernel
theorem dX10_nodeAt_41 : decode cX10_nodeAt 41 = .ok (.iload_n 1, 1) := by decide +kernel
theorem dX10_nodeAt_42 : decode cX10_nodeAt 42 = .ok (.iload_n 2, 1) := by decide +kernel
theorem dX10_nodeAt_43 : decode cX10_nodeAt 43 = .ok (.iload_n 3, 1) := by decide +kernel
theorem dX10_nodeAt_44 : decode cX10_nodeAt 44 = .ok (.iload 4, 2) := by decide +kernel
theorem dX10_nodeAt_46 : decode cX10_nodeAt 46 = .ok (.invokevirtual 87, 3) := by decide +kernel
theorem dX10_nodeAt_49 : decode cX10_nodeAt 49 = .ok (.ldc 184, 2) := by decide +kernel
theorem dX10_nodeAt_51 : decode cX10_nodeAt 51 = .ok (.iadd, 1) := by decide +kernel
theorem dX10_nodeAt_52 : decode cX10_nodeAt 52 = .ok (.ireturn, 1) := by decide +kernel
theorem dX10_nodeAt_53 : decode cX10_nodeAt 53 = .ok (.aload_n 0, 1) := by decide +kernel
theorem dX10_nodeAt_54 : decode cX10_nodeAt 54 = .ok (.iload_n 1, 1) := by decide +kernel
theorem dX10_nodeAt_55 : decode cX10_nodeAt 55 = .ok (.iconst 0, 1) := by decide +kernel
theorem dX10_nodeAt_56 : decode cX10_nodeAt 56 = .ok (.invokevirtual 58, 3) := by decide +kernel
theorem dX10_nodeAt_59 : decode cX10_nodeAt 59 = .ok (.iconst (-1), 1) := by decide +kernel
theorem dX10_nodeAt_60 : decode cX10_nodeAt 60 = .ok (.if_icmp .ne 7, 3) := by decide +kernel
theorem dX10_nodeAt_63 : decode cX10_nodeAt 63 = .ok (.iconst (-1), 1) := by decide +kernel
theorem dX10_nodeAt_64 : decode cX10_nodeAt 64 = .ok (.goto 17, 3) := by decide +kernel
theorem dX10_nodeAt_67 : decode cX10_nodeAt 67 = .ok (.aload_n 0, 1) := by decide +kernel
theorem dX10_nodeAt_68 : decode cX10_nodeAt 68 = .ok (.iload_n 1, 1) := by decide +kernel
theorem dX10_nodeAt_69 : decode cX10_nodeAt 69 = .ok (.iload_n 2, 1) := by decide +kernel
theorem dX10_nodeAt_70 : decode cX10_nodeAt 70 = .ok (.iload_n 3, 1) := by decide +kernel
theorem dX10_nodeAt_71 : decode cX10_nodeAt 71 = .ok (.iload 4, 2) := by decide +kernel
theorem dX10_nodeAt_73 : decode cX10_nodeAt 73 = .ok (.iconst 2, 1) := by decide +kernel
theorem dX10_nodeAt_74 : decode cX10_nodeAt 74 = .ok (.isub, 1) := by decide +kernel
theorem dX10_nodeAt_75 : decode cX10_nodeAt 75 = .ok (.invokevirtual 101, 3) := by decide +kernel
theorem dX10_nodeAt_78 : decode cX10_nodeAt 78 = .ok (.ldc 184, 2) := by decide +kernel
theorem dX10_nodeAt_80 : decode cX10_nodeAt 80 = .ok (.iadd, 1) := by decide +kernel
theorem dX10_nodeAt_81 : decode cX10_nodeAt 81 = .ok (.ireturn, 1) := by decide +kernel
theorem dX10_cellAt_0 : decode cX10_cellAt 0 = .ok (.aload_n 0, 1) := by decide +kernel
theorem dX10_cellAt_1 : decode cX10_cellAt 1 = .ok (.iconst 0, 1) := by decide +kernel
theorem dX10_cellAt_2 : decode cX10_cellAt 2 = .ok (.putfield 46, 3) := by decide +kernel
theorem dX10_cellAt_5 : decode cX10_cellAt 5 = .ok (.aload_n 0, 1) := by decide +kernel
theorem dX10_cellAt_6 : decode cX10_cellAt 6 = .ok (.iload_n 1, 1) := by decide +kernel
theorem dX10_cellAt_7 : decode cX10_cellAt 7 = .ok (.iload_n 2, 1) := by decide +kernel
theorem dX10_cellAt_8 : decode cX10_cellAt 8 = .ok (.iload_n 3, 1) := by decide +kernel
theorem dX10_cellAt_9 : decode cX10_cellAt 9 = .ok (.invokevirtual 185, 3) := by decide +kernel
theorem dX10_cellAt_12 : decode cX10_cellAt 12 = .ok (.ifCond .ne 7, 3) := by decide +kernel
theorem dX10_cellAt_15 : decode cX10_cellAt 15 = .ok (.ldc2_w 188, 3) := by decide +kernel
theorem dX10_cellAt_18 : decode cX10_cellAt 18 = .ok (.lreturn, 1) := by decide +kernel
theorem dX10_cellAt_19 : decode cX10_cellAt 19 = .ok (.iload 4, 2) := by decide +kernel
theorem dX10_cellAt_21 : decode cX10_cellAt 21 = .ok (.tableswitch 80 0 3 #[31, 40, 56, 72], 31) := by decide +kernel
theorem dX10_cellAt_52 : decode cX10_cellAt 52 = .ok (.aload_n 0, 1) := by decide +kernel
theorem dX10_cellAt_53 : decode cX10_cellAt 53 = .ok (.iload_n 1, 1) := by decide +kernel
theorem dX10_cellAt_54 : decode cX10_cellAt 54 = .ok (.iload_n 2, 1) := by decide +kernel
theorem dX10_cellAt_55 : decode cX10_cellAt 55 = .ok (.iload_n 3, 1) := by decide +kernel
theorem dX10_cellAt_56 : decode cX10_cellAt 56 = .ok (.invokevirtual 126, 3) := by decide +kernel
theorem dX10_cellAt_59 : decode cX10_cellAt 59 = .ok (.i2l, 1) := by decide +kernel
theorem dX10_cellAt_60 : decode cX10_cellAt 60 = .ok (.lreturn, 1) := by decide +kernel
theorem dX10_cellAt_61 : decode cX10_cellAt 61 = .ok (.aload_n 0, 1) := by decide +kernel
theorem dX10_cellAt_62 : decode cX10_cellAt 62 = .ok (.iload_n 1, 1) := by decide +kernel
theorem dX10_cellAt_63 : decode cX10_cellAt 63 = .ok (.iload_n 2, 1) := by decide +kernel
theorem dX10_cellAt_64 : decode cX10_cellAt 64 = .ok (.iload_n 3, 1) := by decide +kernel
theorem dX10_cellAt_65 : decode cX10_cellAt 65 = .ok (.invokevirtual 139, 3) := by decide +kernel
theorem dX10_cellAt_68 : decode cX10_cellAt 68 = .ok (.ifCond .eq 7, 3) := by decide +kernel
theorem dX10_cellAt_71 : decode cX10_cellAt 71 = .ok (.lconst 1, 1) := by decide +kernel
theorem dX10_cellAt_72 : decode cX10_cellAt 72 = .ok (.goto 4, 3) := by decide +kernel
theorem dX10_cellAt_75 : decode cX10_cellAt 75 = .ok (.lconst 0, 1) := by decide +kernel
theorem dX10_cellAt_76 : decode cX10_cellAt 76 = .ok (.lreturn, 1) := by decide +kernel
theorem dX10_cellAt_77 : decode cX10_cellAt 77 = .ok (.aload_n 0, 1) := by decide +kernel
theorem dX10_cellAt_78 : decode cX10_cellAt 78 = .ok (.iload_n 1, 1) := by decide +kernel
theorem dX10_cellAt_79 : decode cX10_cellAt 79 = .ok (.iload_n 2, 1) := by decide +kernel
theorem dX10_cellAt_80 : decode cX10_cellAt 80 = .ok (.iload_n 3, 1) := by decide +kernel
theorem dX10_cellAt_81 : decode cX10_cellAt 81 = .ok (.invokevirtual 136, 3) := by decide +kernel
theorem dX10_cellAt_84 : decode cX10_cellAt 84 = .ok (.ifCond .eq 7, 3) := by decide +kernel
theorem dX10_cellAt_87 : decode cX10_cellAt 87 = .ok (.lconst 1, 1) := by decide +kernel
theorem dX10_cellAt_88 : decode cX10_cellAt 88 = .ok (.goto 4, 3) := by decide +kernel
theorem dX10_cellAt_91 : decode cX10_cellAt 91 = .ok (.lconst 0, 1) := by decide +kernel
theorem dX10_cellAt_92 : decode cX10_cellAt 92 = .ok (.lreturn, 1) := by decide +kernel
theorem dX10_cellAt_93 : decode cX10_cellAt 93 = .ok (.aload_n 0, 1) := by decide +kernel
theorem dX10_cellAt_94 : decode cX10_cellAt 94 = .ok (.iload_n 1, 1) := by decide +kernel
theorem dX10_cellAt_95 : decode cX10_cellAt 95 = .ok (.iload_n 2, 1) := by decide +kernel
theorem dX10_cellAt_96 : decode cX10_cellAt 96 = .ok (.iload_n 3, 1) := by decide +kernel
theorem dX10_cellAt_97 : decode cX10_cellAt 97 = .ok (.invokevirtual 190, 3) := by decide +kernel
theorem dX10_cellAt_100 : decode cX10_cellAt 100 = .ok (.lreturn, 1) := by decide +kernel
theorem dX10_cellAt_101 : decode cX10_cellAt 101 = .ok (.ldc2_w 194, 3) := by decide +kernel
theorem dX10_cellAt_104 : decode cX10_cellAt 104 = .ok (.lreturn, 1) := by decide +kernel
theorem dX10_which_0 : decode cX10_which 0 = .ok (.aload_n 0, 1) := by decide +kernel
theorem dX10_which_1 : decode cX10_which 1 = .ok (.iconst 0, 1) := by decide +kernel
theorem dX10_which_2 : decode cX10_which 2 = .ok (.putfield 46, 3) := by decide +kernel
theorem dX10_which_5 : decode cX10_which 5 = .ok (.iload_n 1, 1) := by decide +kernel
theorem dX10_which_6 : decode cX10_which 6 = .ok (.iload_n 2, 1) := by decide +kernel
theorem dX10_which_7 : decode cX10_which 7 = .ok (.invokestatic 196, 3) := by decide +kernel
theorem dX10_which_10 : decode cX10_which 10 = .ok (.ifCond .eq 12, 3) := by decide +kernel
theorem dX10_which_13 : decode cX10_which 13 = .ok (.aload_n 0, 1) := by decide +kernel
theorem dX10_which_14 : decode cX10_which 14 = .ok (.iload_n 1, 1) := by decide +kernel
theorem dX10_which_15 : decode cX10_which 15 = .ok (.iload_n 2, 1) := by decide +kernel
theorem dX10_which_16 : decode cX10_which 16 = .ok (.invokevirtual 95, 3) := by decide +kernel
theorem dX10_which_19 : decode cX10_which 19 = .ok (.goto 5, 3) := by decide +kernel
theorem dX10_which_22 : decode cX10_which 22 = .ok (.ldc 169, 2) := by decide +kernel
theorem dX10_which_24 : decode cX10_which 24 = .ok (.ireturn, 1) := by decide +kernel
theorem dX10_moved_0 : decode cX10_moved 0 = .ok (.aload_n 0, 1) := by decide +kernel
theorem dX10_moved_1 : decode cX10_moved 1 = .ok (.iconst 0, 1) := by decide +kernel
theorem dX10_moved_2 : decode cX10_moved 2 = .ok (.putfield 46, 3) := by decide +kernel
theorem dX10_moved_5 : decode cX10_moved 5 = .ok (.iload_n 1, 1) := by decide +kernel
theorem dX10_moved_6 : decode cX10_moved 6 = .ok (.iload_n 2, 1) := by decide +kernel
theorem dX10_moved_7 : decode cX10_moved 7 = .ok (.invokestatic 196, 3) := by decide +kernel
theorem dX10_moved_10 : decode cX10_moved 10 = .ok (.ifCond .eq 13, 3) := by decide +kernel
theorem dX10_moved_13 : decode cX10_moved 13 = .ok (.iload_n 3, 1) := by decide +kernel
theorem dX10_moved_14 : decode cX10_moved 14 = .ok (.i2l, 1) := by decide +kernel
theorem dX10_moved_15 : decode cX10_moved 15 = .ok (.lconst 0, 1) := by decide +kernel
theorem dX10_moved_16 : decode cX10_moved 16 = .ok (.lconst 1, 1) := by decide +kernel
theorem dX10_moved_17 : decode cX10_moved 17 = .ok (.invokestatic 50, 3) := by decide +kernel
theorem dX10_moved_20 : decode cX10_moved 20 = .ok (.ifCond .ne 6, 3) := by decide +kernel
theorem dX10_moved_23 : decode cX10_moved 23 = .ok (.ldc 169, 2) := by decide +kernel
theorem dX10_moved_25 : decode cX10_moved 25 = .ok (.ireturn, 1) := by decide +kernel
theorem dX10_moved_26 : decode cX10_moved 26 = .ok (.iload_n 3, 1) := by decide +kernel
theorem dX10_moved_27 : decode cX10_moved 27 = .ok (.ifCond .ne 7, 3) := by decide +kernel
theorem dX10_moved_30 : decode cX10_moved 30 = .ok (.iload_n 1, 1) := by decide +kernel
theorem dX10_moved_31 : decode cX10_moved 31 = .ok (.goto 4, 3) := by decide +kernel
theorem dX10_moved_34 : decode cX10_moved 34 = .ok (.iload_n 2, 1) := by decide +kernel
theorem dX10_moved_35 : decode cX10_moved 35 = .ok (.aload_n 0, 1) := by decide +kernel
theorem dX10_moved_36 : decode cX10_moved 36 = .ok (.iload_n 1, 1) := by decide +kernel
theorem dX10_moved_37 : decode cX10_moved 37 = .ok (.iload_n 2, 1) := by decide +kernel
theorem dX10_moved_38 : decode cX10_moved 38 = .ok (.iload_n 3, 1) := by decide +kernel
theorem dX10_moved_39 : decode cX10_moved 39 = .ok (.invokevirtual 145, 3) := by decide +kernel
theorem dX10_moved_42 : decode cX10_moved 42 = .ok (.iadd, 1) := by decide +kernel
theorem dX10_moved_43 : decode cX10_moved 43 = .ok (.ldc 184, 2) := by decide +kernel
theorem dX10_moved_45 : decode cX10_moved 45 = .ok (.iadd, 1) := by decide +kernel
theorem dX10_moved_46 : decode cX10_moved 46 = .ok (.ireturn, 1) := by decide +kernel
theorem dX10_wasThere_0 : decode cX10_wasThere 0 = .ok (.iconst 0, 1) := by decide +kernel
theorem dX10_wasThere_1 : decode cX10_wasThere 1 = .ok (.istore_n 2, 1) := by decide +kernel
theorem dX10_wasThere_2 : decode cX10_wasThere 2 = .ok (.iload_n 2, 1) := by decide +kernel
theorem dX10_wasThere_3 : decode cX10_wasThere 3 = .ok (.iload_n 1, 1) := by decide +kernel
theorem dX10_wasThere_4 : decode cX10_wasThere 4 = .ok (.if_icmp .ge 41, 3) := by decide +kernel
theorem dX10_wasThere_7 : decode cX10_wasThere 7 = .ok (.aload_n 0, 1) := by decide +kernel
theorem dX10_wasThere_8 : decode cX10_wasThere 8 = .ok (.getfield 36, 3) := by decide +kernel
theorem dX10_wasThere_11 : decode cX10_wasThere 11 = .ok (.iload_n 2, 1) := by decide +kernel
theorem dX10_wasThere_12 : decode cX10_wasThere 12 = .ok (.iaload, 1) := by decide +kernel
theorem dX10_wasThere_13 : decode cX10_wasThere 13 = .ok (.aload_n 0, 1) := by decide +kernel
theorem dX10_wasThere_14 : decode cX10_wasThere 14 = .ok (.getfield 36, 3) := by decide +kernel
theorem dX10_wasThere_17 : decode cX10_wasThere 17 = .ok (.iload_n 1, 1) := by decide +kernel
theorem dX10_wasThere_18 : decode cX10_wasThere 18 = .ok (.iaload, 1) := by decide +kernel
theorem dX10_wasThere_19 : decode cX10_wasThere 19 = .ok (.if_icmp .ne 20, 3) := by decide +kernel
theorem dX10_wasThere_22 : decode cX10_wasThere 22 = .ok (.aload_n 0, 1) := by decide +kernel
theorem dX10_wasThere_23 : decode cX10_wasThere 23 = .ok (.getfield 39, 3) := by decide +kernel
theorem dX10_wasThere_26 : decode cX10_wasThere 26 = .ok (.iload_n 2, 1) := by decide +kernel
theorem dX10_wasThere_27 : decode cX10_wasThere 27 = .ok (.iaload, 1) := by decide +kernel
theorem dX10_wasThere_28 : decode cX10_wasThere 28 = .ok (.aload_n 0, 1) := by decide +kernel
theorem dX10_wasThere_29 : decode cX10_wasThere 29 = .ok (.getfield 39, 3) := by decide +kernel
theorem dX10_wasThere_32 : decode cX10_wasThere 32 = .ok (.iload_n 1, 1) := by decide +kernel
theorem dX10_wasThere_33 : decode cX10_wasThere 33 = .ok (.iaload, 1) := by decide +kernel
theorem dX10_wasThere_34 : decode cX10_wasThere 34 = .ok (.if_icmp .ne 5, 3) := by decide +kernel
theorem dX10_wasThere_37 : decode cX10_wasThere 37 = .ok (.iconst 1, 1) := by decide +kernel
theorem dX10_wasThere_38 : decode cX10_wasThere 38 = .ok (.ireturn, 1) := by decide +kernel
theorem dX10_wasThere_39 : decode cX10_wasThere 39 = .ok (.iinc 2 1, 3) := by decide +kernel
theorem dX10_wasThere_42 : decode cX10_wasThere 42 = .ok (.goto (-40), 3) := by decide +kernel
theorem dX10_wasThere_45 : decode cX10_wasThere 45 = .ok (.iconst 0, 1) := by decide +kernel
theorem dX10_wasThere_46 : decode cX10_wasThere 46 = .ok (.ireturn, 1) := by decide +kernel
theorem dX10_back_0 : decode cX10_back 0 = .ok (.aload_n 0, 1) := by decide +kernel
theorem dX10_back_1 : decode cX10_back 1 = .ok (.iconst 0, 1) := by decide +kernel
theorem dX10_back_2 : decode cX10_back 2 = .ok (.putfield 46, 3) := by decide +kernel
theorem dX10_back_5 : decode cX10_back 5 = .ok (.iload_n 1, 1) := by decide +kernel
theorem dX10_back_6 : decode cX10_back 6 = .ok (.i2l, 1) := by decide +kernel
theorem dX10_back_7 : decode cX10_back 7 = .ok (.ldc2_w 200, 3) := by decide +kernel
theorem dX10_back_10 : decode cX10_back 10 = .ok (.ldc2_w 202, 3) := by decide +kernel
theorem dX10_back_13 : decode cX10_back 13 = .ok (.invokestatic 50, 3) := by decide +kernel
theorem dX10_back_16 : decode cX10_back 16 = .ok (.ifCond .eq 29, 3) := by decide +kernel
theorem dX10_back_19 : decode cX10_back 19 = .ok (.iload_n 2, 1) := by decide +kernel
theorem dX10_back_20 : decode cX10_back 20 = .ok (.i2l, 1) := by decide +kernel
theorem dX10_back_21 : decode cX10_back 21 = .ok (.ldc2_w 200, 3) := by decide +kernel
theorem dX10_back_24 : decode cX10_back 24 = .ok (.ldc2_w 202, 3) := by decide +kernel
theorem dX10_back_27 : decode cX10_back 27 = .ok (.invokestatic 50, 3) := by decide +kernel
theorem dX10_back_30 : decode cX10_back 30 = .ok (.ifCond .eq 15, 3) := by decide +kernel
theorem dX10_back_33 : decode cX10_back 33 = .ok (.iload_n 3, 1) := by decide +kernel
theorem dX10_back_34 : decode cX10_back 34 = .ok (.i2l, 1) := by decide +kernel
theorem dX10_back_35 : decode cX10_back 35 = .ok (.lconst 0, 1) := by decide +kernel
theorem dX10_back_36 : decode cX10_back 36 = .ok (.ldc2_w 182, 3) := by decide +kernel
theorem dX10_back_39 : decode cX10_back 39 = .ok (.invokestatic 50, 3) := by decide +kernel
theorem dX10_back_42 : decode cX10_back 42 = .ok (.ifCond .ne 6, 3) := by decide +kernel
theorem dX10_back_45 : decode cX10_back 45 = .ok (.ldc 169, 2) := by decide +kernel
theorem dX10_back_47 : decode cX10_back 47 = .ok (.ireturn, 1) := by decide +kernel
theorem dX10_back_48 : decode cX10_back 48 = .ok (.aload_n 0, 1) := by decide +kernel
theorem dX10_back_49 : decode cX10_back 49 = .ok (.getfield 36, 3) := by decide +kernel
theorem dX10_back_52 : decode cX10_back 52 = .ok (.iconst 0, 1) := by decide +kernel
theorem dX10_back_53 : decode cX10_back 53 = .ok (.iload_n 1, 1) := by decide +kernel
theorem dX10_back_54 : decode cX10_back 54 = .ok (.iastore, 1) := by decide +kernel
theorem dX10_back_55 : decode cX10_back 55 = .ok (.aload_n 0, 1) := by decide +kernel
theorem dX10_back_56 : decode cX10_back 56 = .ok (.getfield 39, 3) := by decide +kernel
theorem dX10_back_59 : decode cX10_back 59 = .ok (.iconst 0, 1) := by decide +kernel
theorem dX10_back_60 : decode cX10_back 60 = .ok (.iload_n 2, 1) := by decide +kernel
theorem dX10_back_61 : decode cX10_back 61 = .ok (.iastore, 1) := by decide +kernel
theorem dX10_back_62 : decode cX10_back 62 = .ok (.iconst 0, 1) := by decide +kernel
theorem dX10_back_63 : decode cX10_back 63 = .ok (.istore 4, 2) := by decide +kernel
theorem dX10_back_65 : decode cX10_back 65 = .ok (.iload_n 1, 1) := by decide +kernel
theorem dX10_back_66 : decode cX10_back 66 = .ok (.iload_n 2, 1) := by decide +kernel
theorem dX10_back_67 : decode cX10_back 67 = .ok (.invokestatic 196, 3) := by decide +kernel
theorem dX10_back_70 : decode cX10_back 70 = .ok (.ifCond .eq 7, 3) := by decide +kernel
theorem dX10_back_73 : decode cX10_back 73 = .ok (.iconst 3, 1) := by decide +kernel
theorem dX10_back_74 : decode cX10_back 74 = .ok (.goto 4, 3) := by decide +kernel
theorem dX10_back_77 : decode cX10_back 77 = .ok (.iconst 2, 1) := by decide +kernel
theorem dX10_back_78 : decode cX10_back 78 = .ok (.istore 5, 2) := by decide +kernel
theorem dX10_back_80 : decode cX10_back 80 = .ok (.iload 5, 2) := by decide +kernel
theorem dX10_back_82 : decode cX10_back 82 = .ok (.iconst 3, 1) := by decide +kernel
theorem dX10_back_83 : decode cX10_back 83 = .ok (.if_icmp .ne 174, 3) := by decide +kernel
theorem dX10_back_86 : decode cX10_back 86 = .ok (.iload 4, 2) := by decide +kernel
theorem dX10_back_88 : decode cX10_back 88 = .ok (.bipush 60, 2) := by decide +kernel
theorem dX10_back_90 : decode cX10_back 90 = .ok (.if_icmp .ge 167, 3) := by decide +kernel
theorem dX10_back_93 : decode cX10_back 93 = .ok (.iinc 4 1, 3) := by decide +kernel
theorem dX10_back_96 : decode cX10_back 96 = .ok (.aload_n 0, 1) := by decide +kernel
theorem dX10_back_97 : decode cX10_back 97 = .ok (.getfield 36, 3) := by decide +kernel
theorem dX10_back_100 : decode cX10_back 100 = .ok (.iload 4, 2) := by decide +kernel
theorem dX10_back_102 : decode cX10_back 102 = .ok (.iload_n 1, 1) := by decide +kernel
theorem dX10_back_103 : decode cX10_back 103 = .ok (.aload_n 0, 1) := by decide +kernel
theorem dX10_back_104 : decode cX10_back 104 = .ok (.aload_n 0, 1) := by decide +kernel
theorem dX10_back_105 : decode cX10_back 105 = .ok (.getfield 36, 3) := by decide +kernel
theorem dX10_back_108 : decode cX10_back 108 = .ok (.iload 4, 2) := by decide +kernel
theorem dX10_back_110 : decode cX10_back 110 = .ok (.iconst 1, 1) := by decide +kernel
theorem dX10_back_111 : decode cX10_back 111 = .ok (.isub, 1) := by decide +kernel
theorem dX10_back_112 : decode cX10_back 112 = .ok (.iaload, 1) := by decide +kernel
theorem dX10_back_113 : decode cX10_back 113 = .ok (.aload_n 0, 1) := by decide +kernel
theorem dX10_back_114 : decode cX10_back 114 = .ok (.getfield 39, 3) := by decide +kernel
theorem dX10_back_117 : decode cX10_back 117 = .ok (.iload 4, 2) := by decide +kernel
theorem dX10_back_119 : decode cX10_back 119 = .ok (.iconst 1, 1) := by decide +kernel
theorem dX10_back_120 : decode cX10_back 120 = .ok (.isub, 1) := by decide +kernel
theorem dX10_back_121 : decode cX10_back 121 = .ok (.iaload, 1) := by decide +kernel
theorem dX10_back_122 : decode cX10_back 122 = .ok (.iconst 0, 1) := by decide +kernel
theorem dX10_back_123 : decode cX10_back 123 = .ok (.invokevirtual 145, 3) := by decide +kernel
theorem dX10_back_126 : decode cX10_back 126 = .ok (.isub, 1) := by decide +kernel
theorem dX10_back_127 : decode cX10_back 127 = .ok (.iastore, 1) := by decide +kernel
theorem dX10_back_128 : decode cX10_back 128 = .ok (.aload_n 0, 1) := by decide +kernel
theorem dX10_back_129 : decode cX10_back 129 = .ok (.getfield 39, 3) := by decide +kernel
theorem dX10_back_132 : decode cX10_back 132 = .ok (.iload 4, 2) := by decide +kernel
theorem dX10_back_134 : decode cX10_back 134 = .ok (.iload_n 2, 1) := by decide +kernel
theorem dX10_back_135 : decode cX10_back 135 = .ok (.aload_n 0, 1) := by decide +kernel
theorem dX10_back_136 : decode cX10_back 136 = .ok (.aload_n 0, 1) := by decide +kernel
theorem dX10_back_137 : decode cX10_back 137 = .ok (.getfield 36, 3) := by decide +kernel
theorem dX10_back_140 : decode cX10_back 140 = .ok (.iload 4, 2) := by decide +kernel
theorem dX10_back_142 : decode cX10_back 142 = .ok (.iconst 1, 1) := by decide +kernel
theorem dX10_back_143 : decode cX10_back 143 = .ok (.isub, 1) := by decide +kernel
theorem dX10_back_144 : decode cX10_back 144 = .ok (.iaload, 1) := by decide +kernel
theorem dX10_back_145 : decode cX10_back 145 = .ok (.aload_n 0, 1) := by decide +kernel
theorem dX10_back_146 : decode cX10_back 146 = .ok (.getfield 39, 3) := by decide +kernel
theorem dX10_back_149 : decode cX10_back 149 = .ok (.iload 4, 2) := by decide +kernel
theorem dX10_back_151 : decode cX10_back 151 = .ok (.iconst 1, 1) := by decide +kernel
theorem dX10_back_152 : decode cX10_back 152 = .ok (.isub, 1) := by decide +kernel
theorem dX10_back_153 : decode cX10_back 153 = .ok (.iaload, 1) := by decide +kernel
theorem dX10_back_154 : decode cX10_back 154 = .ok (.iconst 1, 1) := by decide +kernel
theorem dX10_back_155 : decode cX10_back 155 = .ok (.invokevirtual 145, 3) := by decide +kernel
theorem dX10_back_158 : decode cX10_back 158 = .ok (.isub, 1) := by decide +kernel
theorem dX10_back_159 : decode cX10_back 159 = .ok (.iastore, 1) := by decide +kernel
theorem dX10_back_160 : decode cX10_back 160 = .ok (.aload_n 0, 1) := by decide +kernel
theorem dX10_back_161 : decode cX10_back 161 = .ok (.getfield 36, 3) := by decide +kernel
theorem dX10_back_164 : decode cX10_back 164 = .ok (.iload 4, 2) := by decide +kernel
theorem dX10_back_166 : decode cX10_back 166 = .ok (.iaload, 1) := by decide +kernel
theorem dX10_back_167 : decode cX10_back 167 = .ok (.aload_n 0, 1) := by decide +kernel
theorem dX10_back_168 : decode cX10_back 168 = .ok (.getfield 36, 3) := by decide +kernel
theorem dX10_back_171 : decode cX10_back 171 = .ok (.iload 4, 2) := by decide +kernel
theorem dX10_back_173 : decode cX10_back 173 = .ok (.iconst 1, 1) := by decide +kernel
theorem dX10_back_174 : decode cX10_back 174 = .ok (.isub, 1) := by decide +kernel
theorem dX10_back_175 : decode cX10_back 175 = .ok (.iaload, 1) := by decide +kernel
theorem dX10_back_176 : decode cX10_back 176 = .ok (.if_icmp .ne 26, 3) := by decide +kernel
theorem dX10_back_179 : decode cX10_back 179 = .ok (.aload_n 0, 1) := by decide +kernel
theorem dX10_back_180 : decode cX10_back 180 = .ok (.getfield 39, 3) := by decide +kernel
theorem dX10_back_183 : decode cX10_back 183 = .ok (.iload 4, 2) := by decide +kernel
theorem dX10_back_185 : decode cX10_back 185 = .ok (.iaload, 1) := by decide +kernel
theorem dX10_back_186 : decode cX10_back 186 = .ok (.aload_n 0, 1) := by decide +kernel
theorem dX10_back_187 : decode cX10_back 187 = .ok (.getfield 39, 3) := by decide +kernel
theorem dX10_back_190 : decode cX10_back 190 = .ok (.iload 4, 2) := by decide +kernel
theorem dX10_back_192 : decode cX10_back 192 = .ok (.iconst 1, 1) := by decide +kernel
theorem dX10_back_193 : decode cX10_back 193 = .ok (.isub, 1) := by decide +kernel
theorem dX10_back_194 : decode cX10_back 194 = .ok (.iaload, 1) := by decide +kernel
theorem dX10_back_195 : decode cX10_back 195 = .ok (.if_icmp .ne 7, 3) := by decide +kernel
theorem dX10_back_198 : decode cX10_back 198 = .ok (.iconst 1, 1) := by decide +kernel
theorem dX10_back_199 : decode cX10_back 199 = .ok (.goto 4, 3) := by decide +kernel
theorem dX10_back_202 : decode cX10_back 202 = .ok (.iconst 0, 1) := by decide +kernel
theorem dX10_back_203 : decode cX10_back 203 = .ok (.istore 6, 2) := by decide +kernel
theorem dX10_back_205 : decode cX10_back 205 = .ok (.aload_n 0, 1) := by decide +kernel
theorem dX10_back_206 : decode cX10_back 206 = .ok (.getfield 36, 3) := by decide +kernel
theorem dX10_back_209 : decode cX10_back 209 = .ok (.iload 4, 2) := by decide +kernel
theorem dX10_back_211 : decode cX10_back 211 = .ok (.iaload, 1) := by decide +kernel
theorem dX10_back_212 : decode cX10_back 212 = .ok (.aload_n 0, 1) := by decide +kernel
theorem dX10_back_213 : decode cX10_back 213 = .ok (.getfield 39, 3) := by decide +kernel
theorem dX10_back_216 : decode cX10_back 216 = .ok (.iload 4, 2) := by decide +kernel
theorem dX10_back_218 : decode cX10_back 218 = .ok (.iaload, 1) := by decide +kernel
theorem dX10_back_219 : decode cX10_back 219 = .ok (.invokestatic 196, 3) := by decide +kernel
theorem dX10_back_222 : decode cX10_back 222 = .ok (.ifCond .ne 7, 3) := by decide +kernel
theorem dX10_back_225 : decode cX10_back 225 = .ok (.iconst 2, 1) := by decide +kernel
theorem dX10_back_226 : decode cX10_back 226 = .ok (.goto 26, 3) := by decide +kernel
theorem dX10_back_229 : decode cX10_back 229 = .ok (.iload 6, 2) := by decide +kernel
theorem dX10_back_231 : decode cX10_back 231 = .ok (.ifCond .eq 7, 3) := by decide +kernel
theorem dX10_back_234 : decode cX10_back 234 = .ok (.iconst 0, 1) := by decide +kernel
theorem dX10_back_235 : decode cX10_back 235 = .ok (.goto 17, 3) := by decide +kernel
theorem dX10_back_238 : decode cX10_back 238 = .ok (.aload_n 0, 1) := by decide +kernel
theorem dX10_back_239 : decode cX10_back 239 = .ok (.iload 4, 2) := by decide +kernel
theorem dX10_back_241 : decode cX10_back 241 = .ok (.invokevirtual 204, 3) := by decide +kernel
theorem dX10_back_244 : decode cX10_back 244 = .ok (.ifCond .eq 7, 3) := by decide +kernel
theorem dX10_back_247 : decode cX10_back 247 = .ok (.iconst 1, 1) := by decide +kernel
theorem dX10_back_248 : decode cX10_back 248 = .ok (.goto 4, 3) := by decide +kernel
theorem dX10_back_251 : decode cX10_back 251 = .ok (.iconst 3, 1) := by decide +kernel
theorem dX10_back_252 : decode cX10_back 252 = .ok (.istore 5, 2) := by decide +kernel
theorem dX10_back_254 : decode cX10_back 254 = .ok (.goto (-174), 3) := by decide +kernel
theorem dX10_back_257 : decode cX10_back 257 = .ok (.iload_n 3, 1) := by decide +kernel
theorem dX10_back_258 : decode cX10_back 258 = .ok (.ifCond .ne 8, 3) := by decide +kernel
theorem dX10_back_261 : decode cX10_back 261 = .ok (.iload 5, 2) := by decide +kernel
theorem dX10_back_263 : decode cX10_back 263 = .ok (.goto 38, 3) := by decide +kernel
theorem dX10_back_266 : decode cX10_back 266 = .ok (.iload_n 3, 1) := by decide +kernel
theorem dX10_back_267 : decode cX10_back 267 = .ok (.iconst 1, 1) := by decide +kernel
theorem dX10_back_268 : decode cX10_back 268 = .ok (.if_icmp .ne 8, 3) := by decide +kernel
theorem dX10_back_271 : decode cX10_back 271 = .ok (.iload 4, 2) := by decide +kernel
theorem dX10_back_273 : decode cX10_back 273 = .ok (.goto 28, 3) := by decide +kernel
theorem dX10_back_276 : decode cX10_back 276 = .ok (.iload_n 3, 1) := by decide +kernel
theorem dX10_back_277 : decode cX10_back 277 = .ok (.iconst 2, 1) := by decide +kernel
theorem dX10_back_278 : decode cX10_back 278 = .ok (.if_icmp .ne 13, 3) := by decide +kernel
theorem dX10_back_281 : decode cX10_back 281 = .ok (.aload_n 0, 1) := by decide +kernel
theorem dX10_back_282 : decode cX10_back 282 = .ok (.getfield 36, 3) := by decide +kernel
theorem dX10_back_285 : decode cX10_back 285 = .ok (.iload 4, 2) := by decide +kernel
theorem dX10_back_287 : decode cX10_back 287 = .ok (.iaload, 1) := by decide +kernel
theorem dX10_back_288 : decode cX10_back 288 = .ok (.goto 10, 3) := by decide +kernel
theorem dX10_back_291 : decode cX10_back 291 = .ok (.aload_n 0, 1) := by decide +kernel
theorem dX10_back_292 : decode cX10_back 292 = .ok (.getfield 39, 3) := by decide +kernel
theorem dX10_back_295 : decode cX10_back 295 = .ok (.iload 4, 2) := by decide +kernel
theorem dX10_back_297 : decode cX10_back 297 = .ok (.iaload, 1) := by decide +kernel
theorem dX10_back_298 : decode cX10_back 298 = .ok (.ldc 184, 2) := by decide +kernel
theorem dX10_back_300 : decode cX10_back 300 = .ok (.iadd, 1) := by decide +kernel
theorem dX10_back_301 : decode cX10_back 301 = .ok (.ireturn, 1) := by decide +kernel
theorem dX10_notes_0 : decode cX10_notes 0 = .ok (.aload_n 0, 1) := by decide +kernel
theorem dX10_notes_1 : decode cX10_notes 1 = .ok (.getfield 166, 3) := by decide +kernel
theorem dX10_notes_4 : decode cX10_notes 4 = .ok (.bipush 16, 2) := by decide +kernel
theorem dX10_notes_6 : decode cX10_notes 6 = .ok (.if_icmp .ne 44, 3) := by decide +kernel
theorem dX10_notes_9 : decode cX10_notes 9 = .ok (.iconst 0, 1) := by decide +kernel
theorem dX10_notes_10 : decode cX10_notes 10 = .ok (.istore_n 1, 1) := by decide +kernel
theorem dX10_notes_11 : decode cX10_notes 11 = .ok (.iload_n 1, 1) := by decide +kernel
theorem dX10_notes_12 : decode cX10_notes 12 = .ok (.sipush 5070, 3) := by decide +kernel
theorem dX10_notes_15 : decode cX10_notes 15 = .ok (.if_icmp .ge 25, 3) := by decide +kernel
theorem dX10_notes_18 : decode cX10_notes 18 = .ok (.aload_n 0, 1) := by decide +kernel
theorem dX10_notes_19 : decode cX10_notes 19 = .ok (.getfield 13, 3) := by decide +kernel
theorem dX10_notes_22 : decode cX10_notes 22 = .ok (.iload_n 1, 1) := by decide +kernel
theorem dX10_notes_23 : decode cX10_notes 23 = .ok (.aload_n 0, 1) := by decide +kernel
theorem dX10_notes_24 : decode cX10_notes 24 = .ok (.getfield 13, 3) := by decide +kernel
theorem dX10_notes_27 : decode cX10_notes 27 = .ok (.iload_n 1, 1) := by decide +kernel
theorem dX10_notes_28 : decode cX10_notes 28 = .ok (.sipush 338, 3) := by decide +kernel
theorem dX10_notes_31 : decode cX10_notes 31 = .ok (.iadd, 1) := by decide +kernel
theorem dX10_notes_32 : decode cX10_notes 32 = .ok (.iaload, 1) := by decide +kernel
theorem dX10_notes_33 : decode cX10_notes 33 = .ok (.iastore, 1) := by decide +kernel
theorem dX10_notes_34 : decode cX10_notes 34 = .ok (.iinc 1 1, 3) := by decide +kernel
theorem dX10_notes_37 : decode cX10_notes 37 = .ok (.goto (-26), 3) := by decide +kernel
theorem dX10_notes_40 : decode cX10_notes 40 = .ok (.aload_n 0, 1) := by decide +kernel
theorem dX10_notes_41 : decode cX10_notes 41 = .ok (.dup, 1) := by decide +kernel
theorem dX10_notes_42 : decode cX10_notes 42 = .ok (.getfield 166, 3) := by decide +kernel
theorem dX10_notes_45 : decode cX10_notes 45 = .ok (.iconst 1, 1) := by decide +kernel
theorem dX10_notes_46 : decode cX10_notes 46 = .ok (.isub, 1) := by decide +kernel
theorem dX10_notes_47 : decode cX10_notes 47 = .ok (.putfield 166, 3) := by decide +kernel
theorem dX10_notes_50 : decode cX10_notes 50 = .ok (.iconst 0, 1) := by decide +kernel
theorem dX10_notes_51 : decode cX10_notes 51 = .ok (.istore_n 1, 1) := by decide +kernel
theorem dX10_notes_52 : decode cX10_notes 52 = .ok (.iload_n 1, 1) := by decide +kernel
theorem dX10_notes_53 : decode cX10_notes 53 = .ok (.sipush 338, 3) := by decide +kernel
theorem dX10_notes_56 : decode cX10_notes 56 = .ok (.if_icmp .ge 30, 3) := by decide +kernel
theorem dX10_notes_59 : decode cX10_notes 59 = .ok (.aload_n 0, 1) := by decide +kernel
theorem dX10_notes_60 : decode cX10_notes 60 = .ok (.getfield 13, 3) := by decide +kernel
theorem dX10_notes_63 : decode cX10_notes 63 = .ok (.sipush 338, 3) := by decide +kernel
theorem dX10_notes_66 : decode cX10_notes 66 = .ok (.aload_n 0, 1) := by decide +kernel
theorem dX10_notes_67 : decode cX10_notes 67 = .ok (.getfield 166, 3) := by decide +kernel
theorem dX10_notes_70 : decode cX10_notes 70 = .ok (.imul, 1) := by decide +kernel
theorem dX10_notes_71 : decode cX10_notes 71 = .ok (.iload_n 1, 1) := by decide +kernel
theorem dX10_notes_72 : decode cX10_notes 72 = .ok (.iadd, 1) := by decide +kernel
theorem dX10_notes_73 : decode cX10_notes 73 = .ok (.aload_n 0, 1) := by decide +kernel
theorem dX10_notes_74 : decode cX10_notes 74 = .ok (.getfield 7, 3) := by decide +kernel
theorem dX10_notes_77 : decode cX10_notes 77 = .ok (.iload_n 1, 1) := by decide +kernel
theorem dX10_notes_78 : decode cX10_notes 78 = .ok (.iaload, 1) := by decide +kernel
theorem dX10_notes_79 : decode cX10_notes 79 = .ok (.iastore, 1) := by decide +kernel
theorem dX10_notes_80 : decode cX10_notes 80 = .ok (.iinc 1 1, 3) := by decide +kernel
theorem dX10_notes_83 : decode cX10_notes 83 = .ok (.goto (-31), 3) := by decide +kernel
theorem dX10_notes_86 : decode cX10_notes 86 = .ok (.aload_n 0, 1) := by decide +kernel
theorem dX10_notes_87 : decode cX10_notes 87 = .ok (.dup, 1) := by decide +kernel
theorem dX10_notes_88 : decode cX10_notes 88 = .ok (.getfield 166, 3) := by decide +kernel
theorem dX10_notes_91 : decode cX10_notes 91 = .ok (.iconst 1, 1) := by decide +kernel
theorem dX10_notes_92 : decode cX10_notes 92 = .ok (.iadd, 1) := by decide +kernel
theorem dX10_notes_93 : decode cX10_notes 93 = .ok (.putfield 166, 3) := by decide +kernel
theorem dX10_notes_96 : decode cX10_notes 96 = .ok (.return_, 1) := by decide +kernel
theorem dX10_overlaps_0 : decode cX10_overlaps 0 = .ok (.aload_n 0, 1) := by decide +kernel
theorem dX10_overlaps_1 : decode cX10_overlaps 1 = .ok (.iload_n 1, 1) := by decide +kernel
theorem dX10_overlaps_2 : decode cX10_overlaps 2 = .ok (.iconst 1, 1) := by decide +kernel
theorem dX10_overlaps_3 : decode cX10_overlaps 3 = .ok (.invokevirtual 58, 3) := by decide +kernel
theorem dX10_overlaps_6 : decode cX10_overlaps 6 = .ok (.aload_n 0, 1) := by decide +kernel
theorem dX10_overlaps_7 : decode cX10_overlaps 7 = .ok (.iload_n 1, 1) := by decide +kernel
theorem dX10_overlaps_8 : decode cX10_overlaps 8 = .ok (.iconst 4, 1) := by decide +kernel
theorem dX10_overlaps_9 : decode cX10_overlaps 9 = .ok (.invokevirtual 58, 3) := by decide +kernel
theorem dX10_overlaps_12 : decode cX10_overlaps 12 = .ok (.iconst 1, 1) := by decide +kernel
theorem dX10_overlaps_13 : decode cX10_overlaps 13 = .ok (.isub, 1) := by decide +kernel
theorem dX10_overlaps_14 : decode cX10_overlaps 14 = .ok (.aload_n 0, 1) := by decide +kernel
theorem dX10_overlaps_15 : decode cX10_overlaps 15 = .ok (.iload_n 1, 1) := by decide +kernel
theorem dX10_overlaps_16 : decode cX10_overlaps 16 = .ok (.iconst 3, 1) := by decide +kernel
theorem dX10_overlaps_17 : decode cX10_overlaps 17 = .ok (.invokevirtual 58, 3) := by decide +kernel
theorem dX10_overlaps_20 : decode cX10_overlaps 20 = .ok (.imul, 1) := by decide +kernel
theorem dX10_overlaps_21 : decode cX10_overlaps 21 = .ok (.iadd, 1) := by decide +kernel
theorem dX10_overlaps_22 : decode cX10_overlaps 22 = .ok (.istore 6, 2) := by decide +kernel
theorem dX10_overlaps_24 : decode cX10_overlaps 24 = .ok (.aload_n 0, 1) := by decide +kernel
theorem dX10_overlaps_25 : decode cX10_overlaps 25 = .ok (.iload_n 1, 1) := by decide +kernel
theorem dX10_overlaps_26 : decode cX10_overlaps 26 = .ok (.iconst 2, 1) := by decide +kernel
theorem dX10_overlaps_27 : decode cX10_overlaps 27 = .ok (.invokevirtual 58, 3) := by decide +kernel
theorem dX10_overlaps_30 : decode cX10_overlaps 30 = .ok (.aload_n 0, 1) := by decide +kernel
theorem dX10_overlaps_31 : decode cX10_overlaps 31 = .ok (.iload_n 1, 1) := by decide +kernel
theorem dX10_overlaps_32 : decode cX10_overlaps 32 = .ok (.iconst 5, 1) := by decide +kernel
theorem dX10_overlaps_33 : decode cX10_overlaps 33 = .ok (.invokevirtual 58, 3) := by decide +kernel
theorem dX10_overlaps_36 : decode cX10_overlaps 36 = .ok (.iconst 1, 1) := by decide +kernel
theorem dX10_overlaps_37 : decode cX10_overlaps 37 = .ok (.isub, 1) := by decide +kernel
theorem dX10_overlaps_38 : decode cX10_overlaps 38 = .ok (.aload_n 0, 1) := by decide +kernel
theorem dX10_overlaps_39 : decode cX10_overlaps 39 = .ok (.iload_n 1, 1) := by decide +kernel
theorem dX10_overlaps_40 : decode cX10_overlaps 40 = .ok (.iconst 3, 1) := by decide +kernel
theorem dX10_overlaps_41 : decode cX10_overlaps 41 = .ok (.invokevirtual 58, 3) := by decide +kernel
theorem dX10_overlaps_44 : decode cX10_overlaps 44 = .ok (.imul, 1) := by decide +kernel
theorem dX10_overlaps_45 : decode cX10_overlaps 45 = .ok (.iadd, 1) := by decide +kernel
theorem dX10_overlaps_46 : decode cX10_overlaps 46 = .ok (.istore 7, 2) := by decide +kernel
theorem dX10_overlaps_48 : decode cX10_overlaps 48 = .ok (.iload_n 2, 1) := by decide +kernel
theorem dX10_overlaps_49 : decode cX10_overlaps 49 = .ok (.iload 6, 2) := by decide +kernel
theorem dX10_overlaps_51 : decode cX10_overlaps 51 = .ok (.if_icmp .ge 39, 3) := by decide +kernel
theorem dX10_overlaps_54 : decode cX10_overlaps 54 = .ok (.aload_n 0, 1) := by decide +kernel
theorem dX10_overlaps_55 : decode cX10_overlaps 55 = .ok (.iload_n 1, 1) := by decide +kernel
theorem dX10_overlaps_56 : decode cX10_overlaps 56 = .ok (.iconst 1, 1) := by decide +kernel
theorem dX10_overlaps_57 : decode cX10_overlaps 57 = .ok (.invokevirtual 58, 3) := by decide +kernel
theorem dX10_overlaps_60 : decode cX10_overlaps 60 = .ok (.iload_n 2, 1) := by decide +kernel
theorem dX10_overlaps_61 : decode cX10_overlaps 61 = .ok (.iload 4, 2) := by decide +kernel
theorem dX10_overlaps_63 : decode cX10_overlaps 63 = .ok (.iadd, 1) := by decide +kernel
theorem dX10_overlaps_64 : decode cX10_overlaps 64 = .ok (.if_icmp .ge 26, 3) := by decide +kernel
theorem dX10_overlaps_67 : decode cX10_overlaps 67 = .ok (.iload_n 3, 1) := by decide +kernel
theorem dX10_overlaps_68 : decode cX10_overlaps 68 = .ok (.iload 7, 2) := by decide +kernel
theorem dX10_overlaps_70 : decode cX10_overlaps 70 = .ok (.if_icmp .ge 20, 3) := by decide +kernel
theorem dX10_overlaps_73 : decode cX10_overlaps 73 = .ok (.aload_n 0, 1) := by decide +kernel
theorem dX10_overlaps_74 : decode cX10_overlaps 74 = .ok (.iload_n 1, 1) := by decide +kernel
theorem dX10_overlaps_75 : decode cX10_overlaps 75 = .ok (.iconst 2, 1) := by decide +kernel
theorem dX10_overlaps_76 : decode cX10_overlaps 76 = .ok (.invokevirtual 58, 3) := by decide +kernel
theorem dX10_overlaps_79 : decode cX10_overlaps 79 = .ok (.iload_n 3, 1) := by decide +kernel
theorem dX10_overlaps_80 : decode cX10_overlaps 80 = .ok (.iload 5, 2) := by decide +kernel
theorem dX10_overlaps_82 : decode cX10_overlaps 82 = .ok (.iadd, 1) := by decide +kernel
theorem dX10_overlaps_83 : decode cX10_overlaps 83 = .ok (.if_icmp .ge 7, 3) := by decide +kernel
theorem dX10_overlaps_86 : decode cX10_overlaps 86 = .ok (.iconst 1, 1) := by decide +kernel
theorem dX10_overlaps_87 : decode cX10_overlaps 87 = .ok (.goto 4, 3) := by decide +kernel
theorem dX10_overlaps_90 : decode cX10_overlaps 90 = .ok (.iconst 0, 1) := by decide +kernel
theorem dX10_overlaps_91 : decode cX10_overlaps 91 = .ok (.ireturn, 1) := by decide +kernel
theorem dX10_mayBe_0 : decode cX10_mayBe 0 = .ok (.iload_n 1, 1) := by decide +kernel
theorem dX10_mayBe_1 : decode cX10_mayBe 1 = .ok (.iconst (-1), 1) := by decide +kernel
theorem dX10_mayBe_2 : decode cX10_mayBe 2 = .ok (.if_icmp .eq 66, 3) := by decide +kernel
theorem dX10_mayBe_5 : decode cX10_mayBe 5 = .ok (.aload_n 0, 1) := by decide +kernel
theorem dX10_mayBe_6 : decode cX10_mayBe 6 = .ok (.iload_n 1, 1) := by decide +kernel
theorem dX10_mayBe_7 : decode cX10_mayBe 7 = .ok (.bipush 64, 2) := by decide +kernel
theorem dX10_mayBe_9 : decode cX10_mayBe 9 = .ok (.iload_n 2, 1) := by decide +kernel
theorem dX10_mayBe_10 : decode cX10_mayBe 10 = .ok (.imul, 1) := by decide +kernel
theorem dX10_mayBe_11 : decode cX10_mayBe 11 = .ok (.bipush 64, 2) := by decide +kernel
theorem dX10_mayBe_13 : decode cX10_mayBe 13 = .ok (.iload_n 3, 1) := by decide +kernel
theorem dX10_mayBe_14 : decode cX10_mayBe 14 = .ok (.imul, 1) := by decide +kernel
theorem dX10_mayBe_15 : decode cX10_mayBe 15 = .ok (.invokevirtual 74, 3) := by decide +kernel
theorem dX10_mayBe_18 : decode cX10_mayBe 18 = .ok (.ifCond .eq 29, 3) := by decide +kernel
theorem dX10_mayBe_21 : decode cX10_mayBe 21 = .ok (.aload_n 0, 1) := by decide +kernel
theorem dX10_mayBe_22 : decode cX10_mayBe 22 = .ok (.iload_n 1, 1) := by decide +kernel
theorem dX10_mayBe_23 : decode cX10_mayBe 23 = .ok (.bipush 64, 2) := by decide +kernel
theorem dX10_mayBe_25 : decode cX10_mayBe 25 = .ok (.iload_n 2, 1) := by decide +kernel
theorem dX10_mayBe_26 : decode cX10_mayBe 26 = .ok (.iload 5, 2) := by decide +kernel
theorem dX10_mayBe_28 : decode cX10_mayBe 28 = .ok (.iadd, 1) := by decide +kernel
theorem dX10_mayBe_29 : decode cX10_mayBe 29 = .ok (.imul, 1) := by decide +kernel
theorem dX10_mayBe_30 : decode cX10_mayBe 30 = .ok (.bipush 64, 2) := by decide +kernel
theorem dX10_mayBe_32 : decode cX10_mayBe 32 = .ok (.iload_n 3, 1) := by decide +kernel
theorem dX10_mayBe_33 : decode cX10_mayBe 33 = .ok (.iload 6, 2) := by decide +kernel
theorem dX10_mayBe_35 : decode cX10_mayBe 35 = .ok (.iadd, 1) := by decide +kernel
theorem dX10_mayBe_36 : decode cX10_mayBe 36 = .ok (.imul, 1) := by decide +kernel
theorem dX10_mayBe_37 : decode cX10_mayBe 37 = .ok (.invokevirtual 74, 3) := by decide +kernel
theorem dX10_mayBe_40 : decode cX10_mayBe 40 = .ok (.ifCond .eq 7, 3) := by decide +kernel
theorem dX10_mayBe_43 : decode cX10_mayBe 43 = .ok (.iconst 1, 1) := by decide +kernel
theorem dX10_mayBe_44 : decode cX10_mayBe 44 = .ok (.goto 4, 3) := by decide +kernel
theorem dX10_mayBe_47 : decode cX10_mayBe 47 = .ok (.iconst 0, 1) := by decide +kernel
theorem dX10_mayBe_48 : decode cX10_mayBe 48 = .ok (.istore 7, 2) := by decide +kernel
theorem dX10_mayBe_50 : decode cX10_mayBe 50 = .ok (.iload 4, 2) := by decide +kernel
theorem dX10_mayBe_52 : decode cX10_mayBe 52 = .ok (.aload_n 0, 1) := by decide +kernel
theorem dX10_mayBe_53 : decode cX10_mayBe 53 = .ok (.iload_n 1, 1) := by decide +kernel
theorem dX10_mayBe_54 : decode cX10_mayBe 54 = .ok (.iconst 3, 1) := by decide +kernel
theorem dX10_mayBe_55 : decode cX10_mayBe 55 = .ok (.invokevirtual 58, 3) := by decide +kernel
theorem dX10_mayBe_58 : decode cX10_mayBe 58 = .ok (.if_icmp .ge 8, 3) := by decide +kernel
theorem dX10_mayBe_61 : decode cX10_mayBe 61 = .ok (.iload 7, 2) := by decide +kernel
theorem dX10_mayBe_63 : decode cX10_mayBe 63 = .ok (.ifCond .ne 5, 3) := by decide +kernel
theorem dX10_mayBe_66 : decode cX10_mayBe 66 = .ok (.iconst 0, 1) := by decide +kernel
theorem dX10_mayBe_67 : decode cX10_mayBe 67 = .ok (.ireturn, 1) := by decide +kernel
theorem dX10_mayBe_68 : decode cX10_mayBe 68 = .ok (.iconst 0, 1) := by decide +kernel
theorem dX10_mayBe_69 : decode cX10_mayBe 69 = .ok (.istore 7, 2) := by decide +kernel
theorem dX10_mayBe_71 : decode cX10_mayBe 71 = .ok (.iload 7, 2) := by decide +kernel
theorem dX10_mayBe_73 : decode cX10_mayBe 73 = .ok (.aload_n 0, 1) := by decide +kernel
theorem dX10_mayBe_74 : decode cX10_mayBe 74 = .ok (.getfield 7, 3) := by decide +kernel
theorem dX10_mayBe_77 : decode cX10_mayBe 77 = .ok (.iconst 0, 1) := by decide +kernel
theorem dX10_mayBe_78 : decode cX10_mayBe 78 = .ok (.iaload, 1) := by decide +kernel
theorem dX10_mayBe_79 : decode cX10_mayBe 79 = .ok (.if_icmp .ge 37, 3) := by decide +kernel
theorem dX10_mayBe_82 : decode cX10_mayBe 82 = .ok (.aload_n 0, 1) := by decide +kernel
theorem dX10_mayBe_83 : decode cX10_mayBe 83 = .ok (.iload 7, 2) := by decide +kernel
theorem dX10_mayBe_85 : decode cX10_mayBe 85 = .ok (.iconst 0, 1) := by decide +kernel
theorem dX10_mayBe_86 : decode cX10_mayBe 86 = .ok (.invokevirtual 58, 3) := by decide +kernel
theorem dX10_mayBe_89 : decode cX10_mayBe 89 = .ok (.iload_n 1, 1) := by decide +kernel
theorem dX10_mayBe_90 : decode cX10_mayBe 90 = .ok (.if_icmp .ne 20, 3) := by decide +kernel
theorem dX10_mayBe_93 : decode cX10_mayBe 93 = .ok (.aload_n 0, 1) := by decide +kernel
theorem dX10_mayBe_94 : decode cX10_mayBe 94 = .ok (.iload 7, 2) := by decide +kernel
theorem dX10_mayBe_96 : decode cX10_mayBe 96 = .ok (.iload_n 2, 1) := by decide +kernel
theorem dX10_mayBe_97 : decode cX10_mayBe 97 = .ok (.iload_n 3, 1) := by decide +kernel
theorem dX10_mayBe_98 : decode cX10_mayBe 98 = .ok (.iload 5, 2) := by decide +kernel
theorem dX10_mayBe_100 : decode cX10_mayBe 100 = .ok (.iload 6, 2) := by decide +kernel
theorem dX10_mayBe_102 : decode cX10_mayBe 102 = .ok (.invokevirtual 207, 3) := by decide +kernel
theorem dX10_mayBe_105 : decode cX10_mayBe 105 = .ok (.ifCond .eq 5, 3) := by decide +kernel
theorem dX10_mayBe_108 : decode cX10_mayBe 108 = .ok (.iconst 0, 1) := by decide +kernel
theorem dX10_mayBe_109 : decode cX10_mayBe 109 = .ok (.ireturn, 1) := by decide +kernel
theorem dX10_mayBe_110 : decode cX10_mayBe 110 = .ok (.iinc 7 1, 3) := by decide +kernel
theorem dX10_mayBe_113 : decode cX10_mayBe 113 = .ok (.goto (-42), 3) := by decide +kernel
theorem dX10_mayBe_116 : decode cX10_mayBe 116 = .ok (.iconst 1, 1) := by decide +kernel
theorem dX10_mayBe_117 : decode cX10_mayBe 117 = .ok (.ireturn, 1) := by decide +kernel
theorem dX10_grid_0 : decode cX10_grid 0 = .ok (.aload_n 0, 1) := by decide +kernel
theorem dX10_grid_1 : decode cX10_grid 1 = .ok (.iconst 0, 1) := by decide +kernel
theorem dX10_grid_2 : decode cX10_grid 2 = .ok (.putfield 46, 3) := by decide +kernel
theorem dX10_grid_5 : decode cX10_grid 5 = .ok (.iload_n 1, 1) := by decide +kernel
theorem dX10_grid_6 : decode cX10_grid 6 = .ok (.iconst (-1), 1) := by decide +kernel
theorem dX10_grid_7 : decode cX10_grid 7 = .ok (.if_icmp .eq 14, 3) := by decide +kernel
theorem dX10_grid_10 : decode cX10_grid 10 = .ok (.aload_n 0, 1) := by decide +kernel
theorem dX10_grid_11 : decode cX10_grid 11 = .ok (.iload_n 1, 1) := by decide +kernel
theorem dX10_grid_12 : decode cX10_grid 12 = .ok (.invokevirtual 54, 3) := by decide +kernel
theorem dX10_grid_15 : decode cX10_grid 15 = .ok (.ifCond .ne 6, 3) := by decide +kernel
theorem dX10_grid_18 : decode cX10_grid 18 = .ok (.ldc 170, 2) := by decide +kernel
theorem dX10_grid_20 : decode cX10_grid 20 = .ok (.ireturn, 1) := by decide +kernel
theorem dX10_grid_21 : decode cX10_grid 21 = .ok (.iload_n 2, 1) := by decide +kernel
theorem dX10_grid_22 : decode cX10_grid 22 = .ok (.i2l, 1) := by decide +kernel
theorem dX10_grid_23 : decode cX10_grid 23 = .ok (.lconst 0, 1) := by decide +kernel
theorem dX10_grid_24 : decode cX10_grid 24 = .ok (.ldc2_w 211, 3) := by decide +kernel
theorem dX10_grid_27 : decode cX10_grid 27 = .ok (.invokestatic 50, 3) := by decide +kernel
theorem dX10_grid_30 : decode cX10_grid 30 = .ok (.ifCond .eq 58, 3) := by decide +kernel
theorem dX10_grid_33 : decode cX10_grid 33 = .ok (.iload_n 3, 1) := by decide +kernel
theorem dX10_grid_34 : decode cX10_grid 34 = .ok (.i2l, 1) := by decide +kernel
theorem dX10_grid_35 : decode cX10_grid 35 = .ok (.lconst 0, 1) := by decide +kernel
theorem dX10_grid_36 : decode cX10_grid 36 = .ok (.ldc2_w 211, 3) := by decide +kernel
theorem dX10_grid_39 : decode cX10_grid 39 = .ok (.invokestatic 50, 3) := by decide +kernel
theorem dX10_grid_42 : decode cX10_grid 42 = .ok (.ifCond .eq 46, 3) := by decide +kernel
theorem dX10_grid_45 : decode cX10_grid 45 = .ok (.iload 4, 2) := by decide +kernel
theorem dX10_grid_47 : decode cX10_grid 47 = .ok (.i2l, 1) := by decide +kernel
theorem dX10_grid_48 : decode cX10_grid 48 = .ok (.lconst 1, 1) := by decide +kernel
theorem dX10_grid_49 : decode cX10_grid 49 = .ok (.ldc2_w 213, 3) := by decide +kernel
theorem dX10_grid_52 : decode cX10_grid 52 = .ok (.invokestatic 50, 3) := by decide +kernel
theorem dX10_grid_55 : decode cX10_grid 55 = .ok (.ifCond .eq 33, 3) := by decide +kernel
theorem dX10_grid_58 : decode cX10_grid 58 = .ok (.iload 5, 2) := by decide +kernel
theorem dX10_grid_60 : decode cX10_grid 60 = .ok (.i2l, 1) := by decide +kernel
theorem dX10_grid_61 : decode cX10_grid 61 = .ok (.ldc2_w 81, 3) := by decide +kernel
theorem dX10_grid_64 : decode cX10_grid 64 = .ok (.ldc2_w 215, 3) := by decide +kernel
theorem dX10_grid_67 : decode cX10_grid 67 = .ok (.invokestatic 50, 3) := by decide +kernel
theorem dX10_grid_70 : decode cX10_grid 70 = .ok (.ifCond .eq 18, 3) := by decide +kernel
theorem dX10_grid_73 : decode cX10_grid 73 = .ok (.iload 6, 2) := by decide +kernel
theorem dX10_grid_75 : decode cX10_grid 75 = .ok (.i2l, 1) := by decide +kernel
theorem dX10_grid_76 : decode cX10_grid 76 = .ok (.ldc2_w 81, 3) := by decide +kernel
theorem dX10_grid_79 : decode cX10_grid 79 = .ok (.ldc2_w 215, 3) := by decide +kernel
theorem dX10_grid_82 : decode cX10_grid 82 = .ok (.invokestatic 50, 3) := by decide +kernel
theorem dX10_grid_85 : decode cX10_grid 85 = .ok (.ifCond .ne 6, 3) := by decide +kernel
theorem dX10_grid_88 : decode cX10_grid 88 = .ok (.ldc 169, 2) := by decide +kernel
theorem dX10_grid_90 : decode cX10_grid 90 = .ok (.ireturn, 1) := by decide +kernel
theorem dX10_grid_91 : decode cX10_grid 91 = .ok (.iload 5, 2) := by decide +kernel
theorem dX10_grid_93 : decode cX10_grid 93 = .ok (.iconst 1, 1) := by decide +kernel
theorem dX10_grid_94 : decode cX10_grid 94 = .ok (.isub, 1) := by decide +kernel
theorem dX10_grid_95 : decode cX10_grid 95 = .ok (.iload 4, 2) := by decide +kernel
theorem dX10_grid_97 : decode cX10_grid 97 = .ok (.imul, 1) := by decide +kernel
theorem dX10_grid_98 : decode cX10_grid 98 = .ok (.istore 7, 2) := by decide +kernel
theorem dX10_grid_100 : decode cX10_grid 100 = .ok (.iload 6, 2) := by decide +kernel
theorem dX10_grid_102 : decode cX10_grid 102 = .ok (.iconst 1, 1) := by decide +kernel
theorem dX10_grid_103 : decode cX10_grid 103 = .ok (.isub, 1) := by decide +kernel
theorem dX10_grid_104 : decode cX10_grid 104 = .ok (.iload 4, 2) := by decide +kernel
theorem dX10_grid_106 : decode cX10_grid 106 = .ok (.imul, 1) := by decide +kernel
theorem dX10_grid_107 : decode cX10_grid 107 = .ok (.istore 8, 2) := by decide +kernel
theorem dX10_grid_109 : decode cX10_grid 109 = .ok (.iload_n 2, 1) := by decide +kernel
theorem dX10_grid_110 : decode cX10_grid 110 = .ok (.iload 7, 2) := by decide +kernel
theorem dX10_grid_112 : decode cX10_grid 112 = .ok (.iadd, 1) := by decide +kernel
theorem dX10_grid_113 : decode cX10_grid 113 = .ok (.sipush 1000, 3) := by decide +kernel
theorem dX10_grid_116 : decode cX10_grid 116 = .ok (.if_icmp .gt 13, 3) := by decide +kernel
theorem dX10_grid_119 : decode cX10_grid 119 = .ok (.iload_n 3, 1) := by decide +kernel
theorem dX10_grid_120 : decode cX10_grid 120 = .ok (.iload 8, 2) := by decide +kernel
theorem dX10_grid_122 : decode cX10_grid 122 = .ok (.iadd, 1) := by decide +kernel
theorem dX10_grid_123 : decode cX10_grid 123 = .ok (.sipush 1000, 3) := by decide +kernel
theorem dX10_grid_126 : decode cX10_grid 126 = .ok (.if_icmp .le 6, 3) := by decide +kernel
theorem dX10_grid_129 : decode cX10_grid 129 = .ok (.ldc 169, 2) := by decide +kernel
theorem dX10_grid_131 : decode cX10_grid 131 = .ok (.ireturn, 1) := by decide +kernel
theorem dX10_grid_132 : decode cX10_grid 132 = .ok (.aload_n 0, 1) := by decide +kernel
theorem dX10_grid_133 : decode cX10_grid 133 = .ok (.iload_n 1, 1) := by decide +kernel
theorem dX10_grid_134 : decode cX10_grid 134 = .ok (.iload_n 2, 1) := by decide +kernel
theorem dX10_grid_135 : decode cX10_grid 135 = .ok (.iload_n 3, 1) := by decide +kernel
theorem dX10_grid_136 : decode cX10_grid 136 = .ok (.iload 4, 2) := by decide +kernel
theorem dX10_grid_138 : decode cX10_grid 138 = .ok (.iload 7, 2) := by decide +kernel
theorem dX10_grid_140 : decode cX10_grid 140 = .ok (.iload 8, 2) := by decide +kernel
theorem dX10_grid_142 : decode cX10_grid 142 = .ok (.invokevirtual 217, 3) := by decide +kernel
theorem dX10_grid_145 : decode cX10_grid 145 = .ok (.ifCond .ne 6, 3) := by decide +kernel
theorem dX10_grid_148 : decode cX10_grid 148 = .ok (.ldc 221, 2) := by decide +kernel
theorem dX10_grid_150 : decode cX10_grid 150 = .ok (.ireturn, 1) := by decide +kernel
theorem dX10_grid_151 : decode cX10_grid 151 = .ok (.aload_n 0, 1) := by decide +kernel
theorem dX10_grid_152 : decode cX10_grid 152 = .ok (.getfield 7, 3) := by decide +kernel
theorem dX10_grid_155 : decode cX10_grid 155 = .ok (.iconst 0, 1) := by decide +kernel
theorem dX10_grid_156 : decode cX10_grid 156 = .ok (.iaload, 1) := by decide +kernel
theorem dX10_grid_157 : decode cX10_grid 157 = .ok (.bipush 6, 2) := by decide +kernel
theorem dX10_grid_159 : decode cX10_grid 159 = .ok (.if_icmp .ne 6, 3) := by decide +kernel
theorem dX10_grid_162 : decode cX10_grid 162 = .ok (.ldc 222, 2) := by decide +kernel
theorem dX10_grid_164 : decode cX10_grid 164 = .ok (.ireturn, 1) := by decide +kernel
theorem dX10_grid_165 : decode cX10_grid 165 = .ok (.aload_n 0, 1) := by decide +kernel
theorem dX10_grid_166 : decode cX10_grid 166 = .ok (.invokevirtual 223, 3) := by decide +kernel
theorem dX10_grid_169 : decode cX10_grid 169 = .ok (.aload_n 0, 1) := by decide +kernel
theorem dX10_grid_170 : decode cX10_grid 170 = .ok (.getfield 7, 3) := by decide +kernel
theorem dX10_grid_173 : decode cX10_grid 173 = .ok (.iconst 0, 1) := by decide +kernel
theorem dX10_grid_174 : decode cX10_grid 174 = .ok (.iaload, 1) := by decide +kernel
theorem dX10_grid_175 : decode cX10_grid 175 = .ok (.istore 9, 2) := by decide +kernel
theorem dX10_grid_177 : decode cX10_grid 177 = .ok (.aload_n 0, 1) := by decide +kernel
theorem dX10_grid_178 : decode cX10_grid 178 = .ok (.getfield 7, 3) := by decide +kernel
theorem dX10_grid_181 : decode cX10_grid 181 = .ok (.iconst 0, 1) := by decide +kernel
theorem dX10_grid_182 : decode cX10_grid 182 = .ok (.dup2, 1) := by decide +kernel
theorem dX10_grid_183 : decode cX10_grid 183 = .ok (.iaload, 1) := by decide +kernel
theorem dX10_grid_184 : decode cX10_grid 184 = .ok (.iconst 1, 1) := by decide +kernel
theorem dX10_grid_185 : decode cX10_grid 185 = .ok (.iadd, 1) := by decide +kernel
theorem dX10_grid_186 : decode cX10_grid 186 = .ok (.iastore, 1) := by decide +kernel
theorem dX10_grid_187 : decode cX10_grid 187 = .ok (.aload_n 0, 1) := by decide +kernel
theorem dX10_grid_188 : decode cX10_grid 188 = .ok (.getfield 7, 3) := by decide +kernel
theorem dX10_grid_191 : decode cX10_grid 191 = .ok (.iconst 2, 1) := by decide +kernel
theorem dX10_grid_192 : decode cX10_grid 192 = .ok (.bipush 6, 2) := by decide +kernel
theorem dX10_grid_194 : decode cX10_grid 194 = .ok (.iload 9, 2) := by decide +kernel
theorem dX10_grid_196 : decode cX10_grid 196 = .ok (.imul, 1) := by decide +kernel
theorem dX10_grid_197 : decode cX10_grid 197 = .ok (.iadd, 1) := by decide +kernel
theorem dX10_grid_198 : decode cX10_grid 198 = .ok (.iconst 0, 1) := by decide +kernel
theorem dX10_grid_199 : decode cX10_grid 199 = .ok (.iadd, 1) := by decide +kernel
theorem dX10_grid_200 : decode cX10_grid 200 = .ok (.iload_n 1, 1) := by decide +kernel
theorem dX10_grid_201 : decode cX10_grid 201 = .ok (.iastore, 1) := by decide +kernel
theorem dX10_grid_202 : decode cX10_grid 202 = .ok (.aload_n 0, 1) := by decide +kernel
theorem dX10_grid_203 : decode cX10_grid 203 = .ok (.getfield 7, 3) := by decide +kernel
theorem dX10_grid_206 : decode cX10_grid 206 = .ok (.iconst 2, 1) := by decide +kernel
theorem dX10_grid_207 : decode cX10_grid 207 = .ok (.bipush 6, 2) := by decide +kernel
theorem dX10_grid_209 : decode cX10_grid 209 = .ok (.iload 9, 2) := by decide +kernel
theorem dX10_grid_211 : decode cX10_grid 211 = .ok (.imul, 1) := by decide +kernel
theorem dX10_grid_212 : decode cX10_grid 212 = .ok (.iadd, 1) := by decide +kernel
theorem dX10_grid_213 : decode cX10_grid 213 = .ok (.iconst 1, 1) := by decide +kernel
theorem dX10_grid_214 : decode cX10_grid 214 = .ok (.iadd, 1) := by decide +kernel
theorem dX10_grid_215 : decode cX10_grid 215 = .ok (.iload_n 2, 1) := by decide +kernel
theorem dX10_grid_216 : decode cX10_grid 216 = .ok (.iastore, 1) := by decide +kernel
theorem dX10_grid_217 : decode cX10_grid 217 = .ok (.aload_n 0, 1) := by decide +kernel
theorem dX10_grid_218 : decode cX10_grid 218 = .ok (.getfield 7, 3) := by decide +kernel
theorem dX10_grid_221 : decode cX10_grid 221 = .ok (.iconst 2, 1) := by decide +kernel
theorem dX10_grid_222 : decode cX10_grid 222 = .ok (.bipush 6, 2) := by decide +kernel
theorem dX10_grid_224 : decode cX10_grid 224 = .ok (.iload 9, 2) := by decide +kernel
theorem dX10_grid_226 : decode cX10_grid 226 = .ok (.imul, 1) := by decide +kernel
theorem dX10_grid_227 : decode cX10_grid 227 = .ok (.iadd, 1) := by decide +kernel
theorem dX10_grid_228 : decode cX10_grid 228 = .ok (.iconst 2, 1) := by decide +kernel
theorem dX10_grid_229 : decode cX10_grid 229 = .ok (.iadd, 1) := by decide +kernel
theorem dX10_grid_230 : decode cX10_grid 230 = .ok (.iload_n 3, 1) := by decide +kernel
theorem dX10_grid_231 : decode cX10_grid 231 = .ok (.iastore, 1) := by decide +kernel
theorem dX10_grid_232 : decode cX10_grid 232 = .ok (.aload_n 0, 1) := by decide +kernel
theorem dX10_grid_233 : decode cX10_grid 233 = .ok (.getfield 7, 3) := by decide +kernel
theorem dX10_grid_236 : decode cX10_grid 236 = .ok (.iconst 2, 1) := by decide +kernel
theorem dX10_grid_237 : decode cX10_grid 237 = .ok (.bipush 6, 2) := by decide +kernel
theorem dX10_grid_239 : decode cX10_grid 239 = .ok (.iload 9, 2) := by decide +kernel
theorem dX10_grid_241 : decode cX10_grid 241 = .ok (.imul, 1) := by decide +kernel
theorem dX10_grid_242 : decode cX10_grid 242 = .ok (.iadd, 1) := by decide +kernel
theorem dX10_grid_243 : decode cX10_grid 243 = .ok (.iconst 3, 1) := by decide +kernel
theorem dX10_grid_244 : decode cX10_grid 244 = .ok (.iadd, 1) := by decide +kernel
theorem dX10_grid_245 : decode cX10_grid 245 = .ok (.iload 4, 2) := by decide +kernel
theorem dX10_grid_247 : decode cX10_grid 247 = .ok (.iastore, 1) := by decide +kernel
theorem dX10_grid_248 : decode cX10_grid 248 = .ok (.aload_n 0, 1) := by decide +kernel
theorem dX10_grid_249 : decode cX10_grid 249 = .ok (.getfield 7, 3) := by decide +kernel
theorem dX10_grid_252 : decode cX10_grid 252 = .ok (.iconst 2, 1) := by decide +kernel
theorem dX10_grid_253 : decode cX10_grid 253 = .ok (.bipush 6, 2) := by decide +kernel
theorem dX10_grid_255 : decode cX10_grid 255 = .ok (.iload 9, 2) := by decide +kernel
theorem dX10_grid_257 : decode cX10_grid 257 = .ok (.imul, 1) := by decide +kernel
theorem dX10_grid_258 : decode cX10_grid 258 = .ok (.iadd, 1) := by decide +kernel
theorem dX10_grid_259 : decode cX10_grid 259 = .ok (.iconst 4, 1) := by decide +kernel
theorem dX10_grid_260 : decode cX10_grid 260 = .ok (.iadd, 1) := by decide +kernel
theorem dX10_grid_261 : decode cX10_grid 261 = .ok (.iload 5, 2) := by decide +kernel
theorem dX10_grid_263 : decode cX10_grid 263 = .ok (.iastore, 1) := by decide +kernel
theorem dX10_grid_264 : decode cX10_grid 264 = .ok (.aload_n 0, 1) := by decide +kernel
theorem dX10_grid_265 : decode cX10_grid 265 = .ok (.getfield 7, 3) := by decide +kernel
theorem dX10_grid_268 : decode cX10_grid 268 = .ok (.iconst 2, 1) := by decide +kernel
theorem dX10_grid_269 : decode cX10_grid 269 = .ok (.bipush 6, 2) := by decide +kernel
theorem dX10_grid_271 : decode cX10_grid 271 = .ok (.iload 9, 2) := by decide +kernel
theorem dX10_grid_273 : decode cX10_grid 273 = .ok (.imul, 1) := by decide +kernel
theorem dX10_grid_274 : decode cX10_grid 274 = .ok (.iadd, 1) := by decide +kernel
theorem dX10_grid_275 : decode cX10_grid 275 = .ok (.iconst 5, 1) := by decide +kernel
theorem dX10_grid_276 : decode cX10_grid 276 = .ok (.iadd, 1) := by decide +kernel
theorem dX10_grid_277 : decode cX10_grid 277 = .ok (.iload 6, 2) := by decide +kernel
theorem dX10_grid_279 : decode cX10_grid 279 = .ok (.iastore, 1) := by decide +kernel
theorem dX10_grid_280 : decode cX10_grid 280 = .ok (.iconst 0, 1) := by decide +kernel
theorem dX10_grid_281 : decode cX10_grid 281 = .ok (.istore 10, 2) := by decide +kernel
theorem dX10_grid_283 : decode cX10_grid 283 = .ok (.iload 10, 2) := by decide +kernel
theorem dX10_grid_285 : decode cX10_grid 285 = .ok (.bipush 50, 2) := by decide +kernel
theorem dX10_grid_287 : decode cX10_grid 287 = .ok (.if_icmp .ge 26, 3) := by decide +kernel
theorem dX10_grid_290 : decode cX10_grid 290 = .ok (.aload_n 0, 1) := by decide +kernel
theorem dX10_grid_291 : decode cX10_grid 291 = .ok (.getfield 7, 3) := by decide +kernel
theorem dX10_grid_294 : decode cX10_grid 294 = .ok (.bipush 38, 2) := by decide +kernel
theorem dX10_grid_296 : decode cX10_grid 296 = .ok (.bipush 50, 2) := by decide +kernel
theorem dX10_grid_298 : decode cX10_grid 298 = .ok (.iload 9, 2) := by decide +kernel
theorem dX10_grid_300 : decode cX10_grid 300 = .ok (.imul, 1) := by decide +kernel
theorem dX10_grid_301 : decode cX10_grid 301 = .ok (.iadd, 1) := by decide +kernel
theorem dX10_grid_302 : decode cX10_grid 302 = .ok (.iload 10, 2) := by decide +kernel
theorem dX10_grid_304 : decode cX10_grid 304 = .ok (.iadd, 1) := by decide +kernel
theorem dX10_grid_305 : decode cX10_grid 305 = .ok (.iconst 0, 1) := by decide +kernel
theorem dX10_grid_306 : decode cX10_grid 306 = .ok (.iastore, 1) := by decide +kernel
theorem dX10_grid_307 : decode cX10_grid 307 = .ok (.iinc 10 1, 3) := by decide +kernel
theorem dX10_grid_310 : decode cX10_grid 310 = .ok (.goto (-27), 3) := by decide +kernel
theorem dX10_grid_313 : decode cX10_grid 313 = .ok (.iload 9, 2) := by decide +kernel
theorem dX10_grid_315 : decode cX10_grid 315 = .ok (.ireturn, 1) := by decide +kernel
theorem dX10_isOffset_0 : decode cX10_isOffset 0 = .ok (.iload_n 0, 1) := by decide +kernel
theorem dX10_isOffset_1 : decode cX10_isOffset 1 = .ok (.i2l, 1) := by decide +kernel
theorem dX10_isOffset_2 : decode cX10_isOffset 2 = .ok (.ldc2_w 226, 3) := by decide +kernel
theorem dX10_isOffset_5 : decode cX10_isOffset 5 = .ok (.ldc2_w 228, 3) := by decide +kernel
theorem dX10_isOffset_8 : decode cX10_isOffset 8 = .ok (.invokestatic 50, 3) := by decide +kernel
theorem dX10_isOffset_11 : decode cX10_isOffset 11 = .ok (.ifCond .eq 21, 3) := by decide +kernel
theorem dX10_isOffset_14 : decode cX10_isOffset 14 = .ok (.iload_n 1, 1) := by decide +kernel
theorem dX10_isOffset_15 : decode cX10_isOffset 15 = .ok (.i2l, 1) := by decide +kernel
theorem dX10_isOffset_16 : decode cX10_isOffset 16 = .ok (.ldc2_w 226, 3) := by decide +kernel
theorem dX10_isOffset_19 : decode cX10_isOffset 19 = .ok (.ldc2_w 228, 3) := by decide +kernel
theorem dX10_isOffset_22 : decode cX10_isOffset 22 = .ok (.invokestatic 50, 3) := by decide +kernel
theorem dX10_isOffset_25 : decode cX10_isOffset 25 = .ok (.ifCond .eq 7, 3) := by decide +kernel
theorem dX10_isOffset_28 : decode cX10_isOffset 28 = .ok (.iconst 1, 1) := by decide +kernel
theorem dX10_isOffset_29 : decode cX10_isOffset 29 = .ok (.goto 4, 3) := by decide +kernel
theorem dX10_isOffset_32 : decode cX10_isOffset 32 = .ok (.iconst 0, 1) := by decide +kernel
theorem dX10_isOffset_33 : decode cX10_isOffset 33 = .ok (.ireturn, 1) := by decide +kernel
theorem dX10_sets_0 : decode cX10_sets 0 = .ok (.iload_n 1, 1) := by decide +kernel
theorem dX10_sets_1 : decode cX10_sets 1 = .ok (.iload_n 2, 1) := by decide +kernel
theorem dX10_sets_2 : decode cX10_sets 2 = .ok (.iload_n 3, 1) := by decide +kernel
theorem dX10_sets_3 : decode cX10_sets 3 = .ok (.invokestatic 62, 3) := by decide +kernel
theorem dX10_sets_6 : decode cX10_sets 6 = .ok (.istore 6, 2) := by decide +kernel
theorem dX10_sets_8 : decode cX10_sets 8 = .ok (.aload_n 0, 1) := by decide +kernel
theorem dX10_sets_9 : decode cX10_sets 9 = .ok (.getfield 7, 3) := by decide +kernel
theorem dX10_sets_12 : decode cX10_sets 12 = .ok (.iload 6, 2) := by decide +kernel
theorem dX10_sets_14 : decode cX10_sets 14 = .ok (.iaload, 1) := by decide +kernel
theorem dX10_sets_15 : decode cX10_sets 15 = .ok (.iload 4, 2) := by decide +kernel
theorem dX10_sets_17 : decode cX10_sets 17 = .ok (.if_icmp .ne 17, 3) := by decide +kernel
theorem dX10_sets_20 : decode cX10_sets 20 = .ok (.aload_n 0, 1) := by decide +kernel
theorem dX10_sets_21 : decode cX10_sets 21 = .ok (.getfield 7, 3) := by decide +kernel
theorem dX10_sets_24 : decode cX10_sets 24 = .ok (.iload 6, 2) := by decide +kernel
theorem dX10_sets_26 : decode cX10_sets 26 = .ok (.iconst 1, 1) := by decide +kernel
theorem dX10_sets_27 : decode cX10_sets 27 = .ok (.iadd, 1) := by decide +kernel
theorem dX10_sets_28 : decode cX10_sets 28 = .ok (.iaload, 1) := by decide +kernel
theorem dX10_sets_29 : decode cX10_sets 29 = .ok (.iload 5, 2) := by decide +kernel
theorem dX10_sets_31 : decode cX10_sets 31 = .ok (.if_icmp .eq 7, 3) := by decide +kernel
theorem dX10_sets_34 : decode cX10_sets 34 = .ok (.iconst 1, 1) := by decide +kernel
theorem dX10_sets_35 : decode cX10_sets 35 = .ok (.goto 4, 3) := by decide +kernel
theorem dX10_sets_38 : decode cX10_sets 38 = .ok (.iconst 0, 1) := by decide +kernel
theorem dX10_sets_39 : decode cX10_sets 39 = .ok (.istore 7, 2) := by decide +kernel
theorem dX10_sets_41 : decode cX10_sets 41 = .ok (.aload_n 0, 1) := by decide +kernel
theorem dX10_sets_42 : decode cX10_sets 42 = .ok (.getfield 7, 3) := by decide +kernel
theorem dX10_sets_45 : decode cX10_sets 45 = .ok (.iload 6, 2) := by decide +kernel
theorem dX10_sets_47 : decode cX10_sets 47 = .ok (.iload 4, 2) := by decide +kernel
theorem dX10_sets_49 : decode cX10_sets 49 = .ok (.iastore, 1) := by decide +kernel
theorem dX10_sets_50 : decode cX10_sets 50 = .ok (.aload_n 0, 1) := by decide +kernel
theorem dX10_sets_51 : decode cX10_sets 51 = .ok (.getfield 7, 3) := by decide +kernel
theorem dX10_sets_54 : decode cX10_sets 54 = .ok (.iload 6, 2) := by decide +kernel
theorem dX10_sets_56 : decode cX10_sets 56 = .ok (.iconst 1, 1) := by decide +kernel
theorem dX10_sets_57 : decode cX10_sets 57 = .ok (.iadd, 1) := by decide +kernel
theorem dX10_sets_58 : decode cX10_sets 58 = .ok (.iload 5, 2) := by decide +kernel
theorem dX10_sets_60 : decode cX10_sets 60 = .ok (.iastore, 1) := by decide +kernel
theorem dX10_sets_61 : decode cX10_sets 61 = .ok (.iload 7, 2) := by decide +kernel
theorem dX10_sets_63 : decode cX10_sets 63 = .ok (.ifCond .eq 7, 3) := by decide +kernel
theorem dX10_sets_66 : decode cX10_sets 66 = .ok (.iconst 1, 1) := by decide +kernel
theorem dX10_sets_67 : decode cX10_sets 67 = .ok (.goto 4, 3) := by decide +kernel
theorem dX10_sets_70 : decode cX10_sets 70 = .ok (.iconst 0, 1) := by decide +kernel
theorem dX10_sets_71 : decode cX10_sets 71 = .ok (.ireturn, 1) := by decide +kernel
theorem dX10_node_0 : decode cX10_node 0 = .ok (.aload_n 0, 1) := by decide +kernel
theorem dX10_node_1 : decode cX10_node 1 = .ok (.iconst 0, 1) := by decide +kernel
theorem dX10_node_2 : decode cX10_node 2 = .ok (.putfield 46, 3) := by decide +kernel
theorem dX10_node_5 : decode cX10_node 5 = .ok (.aload_n 0, 1) := by decide +kernel
theorem dX10_node_6 : decode cX10_node 6 = .ok (.iload_n 1, 1) := by decide +kernel
theorem dX10_node_7 : decode cX10_node 7 = .ok (.iload_n 2, 1) := by decide +kernel
theorem dX10_node_8 : decode cX10_node 8 = .ok (.iload_n 3, 1) := by decide +kernel
theorem dX10_node_9 : decode cX10_node 9 = .ok (.invokevirtual 179, 3) := by decide +kernel
theorem dX10_node_12 : decode cX10_node 12 = .ok (.ifCond .ne 6, 3) := by decide +kernel
theorem dX10_node_15 : decode cX10_node 15 = .ok (.ldc 170, 2) := by decide +kernel
theorem dX10_node_17 : decode cX10_node 17 = .ok (.ireturn, 1) := by decide +kernel
theorem dX10_node_18 : decode cX10_node 18 = .ok (.iload 4, 2) := by decide +kernel
theorem dX10_node_20 : decode cX10_node 20 = .ok (.iload 5, 2) := by decide +kernel
theorem dX10_node_22 : decode cX10_node 22 = .ok (.invokestatic 230, 3) := by decide +kernel
theorem dX10_node_25 : decode cX10_node 25 = .ok (.ifCond .ne 6, 3) := by decide +kernel
theorem dX10_node_28 : decode cX10_node 28 = .ok (.ldc 169, 2) := by decide +kernel
theorem dX10_node_30 : decode cX10_node 30 = .ok (.ireturn, 1) := by decide +kernel
theorem dX10_node_31 : decode cX10_node 31 = .ok (.aload_n 0, 1) := by decide +kernel
theorem dX10_node_32 : decode cX10_node 32 = .ok (.invokevirtual 223, 3) := by decide +kernel
theorem dX10_node_35 : decode cX10_node 35 = .ok (.aload_n 0, 1) := by decide +kernel
theorem dX10_node_36 : decode cX10_node 36 = .ok (.iload_n 1, 1) := by decide +kernel
theorem dX10_node_37 : decode cX10_node 37 = .ok (.iload_n 2, 1) := by decide +kernel
theorem dX10_node_38 : decode cX10_node 38 = .ok (.iload_n 3, 1) := by decide +kernel
theorem dX10_node_39 : decode cX10_node 39 = .ok (.iload 4, 2) := by decide +kernel
theorem dX10_node_41 : decode cX10_node 41 = .ok (.iload 5, 2) := by decide +kernel
theorem dX10_node_43 : decode cX10_node 43 = .ok (.invokevirtual 233, 3) := by decide +kernel
theorem dX10_node_46 : decode cX10_node 46 = .ok (.ireturn, 1) := by decide +kernel
theorem dX10_fill_0 : decode cX10_fill 0 = .ok (.aload_n 0, 1) := by decide +kernel
theorem dX10_fill_1 : decode cX10_fill 1 = .ok (.iconst 0, 1) := by decide +kernel
theorem dX10_fill_2 : decode cX10_fill 2 = .ok (.putfield 46, 3) := by decide +kernel
theorem dX10_fill_5 : decode cX10_fill 5 = .ok (.aload_n 0, 1) := by decide +kernel
theorem dX10_fill_6 : decode cX10_fill 6 = .ok (.iload_n 1, 1) := by decide +kernel
theorem dX10_fill_7 : decode cX10_fill 7 = .ok (.invokevirtual 54, 3) := by decide +kernel
theorem dX10_fill_10 : decode cX10_fill 10 = .ok (.ifCond .ne 6, 3) := by decide +kernel
theorem dX10_fill_13 : decode cX10_fill 13 = .ok (.ldc 170, 2) := by decide +kernel
theorem dX10_fill_15 : decode cX10_fill 15 = .ok (.ireturn, 1) := by decide +kernel
theorem dX10_fill_16 : decode cX10_fill 16 = .ok (.iload_n 2, 1) := by decide +kernel
theorem dX10_fill_17 : decode cX10_fill 17 = .ok (.iload_n 3, 1) := by decide +kernel
theorem dX10_fill_18 : decode cX10_fill 18 = .ok (.invokestatic 230, 3) := by decide +kernel
theorem dX10_fill_21 : decode cX10_fill 21 = .ok (.ifCond .ne 6, 3) := by decide +kernel
theorem dX10_fill_24 : decode cX10_fill 24 = .ok (.ldc 169, 2) := by decide +kernel
theorem dX10_fill_26 : decode cX10_fill 26 = .ok (.ireturn, 1) := by decide +kernel
theorem dX10_fill_27 : decode cX10_fill 27 = .ok (.aload_n 0, 1) := by decide +kernel
theorem dX10_fill_28 : decode cX10_fill 28 = .ok (.invokevirtual 223, 3) := by decide +kernel
theorem dX10_fill_31 : decode cX10_fill 31 = .ok (.iconst 0, 1) := by decide +kernel
theorem dX10_fill_32 : decode cX10_fill 32 = .ok (.istore 4, 2) := by decide +kernel
theorem dX10_fill_34 : decode cX10_fill 34 = .ok (.iconst 0, 1) := by decide +kernel
theorem dX10_fill_35 : decode cX10_fill 35 = .ok (.istore 5, 2) := by decide +kernel
theorem dX10_fill_37 : decode cX10_fill 37 = .ok (.iload 5, 2) := by decide +kernel
theorem dX10_fill_39 : decode cX10_fill 39 = .ok (.aload_n 0, 1) := by decide +kernel
theorem dX10_fill_40 : decode cX10_fill 40 = .ok (.iload_n 1, 1) := by decide +kernel
theorem dX10_fill_41 : decode cX10_fill 41 = .ok (.iconst 4, 1) := by decide +kernel
theorem dX10_fill_42 : decode cX10_fill 42 = .ok (.invokevirtual 58, 3) := by decide +kernel
theorem dX10_fill_45 : decode cX10_fill 45 = .ok (.aload_n 0, 1) := by decide +kernel
theorem dX10_fill_46 : decode cX10_fill 46 = .ok (.iload_n 1, 1) := by decide +kernel
theorem dX10_fill_47 : decode cX10_fill 47 = .ok (.iconst 5, 1) := by decide +kernel
theorem dX10_fill_48 : decode cX10_fill 48 = .ok (.invokevirtual 58, 3) := by decide +kernel
theorem dX10_fill_51 : decode cX10_fill 51 = .ok (.imul, 1) := by decide +kernel
theorem dX10_fill_52 : decode cX10_fill 52 = .ok (.if_icmp .ge 39, 3) := by decide +kernel
theorem dX10_fill_55 : decode cX10_fill 55 = .ok (.iload 4, 2) := by decide +kernel
theorem dX10_fill_57 : decode cX10_fill 57 = .ok (.aload_n 0, 1) := by decide +kernel
theorem dX10_fill_58 : decode cX10_fill 58 = .ok (.iload_n 1, 1) := by decide +kernel
theorem dX10_fill_59 : decode cX10_fill 59 = .ok (.iload 5, 2) := by decide +kernel
theorem dX10_fill_61 : decode cX10_fill 61 = .ok (.aload_n 0, 1) := by decide +kernel
theorem dX10_fill_62 : decode cX10_fill 62 = .ok (.iload_n 1, 1) := by decide +kernel
theorem dX10_fill_63 : decode cX10_fill 63 = .ok (.iconst 4, 1) := by decide +kernel
theorem dX10_fill_64 : decode cX10_fill 64 = .ok (.invokevirtual 58, 3) := by decide +kernel
theorem dX10_fill_67 : decode cX10_fill 67 = .ok (.irem, 1) := by decide +kernel
theorem dX10_fill_68 : decode cX10_fill 68 = .ok (.iload 5, 2) := by decide +kernel
theorem dX10_fill_70 : decode cX10_fill 70 = .ok (.aload_n 0, 1) := by decide +kernel
theorem dX10_fill_71 : decode cX10_fill 71 = .ok (.iload_n 1, 1) := by decide +kernel
theorem dX10_fill_72 : decode cX10_fill 72 = .ok (.iconst 4, 1) := by decide +kernel
theorem dX10_fill_73 : decode cX10_fill 73 = .ok (.invokevirtual 58, 3) := by decide +kernel
theorem dX10_fill_76 : decode cX10_fill 76 = .ok (.idiv, 1) := by decide +kernel
theorem dX10_fill_77 : decode cX10_fill 77 = .ok (.iload_n 2, 1) := by decide +kernel
theorem dX10_fill_78 : decode cX10_fill 78 = .ok (.iload_n 3, 1) := by decide +kernel
theorem dX10_fill_79 : decode cX10_fill 79 = .ok (.invokevirtual 233, 3) := by decide +kernel
theorem dX10_fill_82 : decode cX10_fill 82 = .ok (.iadd, 1) := by decide +kernel
theorem dX10_fill_83 : decode cX10_fill 83 = .ok (.istore 4, 2) := by decide +kernel
theorem dX10_fill_85 : decode cX10_fill 85 = .ok (.iinc 5 1, 3) := by decide +kernel
theorem dX10_fill_88 : decode cX10_fill 88 = .ok (.goto (-51), 3) := by decide +kernel
theorem dX10_fill_91 : decode cX10_fill 91 = .ok (.iload 4, 2) := by decide +kernel
theorem dX10_fill_93 : decode cX10_fill 93 = .ok (.ireturn, 1) := by decide +kernel
theorem dX10_fit_0 : decode cX10_fit 0 = .ok (.aload_n 0, 1) := by decide +kernel
theorem dX10_fit_1 : decode cX10_fit 1 = .ok (.iconst 0, 1) := by decide +kernel
theorem dX10_fit_2 : decode cX10_fit 2 = .ok (.putfield 46, 3) := by decide +kernel
theorem dX10_fit_5 : decode cX10_fit 5 = .ok (.aload_n 0, 1) := by decide +kernel
theorem dX10_fit_6 : decode cX10_fit 6 = .ok (.iload_n 1, 1) := by decide +kernel
theorem dX10_fit_7 : decode cX10_fit 7 = .ok (.invokevirtual 54, 3) := by decide +kernel
theorem dX10_fit_10 : decode cX10_fit 10 = .ok (.ifCond .ne 6, 3) := by decide +kernel
theorem dX10_fit_13 : decode cX10_fit 13 = .ok (.ldc 170, 2) := by decide +kernel
theorem dX10_fit_15 : decode cX10_fit 15 = .ok (.ireturn, 1) := by decide +kernel
theorem dX10_fit_16 : decode cX10_fit 16 = .ok (.aload_n 0, 1) := by decide +kernel
theorem dX10_fit_17 : decode cX10_fit 17 = .ok (.iload_n 1, 1) := by decide +kernel
theorem dX10_fit_18 : decode cX10_fit 18 = .ok (.iconst 0, 1) := by decide +kernel
theorem dX10_fit_19 : decode cX10_fit 19 = .ok (.invokevirtual 58, 3) := by decide +kernel
theorem dX10_fit_22 : decode cX10_fit 22 = .ok (.iconst (-1), 1) := by decide +kernel
theorem dX10_fit_23 : decode cX10_fit 23 = .ok (.if_icmp .ne 6, 3) := by decide +kernel
theorem dX10_fit_26 : decode cX10_fit 26 = .ok (.ldc 221, 2) := by decide +kernel
theorem dX10_fit_28 : decode cX10_fit 28 = .ok (.ireturn, 1) := by decide +kernel
theorem dX10_fit_29 : decode cX10_fit 29 = .ok (.aload_n 0, 1) := by decide +kernel
theorem dX10_fit_30 : decode cX10_fit 30 = .ok (.invokevirtual 223, 3) := by decide +kernel
theorem dX10_fit_33 : decode cX10_fit 33 = .ok (.iconst 0, 1) := by decide +kernel
theorem dX10_fit_34 : decode cX10_fit 34 = .ok (.istore_n 2, 1) := by decide +kernel
theorem dX10_fit_35 : decode cX10_fit 35 = .ok (.iconst 0, 1) := by decide +kernel
theorem dX10_fit_36 : decode cX10_fit 36 = .ok (.istore_n 3, 1) := by decide +kernel
theorem dX10_fit_37 : decode cX10_fit 37 = .ok (.iload_n 3, 1) := by decide +kernel
theorem dX10_fit_38 : decode cX10_fit 38 = .ok (.aload_n 0, 1) := by decide +kernel
theorem dX10_fit_39 : decode cX10_fit 39 = .ok (.iload_n 1, 1) := by decide +kernel
theorem dX10_fit_40 : decode cX10_fit 40 = .ok (.iconst 4, 1) := by decide +kernel
theorem dX10_fit_41 : decode cX10_fit 41 = .ok (.invokevirtual 58, 3) := by decide +kernel
theorem dX10_fit_44 : decode cX10_fit 44 = .ok (.aload_n 0, 1) := by decide +kernel
theorem dX10_fit_45 : decode cX10_fit 45 = .ok (.iload_n 1, 1) := by decide +kernel
theorem dX10_fit_46 : decode cX10_fit 46 = .ok (.iconst 5, 1) := by decide +kernel
theorem dX10_fit_47 : decode cX10_fit 47 = .ok (.invokevirtual 58, 3) := by decide +kernel
theorem dX10_fit_50 : decode cX10_fit 50 = .ok (.imul, 1) := by decide +kernel
theorem dX10_fit_51 : decode cX10_fit 51 = .ok (.if_icmp .ge 73, 3) := by decide +kernel
theorem dX10_fit_54 : decode cX10_fit 54 = .ok (.iload_n 3, 1) := by decide +kernel
theorem dX10_fit_55 : decode cX10_fit 55 = .ok (.aload_n 0, 1) := by decide +kernel
theorem dX10_fit_56 : decode cX10_fit 56 = .ok (.iload_n 1, 1) := by decide +kernel
theorem dX10_fit_57 : decode cX10_fit 57 = .ok (.iconst 4, 1) := by decide +kernel
theorem dX10_fit_58 : decode cX10_fit 58 = .ok (.invokevirtual 58, 3) := by decide +kernel
theorem dX10_fit_61 : decode cX10_fit 61 = .ok (.irem, 1) := by decide +kernel
theorem dX10_fit_62 : decode cX10_fit 62 = .ok (.istore 4, 2) := by decide +kernel
theorem dX10_fit_64 : decode cX10_fit 64 = .ok (.iload_n 3, 1) := by decide +kernel
theorem dX10_fit_65 : decode cX10_fit 65 = .ok (.aload_n 0, 1) := by decide +kernel
theorem dX10_fit_66 : decode cX10_fit 66 = .ok (.iload_n 1, 1) := by decide +kernel
theorem dX10_fit_67 : decode cX10_fit 67 = .ok (.iconst 4, 1) := by decide +kernel
theorem dX10_fit_68 : decode cX10_fit 68 = .ok (.invokevirtual 58, 3) := by decide +kernel
theorem dX10_fit_71 : decode cX10_fit 71 = .ok (.idiv, 1) := by decide +kernel
theorem dX10_fit_72 : decode cX10_fit 72 = .ok (.istore 5, 2) := by decide +kernel
theorem dX10_fit_74 : decode cX10_fit 74 = .ok (.aload_n 0, 1) := by decide +kernel
theorem dX10_fit_75 : decode cX10_fit 75 = .ok (.iload_n 1, 1) := by decide +kernel
theorem dX10_fit_76 : decode cX10_fit 76 = .ok (.iload 4, 2) := by decide +kernel
theorem dX10_fit_78 : decode cX10_fit 78 = .ok (.iload 5, 2) := by decide +kernel
theorem dX10_fit_80 : decode cX10_fit 80 = .ok (.invokevirtual 117, 3) := by decide +kernel
theorem dX10_fit_83 : decode cX10_fit 83 = .ok (.ifCond .eq 35, 3) := by decide +kernel
theorem dX10_fit_86 : decode cX10_fit 86 = .ok (.iload_n 2, 1) := by decide +kernel
theorem dX10_fit_87 : decode cX10_fit 87 = .ok (.aload_n 0, 1) := by decide +kernel
theorem dX10_fit_88 : decode cX10_fit 88 = .ok (.iload_n 1, 1) := by decide +kernel
theorem dX10_fit_89 : decode cX10_fit 89 = .ok (.iload 4, 2) := by decide +kernel
theorem dX10_fit_91 : decode cX10_fit 91 = .ok (.iload 5, 2) := by decide +kernel
theorem dX10_fit_93 : decode cX10_fit 93 = .ok (.aload_n 0, 1) := by decide +kernel
theorem dX10_fit_94 : decode cX10_fit 94 = .ok (.iload_n 1, 1) := by decide +kernel
theorem dX10_fit_95 : decode cX10_fit 95 = .ok (.iload 4, 2) := by decide +kernel
theorem dX10_fit_97 : decode cX10_fit 97 = .ok (.iload 5, 2) := by decide +kernel
theorem dX10_fit_99 : decode cX10_fit 99 = .ok (.iconst 0, 1) := by decide +kernel
theorem dX10_fit_100 : decode cX10_fit 100 = .ok (.invokevirtual 101, 3) := by decide +kernel
theorem dX10_fit_103 : decode cX10_fit 103 = .ok (.aload_n 0, 1) := by decide +kernel
theorem dX10_fit_104 : decode cX10_fit 104 = .ok (.iload_n 1, 1) := by decide +kernel
theorem dX10_fit_105 : decode cX10_fit 105 = .ok (.iload 4, 2) := by decide +kernel
theorem dX10_fit_107 : decode cX10_fit 107 = .ok (.iload 5, 2) := by decide +kernel
theorem dX10_fit_109 : decode cX10_fit 109 = .ok (.iconst 1, 1) := by decide +kernel
theorem dX10_fit_110 : decode cX10_fit 110 = .ok (.invokevirtual 101, 3) := by decide +kernel
theorem dX10_fit_113 : decode cX10_fit 113 = .ok (.invokevirtual 233, 3) := by decide +kernel
theorem dX10_fit_116 : decode cX10_fit 116 = .ok (.iadd, 1) := by decide +kernel
theorem dX10_fit_117 : decode cX10_fit 117 = .ok (.istore_n 2, 1) := by decide +kernel
theorem dX10_fit_118 : decode cX10_fit 118 = .ok (.iinc 3 1, 3) := by decide +kernel
theorem dX10_fit_121 : decode cX10_fit 121 = .ok (.goto (-84), 3) := by decide +kernel
theorem dX10_fit_124 : decode cX10_fit 124 = .ok (.iload_n 2, 1) := by decide +kernel
theorem dX10_fit_125 : decode cX10_fit 125 = .ok (.ireturn, 1) := by decide +kernel
theorem dX10_drop_0 : decode cX10_drop 0 = .ok (.aload_n 0, 1) := by decide +kernel
theorem dX10_drop_1 : decode cX10_drop 1 = .ok (.iconst 0, 1) := by decide +kernel
theorem dX10_drop_2 : decode cX10_drop 2 = .ok (.putfield 46, 3) := by decide +kernel
theorem dX10_drop_5 : decode cX10_drop 5 = .ok (.aload_n 0, 1) := by decide +kernel
theorem dX10_drop_6 : decode cX10_drop 6 = .ok (.iload_n 1, 1) := by decide +kernel
theorem dX10_drop_7 : decode cX10_drop 7 = .ok (.invokevirtual 54, 3) := by decide +kernel
theorem dX10_drop_10 : decode cX10_drop 10 = .ok (.ifCond .ne 6, 3) := by decide +kernel
theorem dX10_drop_13 : decode cX10_drop 13 = .ok (.ldc 170, 2) := by decide +kernel
theorem dX10_drop_15 : decode cX10_drop 15 = .ok (.ireturn, 1) := by decide +kernel
theorem dX10_drop_16 : decode cX10_drop 16 = .ok (.aload_n 0, 1) := by decide +kernel
theorem dX10_drop_17 : decode cX10_drop 17 = .ok (.iload_n 1, 1) := by decide +kernel
theorem dX10_drop_18 : decode cX10_drop 18 = .ok (.invokevirtual 173, 3) := by decide +kernel
theorem dX10_drop_21 : decode cX10_drop 21 = .ok (.ifCond .le 6, 3) := by decide +kernel
theorem dX10_drop_24 : decode cX10_drop 24 = .ok (.ldc 221, 2) := by decide +kernel
theorem dX10_drop_26 : decode cX10_drop 26 = .ok (.ireturn, 1) := by decide +kernel
theorem dX10_drop_27 : decode cX10_drop 27 = .ok (.aload_n 0, 1) := by decide +kernel
theorem dX10_drop_28 : decode cX10_drop 28 = .ok (.invokevirtual 223, 3) := by decide +kernel
theorem dX10_drop_31 : decode cX10_drop 31 = .ok (.aload_n 0, 1) := by decide +kernel
theorem dX10_drop_32 : decode cX10_drop 32 = .ok (.getfield 7, 3) := by decide +kernel
theorem dX10_drop_35 : decode cX10_drop 35 = .ok (.iconst 0, 1) := by decide +kernel
theorem dX10_drop_36 : decode cX10_drop 36 = .ok (.dup2, 1) := by decide +kernel
theorem dX10_drop_37 : decode cX10_drop 37 = .ok (.iaload, 1) := by decide +kernel
theorem dX10_drop_38 : decode cX10_drop 38 = .ok (.iconst 1, 1) := by decide +kernel
theorem dX10_drop_39 : decode cX10_drop 39 = .ok (.isub, 1) := by decide +kernel
theorem dX10_drop_40 : decode cX10_drop 40 = .ok (.iastore, 1) := by decide +kernel
theorem dX10_drop_41 : decode cX10_drop 41 = .ok (.iload_n 1, 1) := by decide +kernel
theorem dX10_drop_42 : decode cX10_drop 42 = .ok (.istore_n 2, 1) := by decide +kernel
theorem dX10_drop_43 : decode cX10_drop 43 = .ok (.iload_n 2, 1) := by decide +kernel
theorem dX10_drop_44 : decode cX10_drop 44 = .ok (.aload_n 0, 1) := by decide +kernel
theorem dX10_drop_45 : decode cX10_drop 45 = .ok (.getfield 7, 3) := by decide +kernel
theorem dX10_drop_48 : decode cX10_drop 48 = .ok (.iconst 0, 1) := by decide +kernel
theorem dX10_drop_49 : decode cX10_drop 49 = .ok (.iaload, 1) := by decide +kernel
theorem dX10_drop_50 : decode cX10_drop 50 = .ok (.if_icmp .ge 97, 3) := by decide +kernel
theorem dX10_drop_53 : decode cX10_drop 53 = .ok (.iconst 0, 1) := by decide +kernel
theorem dX10_drop_54 : decode cX10_drop 54 = .ok (.istore_n 3, 1) := by decide +kernel
theorem dX10_drop_55 : decode cX10_drop 55 = .ok (.iload_n 3, 1) := by decide +kernel
theorem dX10_drop_56 : decode cX10_drop 56 = .ok (.bipush 6, 2) := by decide +kernel
theorem dX10_drop_58 : decode cX10_drop 58 = .ok (.if_icmp .ge 38, 3) := by decide +kernel
theorem dX10_drop_61 : decode cX10_drop 61 = .ok (.aload_n 0, 1) := by decide +kernel
theorem dX10_drop_62 : decode cX10_drop 62 = .ok (.getfield 7, 3) := by decide +kernel
theorem dX10_drop_65 : decode cX10_drop 65 = .ok (.iconst 2, 1) := by decide +kernel
theorem dX10_drop_66 : decode cX10_drop 66 = .ok (.bipush 6, 2) := by decide +kernel
theorem dX10_drop_68 : decode cX10_drop 68 = .ok (.iload_n 2, 1) := by decide +kernel
theorem dX10_drop_69 : decode cX10_drop 69 = .ok (.imul, 1) := by decide +kernel
theorem dX10_drop_70 : decode cX10_drop 70 = .ok (.iadd, 1) := by decide +kernel
theorem dX10_drop_71 : decode cX10_drop 71 = .ok (.iload_n 3, 1) := by decide +kernel
theorem dX10_drop_72 : decode cX10_drop 72 = .ok (.iadd, 1) := by decide +kernel
theorem dX10_drop_73 : decode cX10_drop 73 = .ok (.aload_n 0, 1) := by decide +kernel
theorem dX10_drop_74 : decode cX10_drop 74 = .ok (.getfield 7, 3) := by decide +kernel
theorem dX10_drop_77 : decode cX10_drop 77 = .ok (.iconst 2, 1) := by decide +kernel
theorem dX10_drop_78 : decode cX10_drop 78 = .ok (.bipush 6, 2) := by decide +kernel
theorem dX10_drop_80 : decode cX10_drop 80 = .ok (.iload_n 2, 1) := by decide +kernel
theorem dX10_drop_81 : decode cX10_drop 81 = .ok (.imul, 1) := by decide +kernel
theorem dX10_drop_82 : decode cX10_drop 82 = .ok (.iadd, 1) := by decide +kernel
theorem dX10_drop_83 : decode cX10_drop 83 = .ok (.bipush 6, 2) := by decide +kernel
theorem dX10_drop_85 : decode cX10_drop 85 = .ok (.iadd, 1) := by decide +kernel
theorem dX10_drop_86 : decode cX10_drop 86 = .ok (.iload_n 3, 1) := by decide +kernel
theorem dX10_drop_87 : decode cX10_drop 87 = .ok (.iadd, 1) := by decide +kernel
theorem dX10_drop_88 : decode cX10_drop 88 = .ok (.iaload, 1) := by decide +kernel
theorem dX10_drop_89 : decode cX10_drop 89 = .ok (.iastore, 1) := by decide +kernel
theorem dX10_drop_90 : decode cX10_drop 90 = .ok (.iinc 3 1, 3) := by decide +kernel
theorem dX10_drop_93 : decode cX10_drop 93 = .ok (.goto (-38), 3) := by decide +kernel
theorem dX10_drop_96 : decode cX10_drop 96 = .ok (.iconst 0, 1) := by decide +kernel
theorem dX10_drop_97 : decode cX10_drop 97 = .ok (.istore_n 3, 1) := by decide +kernel
theorem dX10_drop_98 : decode cX10_drop 98 = .ok (.iload_n 3, 1) := by decide +kernel
theorem dX10_drop_99 : decode cX10_drop 99 = .ok (.bipush 50, 2) := by decide +kernel
theorem dX10_drop_101 : decode cX10_drop 101 = .ok (.if_icmp .ge 40, 3) := by decide +kernel
theorem dX10_drop_104 : decode cX10_drop 104 = .ok (.aload_n 0, 1) := by decide +kernel
theorem dX10_drop_105 : decode cX10_drop 105 = .ok (.getfield 7, 3) := by decide +kernel
theorem dX10_drop_108 : decode cX10_drop 108 = .ok (.bipush 38, 2) := by decide +kernel
theorem dX10_drop_110 : decode cX10_drop 110 = .ok (.bipush 50, 2) := by decide +kernel
theorem dX10_drop_112 : decode cX10_drop 112 = .ok (.iload_n 2, 1) := by decide +kernel
theorem dX10_drop_113 : decode cX10_drop 113 = .ok (.imul, 1) := by decide +kernel
theorem dX10_drop_114 : decode cX10_drop 114 = .ok (.iadd, 1) := by decide +kernel
theorem dX10_drop_115 : decode cX10_drop 115 = .ok (.iload_n 3, 1) := by decide +kernel
theorem dX10_drop_116 : decode cX10_drop 116 = .ok (.iadd, 1) := by decide +kernel
theorem dX10_drop_117 : decode cX10_drop 117 = .ok (.aload_n 0, 1) := by decide +kernel
theorem dX10_drop_118 : decode cX10_drop 118 = .ok (.getfield 7, 3) := by decide +kernel
theorem dX10_drop_121 : decode cX10_drop 121 = .ok (.bipush 38, 2) := by decide +kernel
theorem dX10_drop_123 : decode cX10_drop 123 = .ok (.bipush 50, 2) := by decide +kernel
theorem dX10_drop_125 : decode cX10_drop 125 = .ok (.iload_n 2, 1) := by decide +kernel
theorem dX10_drop_126 : decode cX10_drop 126 = .ok (.imul, 1) := by decide +kernel
theorem dX10_drop_127 : decode cX10_drop 127 = .ok (.iadd, 1) := by decide +kernel
theorem dX10_drop_128 : decode cX10_drop 128 = .ok (.bipush 50, 2) := by decide +kernel
theorem dX10_drop_130 : decode cX10_drop 130 = .ok (.iadd, 1) := by decide +kernel
theorem dX10_drop_131 : decode cX10_drop 131 = .ok (.iload_n 3, 1) := by decide +kernel
theorem dX10_drop_132 : decode cX10_drop 132 = .ok (.iadd, 1) := by decide +kernel
theorem dX10_drop_133 : decode cX10_drop 133 = .ok (.iaload, 1) := by decide +kernel
theorem dX10_drop_134 : decode cX10_drop 134 = .ok (.iastore, 1) := by decide +kernel
theorem dX10_drop_135 : decode cX10_drop 135 = .ok (.iinc 3 1, 3) := by decide +kernel
theorem dX10_drop_138 : decode cX10_drop 138 = .ok (.goto (-40), 3) := by decide +kernel
theorem dX10_drop_141 : decode cX10_drop 141 = .ok (.iinc 2 1, 3) := by decide +kernel
theorem dX10_drop_144 : decode cX10_drop 144 = .ok (.goto (-101), 3) := by decide +kernel
theorem dX10_drop_147 : decode cX10_drop 147 = .ok (.iconst 0, 1) := by decide +kernel
theorem dX10_drop_148 : decode cX10_drop 148 = .ok (.istore_n 2, 1) := by decide +kernel
theorem dX10_drop_149 : decode cX10_drop 149 = .ok (.iload_n 2, 1) := by decide +kernel
theorem dX10_drop_150 : decode cX10_drop 150 = .ok (.aload_n 0, 1) := by decide +kernel
theorem dX10_drop_151 : decode cX10_drop 151 = .ok (.getfield 7, 3) := by decide +kernel
theorem dX10_drop_154 : decode cX10_drop 154 = .ok (.iconst 0, 1) := by decide +kernel
theorem dX10_drop_155 : decode cX10_drop 155 = .ok (.iaload, 1) := by decide +kernel
theorem dX10_drop_156 : decode cX10_drop 156 = .ok (.if_icmp .ge 40, 3) := by decide +kernel
theorem dX10_drop_159 : decode cX10_drop 159 = .ok (.aload_n 0, 1) := by decide +kernel
theorem dX10_drop_160 : decode cX10_drop 160 = .ok (.getfield 7, 3) := by decide +kernel
theorem dX10_drop_163 : decode cX10_drop 163 = .ok (.iconst 2, 1) := by decide +kernel
theorem dX10_drop_164 : decode cX10_drop 164 = .ok (.bipush 6, 2) := by decide +kernel
theorem dX10_drop_166 : decode cX10_drop 166 = .ok (.iload_n 2, 1) := by decide +kernel
theorem dX10_drop_167 : decode cX10_drop 167 = .ok (.imul, 1) := by decide +kernel
theorem dX10_drop_168 : decode cX10_drop 168 = .ok (.iadd, 1) := by decide +kernel
theorem dX10_drop_169 : decode cX10_drop 169 = .ok (.iconst 0, 1) := by decide +kernel
theorem dX10_drop_170 : decode cX10_drop 170 = .ok (.iadd, 1) := by decide +kernel
theorem dX10_drop_171 : decode cX10_drop 171 = .ok (.dup2, 1) := by decide +kernel
theorem dX10_drop_172 : decode cX10_drop 172 = .ok (.iaload, 1) := by decide +kernel
theorem dX10_drop_173 : decode cX10_drop 173 = .ok (.aload_n 0, 1) := by decide +kernel
theorem dX10_drop_174 : decode cX10_drop 174 = .ok (.iload_n 2, 1) := by decide +kernel
theorem dX10_drop_175 : decode cX10_drop 175 = .ok (.iconst 0, 1) := by decide +kernel
theorem dX10_drop_176 : decode cX10_drop 176 = .ok (.invokevirtual 58, 3) := by decide +kernel
theorem dX10_drop_179 : decode cX10_drop 179 = .ok (.iload_n 1, 1) := by decide +kernel
theorem dX10_drop_180 : decode cX10_drop 180 = .ok (.if_icmp .le 7, 3) := by decide +kernel
theorem dX10_drop_183 : decode cX10_drop 183 = .ok (.iconst 1, 1) := by decide +kernel
theorem dX10_drop_184 : decode cX10_drop 184 = .ok (.goto 4, 3) := by decide +kernel
theorem dX10_drop_187 : decode cX10_drop 187 = .ok (.iconst 0, 1) := by decide +kernel
theorem dX10_drop_188 : decode cX10_drop 188 = .ok (.isub, 1) := by decide +kernel
theorem dX10_drop_189 : decode cX10_drop 189 = .ok (.iastore, 1) := by decide +kernel
theorem dX10_drop_190 : decode cX10_drop 190 = .ok (.iinc 2 1, 3) := by decide +kernel
theorem dX10_drop_193 : decode cX10_drop 193 = .ok (.goto (-44), 3) := by decide +kernel
theorem dX10_drop_196 : decode cX10_drop 196 = .ok (.aload_n 0, 1) := by decide +kernel
theorem dX10_drop_197 : decode cX10_drop 197 = .ok (.getfield 7, 3) := by decide +kernel
theorem dX10_drop_200 : decode cX10_drop 200 = .ok (.iconst 0, 1) := by decide +kernel
theorem dX10_drop_201 : decode cX10_drop 201 = .ok (.iaload, 1) := by decide +kernel
theorem dX10_drop_202 : decode cX10_drop 202 = .ok (.ireturn, 1) := by decide +kernel
theorem dX10_rule_0 : decode cX10_rule 0 = .ok (.aload_n 0, 1) := by decide +kernel
theorem dX10_rule_1 : decode cX10_rule 1 = .ok (.iconst 0, 1) := by decide +kernel
theorem dX10_rule_2 : decode cX10_rule 2 = .ok (.putfield 46, 3) := by decide +kernel
theorem dX10_rule_5 : decode cX10_rule 5 = .ok (.iload_n 1, 1) := by decide +kernel
theorem dX10_rule_6 : decode cX10_rule 6 = .ok (.i2l, 1) := by decide +kernel
theorem dX10_rule_7 : decode cX10_rule 7 = .ok (.lconst 0, 1) := by decide +kernel
theorem dX10_rule_8 : decode cX10_rule 8 = .ok (.ldc2_w 81, 3) := by decide +kernel
theorem dX10_rule_11 : decode cX10_rule 11 = .ok (.invokestatic 50, 3) := by decide +kernel
theorem dX10_rule_14 : decode cX10_rule 14 = .ok (.ifCond .ne 6, 3) := by decide +kernel
theorem dX10_rule_17 : decode cX10_rule 17 = .ok (.ldc 169, 2) := by decide +kernel
theorem dX10_rule_19 : decode cX10_rule 19 = .ok (.ireturn, 1) := by decide +kernel
theorem dX10_rule_20 : decode cX10_rule 20 = .ok (.aload_n 0, 1) := by decide +kernel
theorem dX10_rule_21 : decode cX10_rule 21 = .ok (.invokevirtual 223, 3) := by decide +kernel
theorem dX10_rule_24 : decode cX10_rule 24 = .ok (.aload_n 0, 1) := by decide +kernel
theorem dX10_rule_25 : decode cX10_rule 25 = .ok (.getfield 7, 3) := by decide +kernel
theorem dX10_rule_28 : decode cX10_rule 28 = .ok (.iconst 1, 1) := by decide +kernel
theorem dX10_rule_29 : decode cX10_rule 29 = .ok (.iaload, 1) := by decide +kernel
theorem dX10_rule_30 : decode cX10_rule 30 = .ok (.istore_n 2, 1) := by decide +kernel
theorem dX10_rule_31 : decode cX10_rule 31 = .ok (.aload_n 0, 1) := by decide +kernel
theorem dX10_rule_32 : decode cX10_rule 32 = .ok (.getfield 7, 3) := by decide +kernel
theorem dX10_rule_35 : decode cX10_rule 35 = .ok (.iconst 1, 1) := by decide +kernel
theorem dX10_rule_36 : decode cX10_rule 36 = .ok (.iload_n 1, 1) := by decide +kernel
theorem dX10_rule_37 : decode cX10_rule 37 = .ok (.iastore, 1) := by decide +kernel
theorem dX10_rule_38 : decode cX10_rule 38 = .ok (.iload_n 2, 1) := by decide +kernel
theorem dX10_rule_39 : decode cX10_rule 39 = .ok (.ireturn, 1) := by decide +kernel
theorem dX10_draw_0 : decode cX10_draw 0 = .ok (.aload_n 0, 1) := by decide +kernel
theorem dX10_draw_1 : decode cX10_draw 1 = .ok (.aload_n 0, 1) := by decide +kernel
theorem dX10_draw_2 : decode cX10_draw 2 = .ok (.getfield 42, 3) := by decide +kernel
theorem dX10_draw_5 : decode cX10_draw 5 = .ok (.ldc2_w 237, 3) := by decide +kernel
theorem dX10_draw_8 : decode cX10_draw 8 = .ok (.lmul, 1) := by decide +kernel
theorem dX10_draw_9 : decode cX10_draw 9 = .ok (.ldc2_w 239, 3) := by decide +kernel
theorem dX10_draw_12 : decode cX10_draw 12 = .ok (.ladd, 1) := by decide +kernel
theorem dX10_draw_13 : decode cX10_draw 13 = .ok (.ldc2_w 241, 3) := by decide +kernel
theorem dX10_draw_16 : decode cX10_draw 16 = .ok (.land, 1) := by decide +kernel
theorem dX10_draw_17 : decode cX10_draw 17 = .ok (.putfield 42, 3) := by decide +kernel
theorem dX10_draw_20 : decode cX10_draw 20 = .ok (.aload_n 0, 1) := by decide +kernel
theorem dX10_draw_21 : decode cX10_draw 21 = .ok (.getfield 42, 3) := by decide +kernel
theorem dX10_draw_24 : decode cX10_draw 24 = .ok (.ldc2_w 243, 3) := by decide +kernel
theorem dX10_draw_27 : decode cX10_draw 27 = .ok (.ldiv, 1) := by decide +kernel
theorem dX10_draw_28 : decode cX10_draw 28 = .ok (.iload_n 1, 1) := by decide +kernel
theorem dX10_draw_29 : decode cX10_draw 29 = .ok (.i2l, 1) := by decide +kernel
theorem dX10_draw_30 : decode cX10_draw 30 = .ok (.lrem, 1) := by decide +kernel
theorem dX10_draw_31 : decode cX10_draw 31 = .ok (.l2i, 1) := by decide +kernel
theorem dX10_draw_32 : decode cX10_draw 32 = .ok (.ireturn, 1) := by decide +kernel
theorem dX10_drift_0 : decode cX10_drift 0 = .ok (.aload_n 0, 1) := by decide +kernel
theorem dX10_drift_1 : decode cX10_drift 1 = .ok (.iconst 0, 1) := by decide +kernel
theorem dX10_drift_2 : decode cX10_drift 2 = .ok (.putfield 46, 3) := by decide +kernel
theorem dX10_drift_5 : decode cX10_drift 5 = .ok (.iload_n 1, 1) := by decide +kernel
theorem dX10_drift_6 : decode cX10_drift 6 = .ok (.i2l, 1) := by decide +kernel
theorem dX10_drift_7 : decode cX10_drift 7 = .ok (.lconst 1, 1) := by decide +kernel
theorem dX10_drift_8 : decode cX10_drift 8 = .ok (.ldc2_w 245, 3) := by decide +kernel
theorem dX10_drift_11 : decode cX10_drift 11 = .ok (.invokestatic 50, 3) := by decide +kernel
theorem dX10_drift_14 : decode cX10_drift 14 = .ok (.ifCond .ne 6, 3) := by decide +kernel
theorem dX10_drift_17 : decode cX10_drift 17 = .ok (.ldc 169, 2) := by decide +kernel
theorem dX10_drift_19 : decode cX10_drift 19 = .ok (.ireturn, 1) := by decide +kernel
theorem dX10_drift_20 : decode cX10_drift 20 = .ok (.aload_n 0, 1) := by decide +kernel
theorem dX10_drift_21 : decode cX10_drift 21 = .ok (.getfield 7, 3) := by decide +kernel
theorem dX10_drift_24 : decode cX10_drift 24 = .ok (.iconst 0, 1) := by decide +kernel
theorem dX10_drift_25 : decode cX10_drift 25 = .ok (.iaload, 1) := by decide +kernel
theorem dX10_drift_26 : decode cX10_drift 26 = .ok (.ifCond .ne 6, 3) := by decide +kernel
theorem dX10_drift_29 : decode cX10_drift 29 = .ok (.ldc 221, 2) := by decide +kernel
theorem dX10_drift_31 : decode cX10_drift 31 = .ok (.ireturn, 1) := by decide +kernel
theorem dX10_drift_32 : decode cX10_drift 32 = .ok (.iconst 0, 1) := by decide +kernel
theorem dX10_drift_33 : decode cX10_drift 33 = .ok (.istore_n 2, 1) := by decide +kernel
theorem dX10_drift_34 : decode cX10_drift 34 = .ok (.iload_n 2, 1) := by decide +kernel
theorem dX10_drift_35 : decode cX10_drift 35 = .ok (.iload_n 1, 1) := by decide +kernel
theorem dX10_drift_36 : decode cX10_drift 36 = .ok (.if_icmp .ge 84, 3) := by decide +kernel
theorem dX10_drift_39 : decode cX10_drift 39 = .ok (.aload_n 0, 1) := by decide +kernel
theorem dX10_drift_40 : decode cX10_drift 40 = .ok (.invokevirtual 223, 3) := by decide +kernel
theorem dX10_drift_43 : decode cX10_drift 43 = .ok (.aload_n 0, 1) := by decide +kernel
theorem dX10_drift_44 : decode cX10_drift 44 = .ok (.aload_n 0, 1) := by decide +kernel
theorem dX10_drift_45 : decode cX10_drift 45 = .ok (.getfield 7, 3) := by decide +kernel
theorem dX10_drift_48 : decode cX10_drift 48 = .ok (.iconst 0, 1) := by decide +kernel
theorem dX10_drift_49 : decode cX10_drift 49 = .ok (.iaload, 1) := by decide +kernel
theorem dX10_drift_50 : decode cX10_drift 50 = .ok (.invokevirtual 247, 3) := by decide +kernel
theorem dX10_drift_53 : decode cX10_drift 53 = .ok (.istore_n 3, 1) := by decide +kernel
theorem dX10_drift_54 : decode cX10_drift 54 = .ok (.aload_n 0, 1) := by decide +kernel
theorem dX10_drift_55 : decode cX10_drift 55 = .ok (.aload_n 0, 1) := by decide +kernel
theorem dX10_drift_56 : decode cX10_drift 56 = .ok (.iload_n 3, 1) := by decide +kernel
theorem dX10_drift_57 : decode cX10_drift 57 = .ok (.iconst 4, 1) := by decide +kernel
theorem dX10_drift_58 : decode cX10_drift 58 = .ok (.invokevirtual 58, 3) := by decide +kernel
theorem dX10_drift_61 : decode cX10_drift 61 = .ok (.invokevirtual 247, 3) := by decide +kernel
theorem dX10_drift_64 : decode cX10_drift 64 = .ok (.istore 4, 2) := by decide +kernel
theorem dX10_drift_66 : decode cX10_drift 66 = .ok (.aload_n 0, 1) := by decide +kernel
theorem dX10_drift_67 : decode cX10_drift 67 = .ok (.aload_n 0, 1) := by decide +kernel
theorem dX10_drift_68 : decode cX10_drift 68 = .ok (.iload_n 3, 1) := by decide +kernel
theorem dX10_drift_69 : decode cX10_drift 69 = .ok (.iconst 5, 1) := by decide +kernel
theorem dX10_drift_70 : decode cX10_drift 70 = .ok (.invokevirtual 58, 3) := by decide +kernel
theorem dX10_drift_73 : decode cX10_drift 73 = .ok (.invokevirtual 247, 3) := by decide +kernel
theorem dX10_drift_76 : decode cX10_drift 76 = .ok (.istore 5, 2) := by decide +kernel
theorem dX10_drift_78 : decode cX10_drift 78 = .ok (.aload_n 0, 1) := by decide +kernel
theorem dX10_drift_79 : decode cX10_drift 79 = .ok (.sipush 401, 3) := by decide +kernel
theorem dX10_drift_82 : decode cX10_drift 82 = .ok (.invokevirtual 247, 3) := by decide +kernel
theorem dX10_drift_85 : decode cX10_drift 85 = .ok (.sipush 200, 3) := by decide +kernel
theorem dX10_drift_88 : decode cX10_drift 88 = .ok (.isub, 1) := by decide +kernel
theorem dX10_drift_89 : decode cX10_drift 89 = .ok (.istore 6, 2) := by decide +kernel
theorem dX10_drift_91 : decode cX10_drift 91 = .ok (.aload_n 0, 1) := by decide +kernel
theorem dX10_drift_92 : decode cX10_drift 92 = .ok (.iload_n 3, 1) := by decide +kernel
theorem dX10_drift_93 : decode cX10_drift 93 = .ok (.iload 4, 2) := by decide +kernel
theorem dX10_drift_95 : decode cX10_drift 95 = .ok (.iload 5, 2) := by decide +kernel
theorem dX10_drift_97 : decode cX10_drift 97 = .ok (.iload 6, 2) := by decide +kernel
theorem dX10_drift_99 : decode cX10_drift 99 = .ok (.aload_n 0, 1) := by decide +kernel
theorem dX10_drift_100 : decode cX10_drift 100 = .ok (.sipush 401, 3) := by decide +kernel
theorem dX10_drift_103 : decode cX10_drift 103 = .ok (.invokevirtual 247, 3) := by decide +kernel
theorem dX10_drift_106 : decode cX10_drift 106 = .ok (.sipush 200, 3) := by decide +kernel
theorem dX10_drift_109 : decode cX10_drift 109 = .ok (.isub, 1) := by decide +kernel
theorem dX10_drift_110 : decode cX10_drift 110 = .ok (.invokevirtual 233, 3) := by decide +kernel
theorem dX10_drift_113 : decode cX10_drift 113 = .ok (.pop, 1) := by decide +kernel
theorem dX10_drift_114 : decode cX10_drift 114 = .ok (.iinc 2 1, 3) := by decide +kernel
theorem dX10_drift_117 : decode cX10_drift 117 = .ok (.goto (-83), 3) := by decide +kernel
theorem dX10_drift_120 : decode cX10_drift 120 = .ok (.aload_n 0, 1) := by decide +kernel
theorem dX10_drift_121 : decode cX10_drift 121 = .ok (.invokevirtual 156, 3) := by decide +kernel
theorem dX10_drift_124 : decode cX10_drift 124 = .ok (.ireturn, 1) := by decide +kernel
theorem dX10_undo_0 : decode cX10_undo 0 = .ok (.aload_n 0, 1) := by decide +kernel
theorem dX10_undo_1 : decode cX10_undo 1 = .ok (.iconst 0, 1) := by decide +kernel
theorem dX10_undo_2 : decode cX10_undo 2 = .ok (.putfield 46, 3) := by decide +kernel
theorem dX10_undo_5 : decode cX10_undo 5 = .ok (.iload_n 1, 1) := by decide +kernel
theorem dX10_undo_6 : decode cX10_undo 6 = .ok (.i2l, 1) := by decide +kernel
theorem dX10_undo_7 : decode cX10_undo 7 = .ok (.lconst 1, 1) := by decide +kernel
theorem dX10_undo_8 : decode cX10_undo 8 = .ok (.ldc2_w 250, 3) := by decide +kernel
theorem dX10_undo_11 : decode cX10_undo 11 = .ok (.invokestatic 50, 3) := by decide +kernel
theorem dX10_undo_14 : decode cX10_undo 14 = .ok (.ifCond .ne 6, 3) := by decide +kernel
theorem dX10_undo_17 : decode cX10_undo 17 = .ok (.ldc 169, 2) := by decide +kernel
theorem dX10_undo_19 : decode cX10_undo 19 = .ok (.ireturn, 1) := by decide +kernel
theorem dX10_undo_20 : decode cX10_undo 20 = .ok (.iload_n 1, 1) := by decide +kernel
theorem dX10_undo_21 : decode cX10_undo 21 = .ok (.aload_n 0, 1) := by decide +kernel
theorem dX10_undo_22 : decode cX10_undo 22 = .ok (.getfield 166, 3) := by decide +kernel
theorem dX10_undo_25 : decode cX10_undo 25 = .ok (.if_icmp .le 6, 3) := by decide +kernel
theorem dX10_undo_28 : decode cX10_undo 28 = .ok (.ldc 221, 2) := by decide +kernel
theorem dX10_undo_30 : decode cX10_undo 30 = .ok (.ireturn, 1) := by decide +kernel
theorem dX10_undo_31 : decode cX10_undo 31 = .ok (.aload_n 0, 1) := by decide +kernel
theorem dX10_undo_32 : decode cX10_undo 32 = .ok (.dup, 1) := by decide +kernel
theorem dX10_undo_33 : decode cX10_undo 33 = .ok (.getfield 166, 3) := by decide +kernel
theorem dX10_undo_36 : decode cX10_undo 36 = .ok (.iload_n 1, 1) := by decide +kernel
theorem dX10_undo_37 : decode cX10_undo 37 = .ok (.isub, 1) := by decide +kernel
theorem dX10_undo_38 : decode cX10_undo 38 = .ok (.putfield 166, 3) := by decide +kernel
theorem dX10_undo_41 : decode cX10_undo 41 = .ok (.iconst 0, 1) := by decide +kernel
theorem dX10_undo_42 : decode cX10_undo 42 = .ok (.istore_n 2, 1) := by decide +kernel
theorem dX10_undo_43 : decode cX10_undo 43 = .ok (.iload_n 2, 1) := by decide +kernel
theorem dX10_undo_44 : decode cX10_undo 44 = .ok (.sipush 338, 3) := by decide +kernel
theorem dX10_undo_47 : decode cX10_undo 47 = .ok (.if_icmp .ge 30, 3) := by decide +kernel
theorem dX10_undo_50 : decode cX10_undo 50 = .ok (.aload_n 0, 1) := by decide +kernel
theorem dX10_undo_51 : decode cX10_undo 51 = .ok (.getfield 7, 3) := by decide +kernel
theorem dX10_undo_54 : decode cX10_undo 54 = .ok (.iload_n 2, 1) := by decide +kernel
theorem dX10_undo_55 : decode cX10_undo 55 = .ok (.aload_n 0, 1) := by decide +kernel
theorem dX10_undo_56 : decode cX10_undo 56 = .ok (.getfield 13, 3) := by decide +kernel
theorem dX10_undo_59 : decode cX10_undo 59 = .ok (.sipush 338, 3) := by decide +kernel
theorem dX10_undo_62 : decode cX10_undo 62 = .ok (.aload_n 0, 1) := by decide +kernel
theorem dX10_undo_63 : decode cX10_undo 63 = .ok (.getfield 166, 3) := by decide +kernel
theorem dX10_undo_66 : decode cX10_undo 66 = .ok (.imul, 1) := by decide +kernel
theorem dX10_undo_67 : decode cX10_undo 67 = .ok (.iload_n 2, 1) := by decide +kernel
theorem dX10_undo_68 : decode cX10_undo 68 = .ok (.iadd, 1) := by decide +kernel
theorem dX10_undo_69 : decode cX10_undo 69 = .ok (.iaload, 1) := by decide +kernel
theorem dX10_undo_70 : decode cX10_undo 70 = .ok (.iastore, 1) := by decide +kernel
theorem dX10_undo_71 : decode cX10_undo 71 = .ok (.iinc 2 1, 3) := by decide +kernel
theorem dX10_undo_74 : decode cX10_undo 74 = .ok (.goto (-31), 3) := by decide +kernel
theorem dX10_undo_77 : decode cX10_undo 77 = .ok (.aload_n 0, 1) := by decide +kernel
theorem dX10_undo_78 : decode cX10_undo 78 = .ok (.getfield 166, 3) := by decide +kernel
theorem dX10_undo_81 : decode cX10_undo 81 = .ok (.ireturn, 1) := by decide +kernel
theorem dX10_write_0 : decode cX10_write 0 = .ok (.aload_n 0, 1) := by decide +kernel
theorem dX10_write_1 : decode cX10_write 1 = .ok (.iconst 0, 1) := by decide +kernel
theorem dX10_write_2 : decode cX10_write 2 = .ok (.putfield 46, 3) := by decide +kernel
theorem dX10_write_5 : decode cX10_write 5 = .ok (.iload_n 1, 1) := by decide +kernel
theorem dX10_write_6 : decode cX10_write 6 = .ok (.iload_n 2, 1) := by decide +kernel
theorem dX10_write_7 : decode cX10_write 7 = .ok (.invokestatic 196, 3) := by decide +kernel
theorem dX10_write_10 : decode cX10_write 10 = .ok (.ifCond .ne 6, 3) := by decide +kernel
theorem dX10_write_13 : decode cX10_write 13 = .ok (.ldc 169, 2) := by decide +kernel
theorem dX10_write_15 : decode cX10_write 15 = .ok (.ireturn, 1) := by decide +kernel
theorem dX10_write_16 : decode cX10_write 16 = .ok (.aload_n 0, 1) := by decide +kernel
theorem dX10_write_17 : decode cX10_write 17 = .ok (.getfield 142, 3) := by decide +kernel
theorem dX10_write_20 : decode cX10_write 20 = .ok (.bipush 20, 2) := by decide +kernel
theorem dX10_write_22 : decode cX10_write 22 = .ok (.if_icmp .ne 6, 3) := by decide +kernel
theorem dX10_write_25 : decode cX10_write 25 = .ok (.ldc 222, 2) := by decide +kernel
theorem dX10_write_27 : decode cX10_write 27 = .ok (.ireturn, 1) := by decide +kernel
theorem dX10_write_28 : decode cX10_write 28 = .ok (.aload_n 0, 1) := by decide +kernel
theorem dX10_write_29 : decode cX10_write 29 = .ok (.getfield 27, 3) := by decide +kernel
theorem dX10_write_32 : decode cX10_write 32 = .ok (.aload_n 0, 1) := by decide +kernel
theorem dX10_write_33 : decode cX10_write 33 = .ok (.getfield 142, 3) := by decide +kernel
theorem dX10_write_36 : decode cX10_write 36 = .ok (.iload_n 1, 1) := by decide +kernel
theorem dX10_write_37 : decode cX10_write 37 = .ok (.iastore, 1) := by decide +kernel
theorem dX10_write_38 : decode cX10_write 38 = .ok (.aload_n 0, 1) := by decide +kernel
theorem dX10_write_39 : decode cX10_write 39 = .ok (.getfield 30, 3) := by decide +kernel
theorem dX10_write_42 : decode cX10_write 42 = .ok (.aload_n 0, 1) := by decide +kernel
theorem dX10_write_43 : decode cX10_write 43 = .ok (.getfield 142, 3) := by decide +kernel
theorem dX10_write_46 : decode cX10_write 46 = .ok (.iload_n 2, 1) := by decide +kernel
theorem dX10_write_47 : decode cX10_write 47 = .ok (.iastore, 1) := by decide +kernel
theorem dX10_write_48 : decode cX10_write 48 = .ok (.aload_n 0, 1) := by decide +kernel
theorem dX10_write_49 : decode cX10_write 49 = .ok (.getfield 33, 3) := by decide +kernel
theorem dX10_write_52 : decode cX10_write 52 = .ok (.aload_n 0, 1) := by decide +kernel
theorem dX10_write_53 : decode cX10_write 53 = .ok (.getfield 142, 3) := by decide +kernel
theorem dX10_write_56 : decode cX10_write 56 = .ok (.iload_n 3, 1) := by decide +kernel
theorem dX10_write_57 : decode cX10_write 57 = .ok (.iastore, 1) := by decide +kernel
theorem dX10_write_58 : decode cX10_write 58 = .ok (.aload_n 0, 1) := by decide +kernel
theorem dX10_write_59 : decode cX10_write 59 = .ok (.dup, 1) := by decide +kernel
theorem dX10_write_60 : decode cX10_write 60 = .ok (.getfield 142, 3) := by decide +kernel
theorem dX10_write_63 : decode cX10_write 63 = .ok (.iconst 1, 1) := by decide +kernel
theorem dX10_write_64 : decode cX10_write 64 = .ok (.iadd, 1) := by decide +kernel
theorem dX10_write_65 : decode cX10_write 65 = .ok (.putfield 142, 3) := by decide +kernel
theorem dX10_write_68 : decode cX10_write 68 = .ok (.aload_n 0, 1) := by decide +kernel
theorem dX10_write_69 : decode cX10_write 69 = .ok (.getfield 142, 3) := by decide +kernel
theorem dX10_write_72 : decode cX10_write 72 = .ok (.ireturn, 1) := by decide +kernel
theorem dX10_tear_0 : decode cX10_tear 0 = .ok (.aload_n 0, 1) := by decide +kernel
theorem dX10_tear_1 : decode cX10_tear 1 = .ok (.iconst 0, 1) := by decide +kernel
theorem dX10_tear_2 : decode cX10_tear 2 = .ok (.putfield 46, 3) := by decide +kernel
theorem dX10_tear_5 : decode cX10_tear 5 = .ok (.aload_n 0, 1) := by decide +kernel
theorem dX10_tear_6 : decode cX10_tear 6 = .ok (.getfield 142, 3) := by decide +kernel
theorem dX10_tear_9 : decode cX10_tear 9 = .ok (.istore_n 1, 1) := by decide +kernel
theorem dX10_tear_10 : decode cX10_tear 10 = .ok (.aload_n 0, 1) := by decide +kernel
theorem dX10_tear_11 : decode cX10_tear 11 = .ok (.iconst 0, 1) := by decide +kernel
theorem dX10_tear_12 : decode cX10_tear 12 = .ok (.putfield 142, 3) := by decide +kernel
theorem dX10_tear_15 : decode cX10_tear 15 = .ok (.iload_n 1, 1) := by decide +kernel
theorem dX10_tear_16 : decode cX10_tear 16 = .ok (.ireturn, 1) := by decide +kernel
theorem dX10_seed_0 : decode cX10_seed 0 = .ok (.aload_n 0, 1) := by decide +kernel
theorem dX10_seed_1 : decode cX10_seed 1 = .ok (.iconst 0, 1) := by decide +kernel
theorem dX10_seed_2 : decode cX10_seed 2 = .ok (.putfield 46, 3) := by decide +kernel
theorem dX10_seed_5 : decode cX10_seed 5 = .ok (.iload_n 1, 1) := by decide +kernel
theorem dX10_seed_6 : decode cX10_seed 6 = .ok (.ifCond .ge 6, 3) := by decide +kernel
theorem dX10_seed_9 : decode cX10_seed 9 = .ok (.ldc 169, 2) := by decide +kernel
theorem dX10_seed_11 : decode cX10_seed 11 = .ok (.ireturn, 1) := by decide +kernel
theorem dX10_seed_12 : decode cX10_seed 12 = .ok (.aload_n 0, 1) := by decide +kernel
theorem dX10_seed_13 : decode cX10_seed 13 = .ok (.getfield 42, 3) := by decide +kernel
theorem dX10_seed_16 : decode cX10_seed 16 = .ok (.l2i, 1) := by decide +kernel
theorem dX10_seed_17 : decode cX10_seed 17 = .ok (.istore_n 2, 1) := by decide +kernel
theorem dX10_seed_18 : decode cX10_seed 18 = .ok (.aload_n 0, 1) := by decide +kernel
theorem dX10_seed_19 : decode cX10_seed 19 = .ok (.iload_n 1, 1) := by decide +kernel
theorem dX10_seed_20 : decode cX10_seed 20 = .ok (.i2l, 1) := by decide +kernel
theorem dX10_seed_21 : decode cX10_seed 21 = .ok (.putfield 42, 3) := by decide +kernel
theorem dX10_seed_24 : decode cX10_seed 24 = .ok (.iload_n 2, 1) := by decide +kernel
theorem dX10_seed_25 : decode cX10_seed 25 = .ok (.ireturn, 1) := by decide +kernel
theorem dX10_keep_0 : decode cX10_keep 0 = .ok (.aload_n 0, 1) := by decide +kernel
theorem dX10_keep_1 : decode cX10_keep 1 = .ok (.iconst 0, 1) := by decide +kernel
theorem dX10_keep_2 : decode cX10_keep 2 = .ok (.putfield 46, 3) := by decide +kernel
theorem dX10_keep_5 : decode cX10_keep 5 = .ok (.iload_n 1, 1) := by decide +kernel
theorem dX10_keep_6 : decode cX10_keep 6 = .ok (.i2l, 1) := by decide +kernel
theorem dX10_keep_7 : decode cX10_keep 7 = .ok (.lconst 0, 1) := by decide +kernel
theorem dX10_keep_8 : decode cX10_keep 8 = .ok (.lconst 1, 1) := by decide +kernel
theorem dX10_keep_9 : decode cX10_keep 9 = .ok (.invokestatic 50, 3) := by decide +kernel
theorem dX10_keep_12 : decode cX10_keep 12 = .ok (.ifCond .ne 6, 3) := by decide +kernel
theorem dX10_keep_15 : decode cX10_keep 15 = .ok (.ldc 170, 2) := by decide +kernel
theorem dX10_keep_17 : decode cX10_keep 17 = .ok (.ireturn, 1) := by decide +kernel
theorem dX10_keep_18 : decode cX10_keep 18 = .ok (.iconst 0, 1) := by decide +kernel
theorem dX10_keep_19 : decode cX10_keep 19 = .ok (.istore_n 2, 1) := by decide +kernel
theorem dX10_keep_20 : decode cX10_keep 20 = .ok (.iload_n 2, 1) := by decide +kernel
theorem dX10_keep_21 : decode cX10_keep 21 = .ok (.sipush 338, 3) := by decide +kernel
theorem dX10_keep_24 : decode cX10_keep 24 = .ok (.if_icmp .ge 27, 3) := by decide +kernel
theorem dX10_keep_27 : decode cX10_keep 27 = .ok (.aload_n 0, 1) := by decide +kernel
theorem dX10_keep_28 : decode cX10_keep 28 = .ok (.getfield 16, 3) := by decide +kernel
theorem dX10_keep_31 : decode cX10_keep 31 = .ok (.sipush 338, 3) := by decide +kernel
theorem dX10_keep_34 : decode cX10_keep 34 = .ok (.iload_n 1, 1) := by decide +kernel
theorem dX10_keep_35 : decode cX10_keep 35 = .ok (.imul, 1) := by decide +kernel
theorem dX10_keep_36 : decode cX10_keep 36 = .ok (.iload_n 2, 1) := by decide +kernel
theorem dX10_keep_37 : decode cX10_keep 37 = .ok (.iadd, 1) := by decide +kernel
theorem dX10_keep_38 : decode cX10_keep 38 = .ok (.aload_n 0, 1) := by decide +kernel
theorem dX10_keep_39 : decode cX10_keep 39 = .ok (.getfield 7, 3) := by decide +kernel
theorem dX10_keep_42 : decode cX10_keep 42 = .ok (.iload_n 2, 1) := by decide +kernel
theorem dX10_keep_43 : decode cX10_keep 43 = .ok (.iaload, 1) := by decide +kernel
theorem dX10_keep_44 : decode cX10_keep 44 = .ok (.iastore, 1) := by decide +kernel
theorem dX10_keep_45 : decode cX10_keep 45 = .ok (.iinc 2 1, 3) := by decide +kernel
theorem dX10_keep_48 : decode cX10_keep 48 = .ok (.goto (-28), 3) := by decide +kernel
theorem dX10_keep_51 : decode cX10_keep 51 = .ok (.aload_n 0, 1) := by decide +kernel
theorem dX10_keep_52 : decode cX10_keep 52 = .ok (.getfield 23, 3) := by decide +kernel
theorem dX10_keep_55 : decode cX10_keep 55 = .ok (.iload_n 1, 1) := by decide +kernel
theorem dX10_keep_56 : decode cX10_keep 56 = .ok (.aload_n 0, 1) := by decide +kernel
theorem dX10_keep_57 : decode cX10_keep 57 = .ok (.getfield 42, 3) := by decide +kernel
theorem dX10_keep_60 : decode cX10_keep 60 = .ok (.lastore, 1) := by decide +kernel
theorem dX10_keep_61 : decode cX10_keep 61 = .ok (.aload_n 0, 1) := by decide +kernel
theorem dX10_keep_62 : decode cX10_keep 62 = .ok (.getfield 19, 3) := by decide +kernel
theorem dX10_keep_65 : decode cX10_keep 65 = .ok (.iload_n 1, 1) := by decide +kernel
theorem dX10_keep_66 : decode cX10_keep 66 = .ok (.iconst 1, 1) := by decide +kernel
theorem dX10_keep_67 : decode cX10_keep 67 = .ok (.bastore, 1) := by decide +kernel
theorem dX10_keep_68 : decode cX10_keep 68 = .ok (.aload_n 0, 1) := by decide +kernel
theorem dX10_keep_69 : decode cX10_keep 69 = .ok (.iconst 0, 1) := by decide +kernel
theorem dX10_keep_70 : decode cX10_keep 70 = .ok (.putfield 166, 3) := by decide +kernel
theorem dX10_keep_73 : decode cX10_keep 73 = .ok (.iconst 1, 1) := by decide +kernel
theorem dX10_keep_74 : decode cX10_keep 74 = .ok (.ireturn, 1) := by decide +kernel
theorem dX10_goBack_0 : decode cX10_goBack 0 = .ok (.aload_n 0, 1) := by decide +kernel
theorem dX10_goBack_1 : decode cX10_goBack 1 = .ok (.iconst 0, 1) := by decide +kernel
theorem dX10_goBack_2 : decode cX10_goBack 2 = .ok (.putfield 46, 3) := by decide +kernel
theorem dX10_goBack_5 : decode cX10_goBack 5 = .ok (.iload_n 1, 1) := by decide +kernel
theorem dX10_goBack_6 : decode cX10_goBack 6 = .ok (.i2l, 1) := by decide +kernel
theorem dX10_goBack_7 : decode cX10_goBack 7 = .ok (.lconst 0, 1) := by decide +kernel
theorem dX10_goBack_8 : decode cX10_goBack 8 = .ok (.lconst 1, 1) := by decide +kernel
theorem dX10_goBack_9 : decode cX10_goBack 9 = .ok (.invokestatic 50, 3) := by decide +kernel
theorem dX10_goBack_12 : decode cX10_goBack 12 = .ok (.ifCond .ne 6, 3) := by decide +kernel
theorem dX10_goBack_15 : decode cX10_goBack 15 = .ok (.ldc 170, 2) := by decide +kernel
theorem dX10_goBack_17 : decode cX10_goBack 17 = .ok (.ireturn, 1) := by decide +kernel
theorem dX10_goBack_18 : decode cX10_goBack 18 = .ok (.aload_n 0, 1) := by decide +kernel
theorem dX10_goBack_19 : decode cX10_goBack 19 = .ok (.getfield 19, 3) := by decide +kernel
theorem dX10_goBack_22 : decode cX10_goBack 22 = .ok (.iload_n 1, 1) := by decide +kernel
theorem dX10_goBack_23 : decode cX10_goBack 23 = .ok (.baload, 1) := by decide +kernel
theorem dX10_goBack_24 : decode cX10_goBack 24 = .ok (.ifCond .ne 6, 3) := by decide +kernel
theorem dX10_goBack_27 : decode cX10_goBack 27 = .ok (.ldc 221, 2) := by decide +kernel
theorem dX10_goBack_29 : decode cX10_goBack 29 = .ok (.ireturn, 1) := by decide +kernel
theorem dX10_goBack_30 : decode cX10_goBack 30 = .ok (.iconst 0, 1) := by decide +kernel
theorem dX10_goBack_31 : decode cX10_goBack 31 = .ok (.istore_n 2, 1) := by decide +kernel
theorem dX10_goBack_32 : decode cX10_goBack 32 = .ok (.iload_n 2, 1) := by decide +kernel
theorem dX10_goBack_33 : decode cX10_goBack 33 = .ok (.sipush 338, 3) := by decide +kernel
theorem dX10_goBack_36 : decode cX10_goBack 36 = .ok (.if_icmp .ge 27, 3) := by decide +kernel
theorem dX10_goBack_39 : decode cX10_goBack 39 = .ok (.aload_n 0, 1) := by decide +kernel
theorem dX10_goBack_40 : decode cX10_goBack 40 = .ok (.getfield 7, 3) := by decide +kernel
theorem dX10_goBack_43 : decode cX10_goBack 43 = .ok (.iload_n 2, 1) := by decide +kernel
theorem dX10_goBack_44 : decode cX10_goBack 44 = .ok (.aload_n 0, 1) := by decide +kernel
theorem dX10_goBack_45 : decode cX10_goBack 45 = .ok (.getfield 16, 3) := by decide +kernel
theorem dX10_goBack_48 : decode cX10_goBack 48 = .ok (.sipush 338, 3) := by decide +kernel
theorem dX10_goBack_51 : decode cX10_goBack 51 = .ok (.iload_n 1, 1) := by decide +kernel
theorem dX10_goBack_52 : decode cX10_goBack 52 = .ok (.imul, 1) := by decide +kernel
theorem dX10_goBack_53 : decode cX10_goBack 53 = .ok (.iload_n 2, 1) := by decide +kernel
theorem dX10_goBack_54 : decode cX10_goBack 54 = .ok (.iadd, 1) := by decide +kernel
theorem dX10_goBack_55 : decode cX10_goBack 55 = .ok (.iaload, 1) := by decide +kernel
theorem dX10_goBack_56 : decode cX10_goBack 56 = .ok (.iastore, 1) := by decide +kernel
theorem dX10_goBack_57 : decode cX10_goBack 57 = .ok (.iinc 2 1, 3) := by decide +kernel
theorem dX10_goBack_60 : decode cX10_goBack 60 = .ok (.goto (-28), 3) := by decide +kernel
theorem dX10_goBack_63 : decode cX10_goBack 63 = .ok (.aload_n 0, 1) := by decide +kernel
theorem dX10_goBack_64 : decode cX10_goBack 64 = .ok (.aload_n 0, 1) := by decide +kernel
theorem dX10_goBack_65 : decode cX10_goBack 65 = .ok (.getfield 23, 3) := by decide +kernel
theorem dX10_goBack_68 : decode cX10_goBack 68 = .ok (.iload_n 1, 1) := by decide +kernel
theorem dX10_goBack_69 : decode cX10_goBack 69 = .ok (.laload, 1) := by decide +kernel
theorem dX10_goBack_70 : decode cX10_goBack 70 = .ok (.putfield 42, 3) := by decide +kernel
theorem dX10_goBack_73 : decode cX10_goBack 73 = .ok (.aload_n 0, 1) := by decide +kernel
theorem dX10_goBack_74 : decode cX10_goBack 74 = .ok (.iconst 0, 1) := by decide +kernel
theorem dX10_goBack_75 : decode cX10_goBack 75 = .ok (.putfield 166, 3) := by decide +kernel
theorem dX10_goBack_78 : decode cX10_goBack 78 = .ok (.iconst 1, 1) := by decide +kernel
theorem dX10_goBack_79 : decode cX10_goBack 79 = .ok (.ireturn, 1) := by decide +kernel
theorem dJ9_floorDiv_f86c9_0 : decode cJ9_floorDiv_f86c9 0 = .ok (.lload_n 0, 1) := by decide +kernel
theorem dJ9_floorDiv_f86c9_1 : decode cJ9_floorDiv_f86c9 1 = .ok (.lload_n 2, 1) := by decide +kernel
theorem dJ9_floorDiv_f86c9_2 : decode cJ9_floorDiv_f86c9 2 = .ok (.ldiv, 1) := by decide +kernel
theorem dJ9_floorDiv_f86c9_3 : decode cJ9_floorDiv_f86c9 3 = .ok (.lstore 4, 2) := by decide +kernel
theorem dJ9_floorDiv_f86c9_5 : decode cJ9_floorDiv_f86c9 5 = .ok (.lload_n 0, 1) := by decide +kernel
theorem dJ9_floorDiv_f86c9_6 : decode cJ9_floorDiv_f86c9 6 = .ok (.lload_n 2, 1) := by decide +kernel
theorem dJ9_floorDiv_f86c9_7 : decode cJ9_floorDiv_f86c9 7 = .ok (.lxor, 1) := by decide +kernel
theorem dJ9_floorDiv_f86c9_8 : decode cJ9_floorDiv_f86c9 8 = .ok (.lconst 0, 1) := by decide +kernel
theorem dJ9_floorDiv_f86c9_9 : decode cJ9_floorDiv_f86c9 9 = .ok (.lcmp, 1) := by decide +kernel
theorem dJ9_floorDiv_f86c9_10 : decode cJ9_floorDiv_f86c9 10 = .ok (.ifCond .ge 17, 3) := by decide +kernel
theorem dJ9_floorDiv_f86c9_13 : decode cJ9_floorDiv_f86c9 13 = .ok (.lload 4, 2) := by decide +kernel
theorem dJ9_floorDiv_f86c9_15 : decode cJ9_floorDiv_f86c9 15 = .ok (.lload_n 2, 1) := by decide +kernel
theorem dJ9_floorDiv_f86c9_16 : decode cJ9_floorDiv_f86c9 16 = .ok (.lmul, 1) := by decide +kernel
theorem dJ9_floorDiv_f86c9_17 : decode cJ9_floorDiv_f86c9 17 = .ok (.lload_n 0, 1) := by decide +kernel
theorem dJ9_floorDiv_f86c9_18 : decode cJ9_floorDiv_f86c9 18 = .ok (.lcmp, 1) := by decide +kernel
theorem dJ9_floorDiv_f86c9_19 : decode cJ9_floorDiv_f86c9 19 = .ok (.ifCond .eq 8, 3) := by decide +kernel
theorem dJ9_floorDiv_f86c9_22 : decode cJ9_floorDiv_f86c9 22 = .ok (.lload 4, 2) := by decide +kernel
theorem dJ9_floorDiv_f86c9_24 : decode cJ9_floorDiv_f86c9 24 = .ok (.lconst 1, 1) := by decide +kernel
theorem dJ9_floorDiv_f86c9_25 : decode cJ9_floorDiv_f86c9 25 = .ok (.lsub, 1) := by decide +kernel
theorem dJ9_floorDiv_f86c9_26 : decode cJ9_floorDiv_f86c9 26 = .ok (.lreturn, 1) := by decide +kernel
theorem dJ9_floorDiv_f86c9_27 : decode cJ9_floorDiv_f86c9 27 = .ok (.lload 4, 2) := by decide +kernel
theorem dJ9_floorDiv_f86c9_29 : decode cJ9_floorDiv_f86c9 29 = .ok (.lreturn, 1) := by decide +kernel
theorem dJ9_floorMod_7cf53_0 : decode cJ9_floorMod_7cf53 0 = .ok (.iload_n 0, 1) := by decide +kernel
theorem dJ9_floorMod_7cf53_1 : decode cJ9_floorMod_7cf53 1 = .ok (.iload_n 1, 1) := by decide +kernel
theorem dJ9_floorMod_7cf53_2 : decode cJ9_floorMod_7cf53 2 = .ok (.irem, 1) := by decide +kernel
theorem dJ9_floorMod_7cf53_3 : decode cJ9_floorMod_7cf53 3 = .ok (.istore_n 2, 1) := by decide +kernel
theorem dJ9_floorMod_7cf53_4 : decode cJ9_floorMod_7cf53 4 = .ok (.iload_n 0, 1) := by decide +kernel
theorem dJ9_floorMod_7cf53_5 : decode cJ9_floorMod_7cf53 5 = .ok (.iload_n 1, 1) := by decide +kernel
theorem dJ9_floorMod_7cf53_6 : decode cJ9_floorMod_7cf53 6 = .ok (.ixor, 1) := by decide +kernel
theorem dJ9_floorMod_7cf53_7 : decode cJ9_floorMod_7cf53 7 = .ok (.ifCond .ge 11, 3) := by decide +kernel
theorem dJ9_floorMod_7cf53_10 : decode cJ9_floorMod_7cf53 10 = .ok (.iload_n 2, 1) := by decide +kernel
theorem dJ9_floorMod_7cf53_11 : decode cJ9_floorMod_7cf53 11 = .ok (.ifCond .eq 7, 3) := by decide +kernel
theorem dJ9_floorMod_7cf53_14 : decode cJ9_floorMod_7cf53 14 = .ok (.iload_n 2, 1) := by decide +kernel
theorem dJ9_floorMod_7cf53_15 : decode cJ9_floorMod_7cf53 15 = .ok (.iload_n 1, 1) := by decide +kernel
theorem dJ9_floorMod_7cf53_16 : decode cJ9_floorMod_7cf53 16 = .ok (.iadd, 1) := by decide +kernel
theorem dJ9_floorMod_7cf53_17 : decode cJ9_floorMod_7cf53 17 = .ok (.ireturn, 1) := by decide +kernel
theorem dJ9_floorMod_7cf53_18 : decode cJ9_floorMod_7cf53 18 = .ok (.iload_n 2, 1) := by decide +kernel
theorem dJ9_floorMod_7cf53_19 : decode cJ9_floorMod_7cf53 19 = .ok (.ireturn, 1) := by decide +kernel
theorem dJ9_abs_0f7a4_0 : decode cJ9_abs_0f7a4 0 = .ok (.iload_n 0, 1) := by decide +kernel
theorem dJ9_abs_0f7a4_1 : decode cJ9_abs_0f7a4 1 = .ok (.ifCond .ge 8, 3) := by decide +kernel
theorem dJ9_abs_0f7a4_4 : decode cJ9_abs_0f7a4 4 = .ok (.iload_n 0, 1) := by decide +kernel
theorem dJ9_abs_0f7a4_5 : decode cJ9_abs_0f7a4 5 = .ok (.ineg, 1) := by decide +kernel
theorem dJ9_abs_0f7a4_6 : decode cJ9_abs_0f7a4 6 = .ok (.goto 4, 3) := by decide +kernel
theorem dJ9_abs_0f7a4_9 : decode cJ9_abs_0f7a4 9 = .ok (.iload_n 0, 1) := by decide +kernel
theorem dJ9_abs_0f7a4_10 : decode cJ9_abs_0f7a4 10 = .ok (.ireturn, 1) := by decide +kernel
theorem dJ9_max_7cf53_0 : decode cJ9_max_7cf53 0 = .ok (.iload_n 0, 1) := by decide +kernel
theorem dJ9_max_7cf53_1 : decode cJ9_max_7cf53 1 = .ok (.iload_n 1, 1) := by decide +kernel
theorem dJ9_max_7cf53_2 : decode cJ9_max_7cf53 2 = .ok (.if_icmp .lt 7, 3) := by decide +kernel
theorem dJ9_max_7cf53_5 : decode cJ9_max_7cf53 5 = .ok (.iload_n 0, 1) := by decide +kernel
theorem dJ9_max_7cf53_6 : decode cJ9_max_7cf53 6 = .ok (.goto 4, 3) := by decide +kernel
theorem dJ9_max_7cf53_9 : decode cJ9_max_7cf53 9 = .ok (.iload_n 1, 1) := by decide +kernel
theorem dJ9_max_7cf53_10 : decode cJ9_max_7cf53 10 = .ok (.ireturn, 1) := by decide +kernel
theorem dJ9_min_7cf53_0 : decode cJ9_min_7cf53 0 = .ok (.iload_n 0, 1) := by decide +kernel
theorem dJ9_min_7cf53_1 : decode cJ9_min_7cf53 1 = .ok (.iload_n 1, 1) := by decide +kernel
theorem dJ9_min_7cf53_2 : decode cJ9_min_7cf53 2 = .ok (.if_icmp .gt 7, 3) := by decide +kernel
theorem dJ9_min_7cf53_5 : decode cJ9_min_7cf53 5 = .ok (.iload_n 0, 1) := by decide +kernel
theorem dJ9_min_7cf53_6 : decode cJ9_min_7cf53 6 = .ok (.goto 4, 3) := by decide +kernel
theorem dJ9_min_7cf53_9 : decode cJ9_min_7cf53 9 = .ok (.iload_n 1, 1) := by decide +kernel
theorem dJ9_min_7cf53_10 : decode cJ9_min_7cf53 10 = .ok (.ireturn, 1) := by decide +kernel
theorem dL_law_0 : decode cL_law 0 = .ok (.new 7, 3) := by decide +kernel
theorem dL_law_3 : decode cL_law 3 = .ok (.dup, 1) := by decide +kernel
theorem dL_law_4 : decode cL_law 4 = .ok (.invokespecial 9, 3) := by decide +kernel
theorem dL_law_7 : decode cL_law 7 = .ok (.astore_n 1, 1) := by decide +kernel
theorem dL_law_8 : decode cL_law 8 = .ok (.new 10, 3) := by decide +kernel
theorem dL_law_11 : decode cL_law 11 = .ok (.dup, 1) := by decide +kernel
theorem dL_law_12 : decode cL_law 12 = .ok (.invokespecial 12, 3) := by decide +kernel
theorem dL_law_15 : decode cL_law 15 = .ok (.astore_n 2, 1) := by decide +kernel
theorem dL_law_16 : decode cL_law 16 = .ok (.iconst 0, 1) := by decide +kernel
theorem dL_law_17 : decode cL_law 17 = .ok (.istore_n 3, 1) := by decide +kernel
theorem dL_law_18 : decode cL_law 18 = .ok (.iload_n 3, 1) := by decide +kernel
theorem dL_law_19 : decode cL_law 19 = .ok (.aload_n 0, 1) := by decide +kernel
theorem dL_law_20 : decode cL_law 20 = .ok (.arraylength, 1) := by decide +kernel
theorem dL_law_21 : decode cL_law 21 = .ok (.bipush 7, 2) := by decide +kernel
theorem dL_law_23 : decode cL_law 23 = .ok (.isub, 1) := by decide +kernel
theorem dL_law_24 : decode cL_law 24 = .ok (.if_icmp .gt 813, 3) := by decide +kernel
theorem dL_law_27 : decode cL_law 27 = .ok (.aload_n 0, 1) := by decide +kernel
theorem dL_law_28 : decode cL_law 28 = .ok (.iload_n 3, 1) := by decide +kernel
theorem dL_law_29 : decode cL_law 29 = .ok (.iaload, 1) := by decide +kernel
theorem dL_law_30 : decode cL_law 30 = .ok (.bipush 31, 2) := by decide +kernel
theorem dL_law_32 : decode cL_law 32 = .ok (.iand, 1) := by decide +kernel
theorem dL_law_33 : decode cL_law 33 = .ok (.tableswitch 798 0 19 #[95, 118, 151, 204, 258, 291, 334, 377, 452, 515, 558, 581, 604, 627, 650, 673, 716, 729, 752, 775], 95) := by decide +kernel
theorem dL_law_128 : decode cL_law 128 = .ok (.aload_n 1, 1) := by decide +kernel
theorem dL_law_129 : decode cL_law 129 = .ok (.aload_n 0, 1) := by decide +kernel
theorem dL_law_130 : decode cL_law 130 = .ok (.iload_n 3, 1) := by decide +kernel
theorem dL_law_131 : decode cL_law 131 = .ok (.iconst 1, 1) := by decide +kernel
theorem dL_law_132 : decode cL_law 132 = .ok (.iadd, 1) := by decide +kernel
theorem dL_law_133 : decode cL_law 133 = .ok (.iaload, 1) := by decide +kernel
theorem dL_law_134 : decode cL_law 134 = .ok (.invokevirtual 13, 3) := by decide +kernel
theorem dL_law_137 : decode cL_law 137 = .ok (.aload_n 2, 1) := by decide +kernel
theorem dL_law_138 : decode cL_law 138 = .ok (.aload_n 0, 1) := by decide +kernel
theorem dL_law_139 : decode cL_law 139 = .ok (.iload_n 3, 1) := by decide +kernel
theorem dL_law_140 : decode cL_law 140 = .ok (.iconst 1, 1) := by decide +kernel
theorem dL_law_141 : decode cL_law 141 = .ok (.iadd, 1) := by decide +kernel
theorem dL_law_142 : decode cL_law 142 = .ok (.iaload, 1) := by decide +kernel
theorem dL_law_143 : decode cL_law 143 = .ok (.invokevirtual 17, 3) := by decide +kernel
theorem dL_law_146 : decode cL_law 146 = .ok (.if_icmp .eq 685, 3) := by decide +kernel
theorem dL_law_149 : decode cL_law 149 = .ok (.iconst 0, 1) := by decide +kernel
theorem dL_law_150 : decode cL_law 150 = .ok (.ireturn, 1) := by decide +kernel
theorem dL_law_151 : decode cL_law 151 = .ok (.aload_n 1, 1) := by decide +kernel
theorem dL_law_152 : decode cL_law 152 = .ok (.aload_n 0, 1) := by decide +kernel
theorem dL_law_153 : decode cL_law 153 = .ok (.iload_n 3, 1) := by decide +kernel
theorem dL_law_154 : decode cL_law 154 = .ok (.iconst 1, 1) := by decide +kernel
theorem dL_law_155 : decode cL_law 155 = .ok (.iadd, 1) := by decide +kernel
theorem dL_law_156 : decode cL_law 156 = .ok (.iaload, 1) := by decide +kernel
theorem dL_law_157 : decode cL_law 157 = .ok (.aload_n 0, 1) := by decide +kernel
theorem dL_law_158 : decode cL_law 158 = .ok (.iload_n 3, 1) := by decide +kernel
theorem dL_law_159 : decode cL_law 159 = .ok (.iconst 2, 1) := by decide +kernel
theorem dL_law_160 : decode cL_law 160 = .ok (.iadd, 1) := by decide +kernel
theorem dL_law_161 : decode cL_law 161 = .ok (.iaload, 1) := by decide +kernel
theorem dL_law_162 : decode cL_law 162 = .ok (.invokevirtual 18, 3) := by decide +kernel
theorem dL_law_165 : decode cL_law 165 = .ok (.aload_n 2, 1) := by decide +kernel
theorem dL_law_166 : decode cL_law 166 = .ok (.aload_n 0, 1) := by decide +kernel
theorem dL_law_167 : decode cL_law 167 = .ok (.iload_n 3, 1) := by decide +kernel
theorem dL_law_168 : decode cL_law 168 = .ok (.iconst 1, 1) := by decide +kernel
theorem dL_law_169 : decode cL_law 169 = .ok (.iadd, 1) := by decide +kernel
theorem dL_law_170 : decode cL_law 170 = .ok (.iaload, 1) := by decide +kernel
theorem dL_law_171 : decode cL_law 171 = .ok (.aload_n 0, 1) := by decide +kernel
theorem dL_law_172 : decode cL_law 172 = .ok (.iload_n 3, 1) := by decide +kernel
theorem dL_law_173 : decode cL_law 173 = .ok (.iconst 2, 1) := by decide +kernel
theorem dL_law_174 : decode cL_law 174 = .ok (.iadd, 1) := by decide +kernel
theorem dL_law_175 : decode cL_law 175 = .ok (.iaload, 1) := by decide +kernel
theorem dL_law_176 : decode cL_law 176 = .ok (.invokevirtual 22, 3) := by decide +kernel
theorem dL_law_179 : decode cL_law 179 = .ok (.if_icmp .eq 652, 3) := by decide +kernel
theorem dL_law_182 : decode cL_law 182 = .ok (.iconst 0, 1) := by decide +kernel
theorem dL_law_183 : decode cL_law 183 = .ok (.ireturn, 1) := by decide +kernel
theorem dL_law_184 : decode cL_law 184 = .ok (.aload_n 1, 1) := by decide +kernel
theorem dL_law_185 : decode cL_law 185 = .ok (.aload_n 0, 1) := by decide +kernel
theorem dL_law_186 : decode cL_law 186 = .ok (.iload_n 3, 1) := by decide +kernel
theorem dL_law_187 : decode cL_law 187 = .ok (.iconst 1, 1) := by decide +kernel
theorem dL_law_188 : decode cL_law 188 = .ok (.iadd, 1) := by decide +kernel
theorem dL_law_189 : decode cL_law 189 = .ok (.iaload, 1) := by decide +kernel
theorem dL_law_190 : decode cL_law 190 = .ok (.aload_n 0, 1) := by decide +kernel
theorem dL_law_191 : decode cL_law 191 = .ok (.iload_n 3, 1) := by decide +kernel
theorem dL_law_192 : decode cL_law 192 = .ok (.iconst 2, 1) := by decide +kernel
theorem dL_law_193 : decode cL_law 193 = .ok (.iadd, 1) := by decide +kernel
theorem dL_law_194 : decode cL_law 194 = .ok (.iaload, 1) := by decide +kernel
theorem dL_law_195 : decode cL_law 195 = .ok (.aload_n 0, 1) := by decide +kernel
theorem dL_law_196 : decode cL_law 196 = .ok (.iload_n 3, 1) := by decide +kernel
theorem dL_law_197 : decode cL_law 197 = .ok (.iconst 3, 1) := by decide +kernel
theorem dL_law_198 : decode cL_law 198 = .ok (.iadd, 1) := by decide +kernel
theorem dL_law_199 : decode cL_law 199 = .ok (.iaload, 1) := by decide +kernel
theorem dL_law_200 : decode cL_law 200 = .ok (.aload_n 0, 1) := by decide +kernel
theorem dL_law_201 : decode cL_law 201 = .ok (.iload_n 3, 1) := by decide +kernel
theorem dL_law_202 : decode cL_law 202 = .ok (.iconst 4, 1) := by decide +kernel
theorem dL_law_203 : decode cL_law 203 = .ok (.iadd, 1) := by decide +kernel
theorem dL_law_204 : decode cL_law 204 = .ok (.iaload, 1) := by decide +kernel
theorem dL_law_205 : decode cL_law 205 = .ok (.invokevirtual 23, 3) := by decide +kernel
theorem dL_law_208 : decode cL_law 208 = .ok (.aload_n 2, 1) := by decide +kernel
theorem dL_law_209 : decode cL_law 209 = .ok (.aload_n 0, 1) := by decide +kernel
theorem dL_law_210 : decode cL_law 210 = .ok (.iload_n 3, 1) := by decide +kernel
theorem dL_law_211 : decode cL_law 211 = .ok (.iconst 1, 1) := by decide +kernel
theorem dL_law_212 : decode cL_law 212 = .ok (.iadd, 1) := by decide +kernel
theorem dL_law_213 : decode cL_law 213 = .ok (.iaload, 1) := by decide +kernel
theorem dL_law_214 : decode cL_law 214 = .ok (.aload_n 0, 1) := by decide +kernel
theorem dL_law_215 : decode cL_law 215 = .ok (.iload_n 3, 1) := by decide +kernel
theorem dL_law_216 : decode cL_law 216 = .ok (.iconst 2, 1) := by decide +kernel
theorem dL_law_217 : decode cL_law 217 = .ok (.iadd, 1) := by decide +kernel
theorem dL_law_218 : decode cL_law 218 = .ok (.iaload, 1) := by decide +kernel
theorem dL_law_219 : decode cL_law 219 = .ok (.aload_n 0, 1) := by decide +kernel
theorem dL_law_220 : decode cL_law 220 = .ok (.iload_n 3, 1) := by decide +kernel
theorem dL_law_221 : decode cL_law 221 = .ok (.iconst 3, 1) := by decide +kernel
theorem dL_law_222 : decode cL_law 222 = .ok (.iadd, 1) := by decide +kernel
theorem dL_law_223 : decode cL_law 223 = .ok (.iaload, 1) := by decide +kernel
theorem dL_law_224 : decode cL_law 224 = .ok (.aload_n 0, 1) := by decide +kernel
theorem dL_law_225 : decode cL_law 225 = .ok (.iload_n 3, 1) := by decide +kernel
theorem dL_law_226 : decode cL_law 226 = .ok (.iconst 4, 1) := by decide +kernel
theorem dL_law_227 : decode cL_law 227 = .ok (.iadd, 1) := by decide +kernel
theorem dL_law_228 : decode cL_law 228 = .ok (.iaload, 1) := by decide +kernel
theorem dL_law_229 : decode cL_law 229 = .ok (.invokevirtual 27, 3) := by decide +kernel
theorem dL_law_232 : decode cL_law 232 = .ok (.if_icmp .eq 599, 3) := by decide +kernel
theorem dL_law_235 : decode cL_law 235 = .ok (.iconst 0, 1) := by decide +kernel
theorem dL_law_236 : decode cL_law 236 = .ok (.ireturn, 1) := by decide +kernel
theorem dL_law_237 : decode cL_law 237 = .ok (.aload_n 1, 1) := by decide +kernel
theorem dL_law_238 : decode cL_law 238 = .ok (.aload_n 0, 1) := by decide +kernel
theorem dL_law_239 : decode cL_law 239 = .ok (.iload_n 3, 1) := by decide +kernel
theorem dL_law_240 : decode cL_law 240 = .ok (.iconst 1, 1) := by decide +kernel
theorem dL_law_241 : decode cL_law 241 = .ok (.iadd, 1) := by decide +kernel
theorem dL_law_242 : decode cL_law 242 = .ok (.iaload, 1) := by decide +kernel
theorem dL_law_243 : decode cL_law 243 = .ok (.aload_n 0, 1) := by decide +kernel
theorem dL_law_244 : decode cL_law 244 = .ok (.iload_n 3, 1) := by decide +kernel
theorem dL_law_245 : decode cL_law 245 = .ok (.iconst 2, 1) := by decide +kernel
theorem dL_law_246 : decode cL_law 246 = .ok (.iadd, 1) := by decide +kernel
theorem dL_law_247 : decode cL_law 247 = .ok (.iaload, 1) := by decide +kernel
theorem dL_law_248 : decode cL_law 248 = .ok (.aload_n 0, 1) := by decide +kernel
theorem dL_law_249 : decode cL_law 249 = .ok (.iload_n 3, 1) := by decide +kernel
theorem dL_law_250 : decode cL_law 250 = .ok (.iconst 3, 1) := by decide +kernel
theorem dL_law_251 : decode cL_law 251 = .ok (.iadd, 1) := by decide +kernel
theorem dL_law_252 : decode cL_law 252 = .ok (.iaload, 1) := by decide +kernel
theorem dL_law_253 : decode cL_law 253 = .ok (.aload_n 0, 1) := by decide +kernel
theorem dL_law_254 : decode cL_law 254 = .ok (.iload_n 3, 1) := by decide +kernel
theorem dL_law_255 : decode cL_law 255 = .ok (.iconst 4, 1) := by decide +kernel
theorem dL_law_256 : decode cL_law 256 = .ok (.iadd, 1) := by decide +kernel
theorem dL_law_257 : decode cL_law 257 = .ok (.iaload, 1) := by decide +kernel
theorem dL_law_258 : decode cL_law 258 = .ok (.invokevirtual 28, 3) := by decide +kernel
theorem dL_law_261 : decode cL_law 261 = .ok (.aload_n 2, 1) := by decide +kernel
theorem dL_law_262 : decode cL_law 262 = .ok (.aload_n 0, 1) := by decide +kernel
theorem dL_law_263 : decode cL_law 263 = .ok (.iload_n 3, 1) := by decide +kernel
theorem dL_law_264 : decode cL_law 264 = .ok (.iconst 1, 1) := by decide +kernel
theorem dL_law_265 : decode cL_law 265 = .ok (.iadd, 1) := by decide +kernel
theorem dL_law_266 : decode cL_law 266 = .ok (.iaload, 1) := by decide +kernel
theorem dL_law_267 : decode cL_law 267 = .ok (.aload_n 0, 1) := by decide +kernel
theorem dL_law_268 : decode cL_law 268 = .ok (.iload_n 3, 1) := by decide +kernel
theorem dL_law_269 : decode cL_law 269 = .ok (.iconst 2, 1) := by decide +kernel
theorem dL_law_270 : decode cL_law 270 = .ok (.iadd, 1) := by decide +kernel
theorem dL_law_271 : decode cL_law 271 = .ok (.iaload, 1) := by decide +kernel
theorem dL_law_272 : decode cL_law 272 = .ok (.aload_n 0, 1) := by decide +kernel
theorem dL_law_273 : decode cL_law 273 = .ok (.iload_n 3, 1) := by decide +kernel
theorem dL_law_274 : decode cL_law 274 = .ok (.iconst 3, 1) := by decide +kernel
theorem dL_law_275 : decode cL_law 275 = .ok (.iadd, 1) := by decide +kernel
theorem dL_law_276 : decode cL_law 276 = .ok (.iaload, 1) := by decide +kernel
theorem dL_law_277 : decode cL_law 277 = .ok (.aload_n 0, 1) := by decide +kernel
theorem dL_law_278 : decode cL_law 278 = .ok (.iload_n 3, 1) := by decide +kernel
theorem dL_law_279 : decode cL_law 279 = .ok (.iconst 4, 1) := by decide +kernel
theorem dL_law_280 : decode cL_law 280 = .ok (.iadd, 1) := by decide +kernel
theorem dL_law_281 : decode cL_law 281 = .ok (.iaload, 1) := by decide +kernel
theorem dL_law_282 : decode cL_law 282 = .ok (.invokevirtual 32, 3) := by decide +kernel
theorem dL_law_285 : decode cL_law 285 = .ok (.lcmp, 1) := by decide +kernel
theorem dL_law_286 : decode cL_law 286 = .ok (.ifCond .eq 545, 3) := by decide +kernel
theorem dL_law_289 : decode cL_law 289 = .ok (.iconst 0, 1) := by decide +kernel
theorem dL_law_290 : decode cL_law 290 = .ok (.ireturn, 1) := by decide +kernel
theorem dL_law_291 : decode cL_law 291 = .ok (.aload_n 1, 1) := by decide +kernel
theorem dL_law_292 : decode cL_law 292 = .ok (.aload_n 0, 1) := by decide +kernel
theorem dL_law_293 : decode cL_law 293 = .ok (.iload_n 3, 1) := by decide +kernel
theorem dL_law_294 : decode cL_law 294 = .ok (.iconst 1, 1) := by decide +kernel
theorem dL_law_295 : decode cL_law 295 = .ok (.iadd, 1) := by decide +kernel
theorem dL_law_296 : decode cL_law 296 = .ok (.iaload, 1) := by decide +kernel
theorem dL_law_297 : decode cL_law 297 = .ok (.aload_n 0, 1) := by decide +kernel
theorem dL_law_298 : decode cL_law 298 = .ok (.iload_n 3, 1) := by decide +kernel
theorem dL_law_299 : decode cL_law 299 = .ok (.iconst 2, 1) := by decide +kernel
theorem dL_law_300 : decode cL_law 300 = .ok (.iadd, 1) := by decide +kernel
theorem dL_law_301 : decode cL_law 301 = .ok (.iaload, 1) := by decide +kernel
theorem dL_law_302 : decode cL_law 302 = .ok (.invokevirtual 33, 3) := by decide +kernel
theorem dL_law_305 : decode cL_law 305 = .ok (.aload_n 2, 1) := by decide +kernel
theorem dL_law_306 : decode cL_law 306 = .ok (.aload_n 0, 1) := by decide +kernel
theorem dL_law_307 : decode cL_law 307 = .ok (.iload_n 3, 1) := by decide +kernel
theorem dL_law_308 : decode cL_law 308 = .ok (.iconst 1, 1) := by decide +kernel
theorem dL_law_309 : decode cL_law 309 = .ok (.iadd, 1) := by decide +kernel
theorem dL_law_310 : decode cL_law 310 = .ok (.iaload, 1) := by decide +kernel
theorem dL_law_311 : decode cL_law 311 = .ok (.aload_n 0, 1) := by decide +kernel
theorem dL_law_312 : decode cL_law 312 = .ok (.iload_n 3, 1) := by decide +kernel
theorem dL_law_313 : decode cL_law 313 = .ok (.iconst 2, 1) := by decide +kernel
theorem dL_law_314 : decode cL_law 314 = .ok (.iadd, 1) := by decide +kernel
theorem dL_law_315 : decode cL_law 315 = .ok (.iaload, 1) := by decide +kernel
theorem dL_law_316 : decode cL_law 316 = .ok (.invokevirtual 36, 3) := by decide +kernel
theorem dL_law_319 : decode cL_law 319 = .ok (.if_icmp .eq 512, 3) := by decide +kernel
theorem dL_law_322 : decode cL_law 322 = .ok (.iconst 0, 1) := by decide +kernel
theorem dL_law_323 : decode cL_law 323 = .ok (.ireturn, 1) := by decide +kernel
theorem dL_law_324 : decode cL_law 324 = .ok (.aload_n 1, 1) := by decide +kernel
theorem dL_law_325 : decode cL_law 325 = .ok (.aload_n 0, 1) := by decide +kernel
theorem dL_law_326 : decode cL_law 326 = .ok (.iload_n 3, 1) := by decide +kernel
theorem dL_law_327 : decode cL_law 327 = .ok (.iconst 1, 1) := by decide +kernel
theorem dL_law_328 : decode cL_law 328 = .ok (.iadd, 1) := by decide +kernel
theorem dL_law_329 : decode cL_law 329 = .ok (.iaload, 1) := by decide +kernel
theorem dL_law_330 : decode cL_law 330 = .ok (.aload_n 0, 1) := by decide +kernel
theorem dL_law_331 : decode cL_law 331 = .ok (.iload_n 3, 1) := by decide +kernel
theorem dL_law_332 : decode cL_law 332 = .ok (.iconst 2, 1) := by decide +kernel
theorem dL_law_333 : decode cL_law 333 = .ok (.iadd, 1) := by decide +kernel
theorem dL_law_334 : decode cL_law 334 = .ok (.iaload, 1) := by decide +kernel
theorem dL_law_335 : decode cL_law 335 = .ok (.aload_n 0, 1) := by decide +kernel
theorem dL_law_336 : decode cL_law 336 = .ok (.iload_n 3, 1) := by decide +kernel
theorem dL_law_337 : decode cL_law 337 = .ok (.iconst 3, 1) := by decide +kernel
theorem dL_law_338 : decode cL_law 338 = .ok (.iadd, 1) := by decide +kernel
theorem dL_law_339 : decode cL_law 339 = .ok (.iaload, 1) := by decide +kernel
theorem dL_law_340 : decode cL_law 340 = .ok (.invokevirtual 37, 3) := by decide +kernel
theorem dL_law_343 : decode cL_law 343 = .ok (.aload_n 2, 1) := by decide +kernel
theorem dL_law_344 : decode cL_law 344 = .ok (.aload_n 0, 1) := by decide +kernel
theorem dL_law_345 : decode cL_law 345 = .ok (.iload_n 3, 1) := by decide +kernel
theorem dL_law_346 : decode cL_law 346 = .ok (.iconst 1, 1) := by decide +kernel
theorem dL_law_347 : decode cL_law 347 = .ok (.iadd, 1) := by decide +kernel
theorem dL_law_348 : decode cL_law 348 = .ok (.iaload, 1) := by decide +kernel
theorem dL_law_349 : decode cL_law 349 = .ok (.aload_n 0, 1) := by decide +kernel
theorem dL_law_350 : decode cL_law 350 = .ok (.iload_n 3, 1) := by decide +kernel
theorem dL_law_351 : decode cL_law 351 = .ok (.iconst 2, 1) := by decide +kernel
theorem dL_law_352 : decode cL_law 352 = .ok (.iadd, 1) := by decide +kernel
theorem dL_law_353 : decode cL_law 353 = .ok (.iaload, 1) := by decide +kernel
theorem dL_law_354 : decode cL_law 354 = .ok (.aload_n 0, 1) := by decide +kernel
theorem dL_law_355 : decode cL_law 355 = .ok (.iload_n 3, 1) := by decide +kernel
theorem dL_law_356 : decode cL_law 356 = .ok (.iconst 3, 1) := by decide +kernel
theorem dL_law_357 : decode cL_law 357 = .ok (.iadd, 1) := by decide +kernel
theorem dL_law_358 : decode cL_law 358 = .ok (.iaload, 1) := by decide +kernel
theorem dL_law_359 : decode cL_law 359 = .ok (.invokevirtual 41, 3) := by decide +kernel
theorem dL_law_362 : decode cL_law 362 = .ok (.if_icmp .eq 469, 3) := by decide +kernel
theorem dL_law_365 : decode cL_law 365 = .ok (.iconst 0, 1) := by decide +kernel
theorem dL_law_366 : decode cL_law 366 = .ok (.ireturn, 1) := by decide +kernel
theorem dL_law_367 : decode cL_law 367 = .ok (.aload_n 1, 1) := by decide +kernel
theorem dL_law_368 : decode cL_law 368 = .ok (.aload_n 0, 1) := by decide +kernel
theorem dL_law_369 : decode cL_law 369 = .ok (.iload_n 3, 1) := by decide +kernel
theorem dL_law_370 : decode cL_law 370 = .ok (.iconst 1, 1) := by decide +kernel
theorem dL_law_371 : decode cL_law 371 = .ok (.iadd, 1) := by decide +kernel
theorem dL_law_372 : decode cL_law 372 = .ok (.iaload, 1) := by decide +kernel
theorem dL_law_373 : decode cL_law 373 = .ok (.aload_n 0, 1) := by decide +kernel
theorem dL_law_374 : decode cL_law 374 = .ok (.iload_n 3, 1) := by decide +kernel
theorem dL_law_375 : decode cL_law 375 = .ok (.iconst 2, 1) := by decide +kernel
theorem dL_law_376 : decode cL_law 376 = .ok (.iadd, 1) := by decide +kernel
theorem dL_law_377 : decode cL_law 377 = .ok (.iaload, 1) := by decide +kernel
theorem dL_law_378 : decode cL_law 378 = .ok (.aload_n 0, 1) := by decide +kernel
theorem dL_law_379 : decode cL_law 379 = .ok (.iload_n 3, 1) := by decide +kernel
theorem dL_law_380 : decode cL_law 380 = .ok (.iconst 3, 1) := by decide +kernel
theorem dL_law_381 : decode cL_law 381 = .ok (.iadd, 1) := by decide +kernel
theorem dL_law_382 : decode cL_law 382 = .ok (.iaload, 1) := by decide +kernel
theorem dL_law_383 : decode cL_law 383 = .ok (.invokevirtual 42, 3) := by decide +kernel
theorem dL_law_386 : decode cL_law 386 = .ok (.aload_n 2, 1) := by decide +kernel
theorem dL_law_387 : decode cL_law 387 = .ok (.aload_n 0, 1) := by decide +kernel
theorem dL_law_388 : decode cL_law 388 = .ok (.iload_n 3, 1) := by decide +kernel
theorem dL_law_389 : decode cL_law 389 = .ok (.iconst 1, 1) := by decide +kernel
theorem dL_law_390 : decode cL_law 390 = .ok (.iadd, 1) := by decide +kernel
theorem dL_law_391 : decode cL_law 391 = .ok (.iaload, 1) := by decide +kernel
theorem dL_law_392 : decode cL_law 392 = .ok (.aload_n 0, 1) := by decide +kernel
theorem dL_law_393 : decode cL_law 393 = .ok (.iload_n 3, 1) := by decide +kernel
theorem dL_law_394 : decode cL_law 394 = .ok (.iconst 2, 1) := by decide +kernel
theorem dL_law_395 : decode cL_law 395 = .ok (.iadd, 1) := by decide +kernel
theorem dL_law_396 : decode cL_law 396 = .ok (.iaload, 1) := by decide +kernel
theorem dL_law_397 : decode cL_law 397 = .ok (.aload_n 0, 1) := by decide +kernel
theorem dL_law_398 : decode cL_law 398 = .ok (.iload_n 3, 1) := by decide +kernel
theorem dL_law_399 : decode cL_law 399 = .ok (.iconst 3, 1) := by decide +kernel
theorem dL_law_400 : decode cL_law 400 = .ok (.iadd, 1) := by decide +kernel
theorem dL_law_401 : decode cL_law 401 = .ok (.iaload, 1) := by decide +kernel
theorem dL_law_402 : decode cL_law 402 = .ok (.invokevirtual 45, 3) := by decide +kernel
theorem dL_law_405 : decode cL_law 405 = .ok (.if_icmp .eq 426, 3) := by decide +kernel
theorem dL_law_408 : decode cL_law 408 = .ok (.iconst 0, 1) := by decide +kernel
theorem dL_law_409 : decode cL_law 409 = .ok (.ireturn, 1) := by decide +kernel
theorem dL_law_410 : decode cL_law 410 = .ok (.aload_n 1, 1) := by decide +kernel
theorem dL_law_411 : decode cL_law 411 = .ok (.aload_n 0, 1) := by decide +kernel
theorem dL_law_412 : decode cL_law 412 = .ok (.iload_n 3, 1) := by decide +kernel
theorem dL_law_413 : decode cL_law 413 = .ok (.iconst 1, 1) := by decide +kernel
theorem dL_law_414 : decode cL_law 414 = .ok (.iadd, 1) := by decide +kernel
theorem dL_law_415 : decode cL_law 415 = .ok (.iaload, 1) := by decide +kernel
theorem dL_law_416 : decode cL_law 416 = .ok (.aload_n 0, 1) := by decide +kernel
theorem dL_law_417 : decode cL_law 417 = .ok (.iload_n 3, 1) := by decide +kernel
theorem dL_law_418 : decode cL_law 418 = .ok (.iconst 2, 1) := by decide +kernel
theorem dL_law_419 : decode cL_law 419 = .ok (.iadd, 1) := by decide +kernel
theorem dL_law_420 : decode cL_law 420 = .ok (.iaload, 1) := by decide +kernel
theorem dL_law_421 : decode cL_law 421 = .ok (.aload_n 0, 1) := by decide +kernel
theorem dL_law_422 : decode cL_law 422 = .ok (.iload_n 3, 1) := by decide +kernel
theorem dL_law_423 : decode cL_law 423 = .ok (.iconst 3, 1) := by decide +kernel
theorem dL_law_424 : decode cL_law 424 = .ok (.iadd, 1) := by decide +kernel
theorem dL_law_425 : decode cL_law 425 = .ok (.iaload, 1) := by decide +kernel
theorem dL_law_426 : decode cL_law 426 = .ok (.aload_n 0, 1) := by decide +kernel
theorem dL_law_427 : decode cL_law 427 = .ok (.iload_n 3, 1) := by decide +kernel
theorem dL_law_428 : decode cL_law 428 = .ok (.iconst 4, 1) := by decide +kernel
theorem dL_law_429 : decode cL_law 429 = .ok (.iadd, 1) := by decide +kernel
theorem dL_law_430 : decode cL_law 430 = .ok (.iaload, 1) := by decide +kernel
theorem dL_law_431 : decode cL_law 431 = .ok (.aload_n 0, 1) := by decide +kernel
theorem dL_law_432 : decode cL_law 432 = .ok (.iload_n 3, 1) := by decide +kernel
theorem dL_law_433 : decode cL_law 433 = .ok (.iconst 5, 1) := by decide +kernel
theorem dL_law_434 : decode cL_law 434 = .ok (.iadd, 1) := by decide +kernel
theorem dL_law_435 : decode cL_law 435 = .ok (.iaload, 1) := by decide +kernel
theorem dL_law_436 : decode cL_law 436 = .ok (.aload_n 0, 1) := by decide +kernel
theorem dL_law_437 : decode cL_law 437 = .ok (.iload_n 3, 1) := by decide +kernel
theorem dL_law_438 : decode cL_law 438 = .ok (.bipush 6, 2) := by decide +kernel
theorem dL_law_440 : decode cL_law 440 = .ok (.iadd, 1) := by decide +kernel
theorem dL_law_441 : decode cL_law 441 = .ok (.iaload, 1) := by decide +kernel
theorem dL_law_442 : decode cL_law 442 = .ok (.invokevirtual 46, 3) := by decide +kernel
theorem dL_law_445 : decode cL_law 445 = .ok (.aload_n 2, 1) := by decide +kernel
theorem dL_law_446 : decode cL_law 446 = .ok (.aload_n 0, 1) := by decide +kernel
theorem dL_law_447 : decode cL_law 447 = .ok (.iload_n 3, 1) := by decide +kernel
theorem dL_law_448 : decode cL_law 448 = .ok (.iconst 1, 1) := by decide +kernel
theorem dL_law_449 : decode cL_law 449 = .ok (.iadd, 1) := by decide +kernel
theorem dL_law_450 : decode cL_law 450 = .ok (.iaload, 1) := by decide +kernel
theorem dL_law_451 : decode cL_law 451 = .ok (.aload_n 0, 1) := by decide +kernel
theorem dL_law_452 : decode cL_law 452 = .ok (.iload_n 3, 1) := by decide +kernel
theorem dL_law_453 : decode cL_law 453 = .ok (.iconst 2, 1) := by decide +kernel
theorem dL_law_454 : decode cL_law 454 = .ok (.iadd, 1) := by decide +kernel
theorem dL_law_455 : decode cL_law 455 = .ok (.iaload, 1) := by decide +kernel
theorem dL_law_456 : decode cL_law 456 = .ok (.aload_n 0, 1) := by decide +kernel
theorem dL_law_457 : decode cL_law 457 = .ok (.iload_n 3, 1) := by decide +kernel
theorem dL_law_458 : decode cL_law 458 = .ok (.iconst 3, 1) := by decide +kernel
theorem dL_law_459 : decode cL_law 459 = .ok (.iadd, 1) := by decide +kernel
theorem dL_law_460 : decode cL_law 460 = .ok (.iaload, 1) := by decide +kernel
theorem dL_law_461 : decode cL_law 461 = .ok (.aload_n 0, 1) := by decide +kernel
theorem dL_law_462 : decode cL_law 462 = .ok (.iload_n 3, 1) := by decide +kernel
theorem dL_law_463 : decode cL_law 463 = .ok (.iconst 4, 1) := by decide +kernel
theorem dL_law_464 : decode cL_law 464 = .ok (.iadd, 1) := by decide +kernel
theorem dL_law_465 : decode cL_law 465 = .ok (.iaload, 1) := by decide +kernel
theorem dL_law_466 : decode cL_law 466 = .ok (.aload_n 0, 1) := by decide +kernel
theorem dL_law_467 : decode cL_law 467 = .ok (.iload_n 3, 1) := by decide +kernel
theorem dL_law_468 : decode cL_law 468 = .ok (.iconst 5, 1) := by decide +kernel
theorem dL_law_469 : decode cL_law 469 = .ok (.iadd, 1) := by decide +kernel
theorem dL_law_470 : decode cL_law 470 = .ok (.iaload, 1) := by decide +kernel
theorem dL_law_471 : decode cL_law 471 = .ok (.aload_n 0, 1) := by decide +kernel
theorem dL_law_472 : decode cL_law 472 = .ok (.iload_n 3, 1) := by decide +kernel
theorem dL_law_473 : decode cL_law 473 = .ok (.bipush 6, 2) := by decide +kernel
theorem dL_law_475 : decode cL_law 475 = .ok (.iadd, 1) := by decide +kernel
theorem dL_law_476 : decode cL_law 476 = .ok (.iaload, 1) := by decide +kernel
theorem dL_law_477 : decode cL_law 477 = .ok (.invokevirtual 50, 3) := by decide +kernel
theorem dL_law_480 : decode cL_law 480 = .ok (.if_icmp .eq 351, 3) := by decide +kernel
theorem dL_law_483 : decode cL_law 483 = .ok (.iconst 0, 1) := by decide +kernel
theorem dL_law_484 : decode cL_law 484 = .ok (.ireturn, 1) := by decide +kernel
theorem dL_law_485 : decode cL_law 485 = .ok (.aload_n 1, 1) := by decide +kernel
theorem dL_law_486 : decode cL_law 486 = .ok (.aload_n 0, 1) := by decide +kernel
theorem dL_law_487 : decode cL_law 487 = .ok (.iload_n 3, 1) := by decide +kernel
theorem dL_law_488 : decode cL_law 488 = .ok (.iconst 1, 1) := by decide +kernel
theorem dL_law_489 : decode cL_law 489 = .ok (.iadd, 1) := by decide +kernel
theorem dL_law_490 : decode cL_law 490 = .ok (.iaload, 1) := by decide +kernel
theorem dL_law_491 : decode cL_law 491 = .ok (.aload_n 0, 1) := by decide +kernel
theorem dL_law_492 : decode cL_law 492 = .ok (.iload_n 3, 1) := by decide +kernel
theorem dL_law_493 : decode cL_law 493 = .ok (.iconst 2, 1) := by decide +kernel
theorem dL_law_494 : decode cL_law 494 = .ok (.iadd, 1) := by decide +kernel
theorem dL_law_495 : decode cL_law 495 = .ok (.iaload, 1) := by decide +kernel
theorem dL_law_496 : decode cL_law 496 = .ok (.aload_n 0, 1) := by decide +kernel
theorem dL_law_497 : decode cL_law 497 = .ok (.iload_n 3, 1) := by decide +kernel
theorem dL_law_498 : decode cL_law 498 = .ok (.iconst 3, 1) := by decide +kernel
theorem dL_law_499 : decode cL_law 499 = .ok (.iadd, 1) := by decide +kernel
theorem dL_law_500 : decode cL_law 500 = .ok (.iaload, 1) := by decide +kernel
theorem dL_law_501 : decode cL_law 501 = .ok (.aload_n 0, 1) := by decide +kernel
theorem dL_law_502 : decode cL_law 502 = .ok (.iload_n 3, 1) := by decide +kernel
theorem dL_law_503 : decode cL_law 503 = .ok (.iconst 4, 1) := by decide +kernel
theorem dL_law_504 : decode cL_law 504 = .ok (.iadd, 1) := by decide +kernel
theorem dL_law_505 : decode cL_law 505 = .ok (.iaload, 1) := by decide +kernel
theorem dL_law_506 : decode cL_law 506 = .ok (.aload_n 0, 1) := by decide +kernel
theorem dL_law_507 : decode cL_law 507 = .ok (.iload_n 3, 1) := by decide +kernel
theorem dL_law_508 : decode cL_law 508 = .ok (.iconst 5, 1) := by decide +kernel
theorem dL_law_509 : decode cL_law 509 = .ok (.iadd, 1) := by decide +kernel
theorem dL_law_510 : decode cL_law 510 = .ok (.iaload, 1) := by decide +kernel
theorem dL_law_511 : decode cL_law 511 = .ok (.invokevirtual 51, 3) := by decide +kernel
theorem dL_law_514 : decode cL_law 514 = .ok (.aload_n 2, 1) := by decide +kernel
theorem dL_law_515 : decode cL_law 515 = .ok (.aload_n 0, 1) := by decide +kernel
theorem dL_law_516 : decode cL_law 516 = .ok (.iload_n 3, 1) := by decide +kernel
theorem dL_law_517 : decode cL_law 517 = .ok (.iconst 1, 1) := by decide +kernel
theorem dL_law_518 : decode cL_law 518 = .ok (.iadd, 1) := by decide +kernel
theorem dL_law_519 : decode cL_law 519 = .ok (.iaload, 1) := by decide +kernel
theorem dL_law_520 : decode cL_law 520 = .ok (.aload_n 0, 1) := by decide +kernel
theorem dL_law_521 : decode cL_law 521 = .ok (.iload_n 3, 1) := by decide +kernel
theorem dL_law_522 : decode cL_law 522 = .ok (.iconst 2, 1) := by decide +kernel
theorem dL_law_523 : decode cL_law 523 = .ok (.iadd, 1) := by decide +kernel
theorem dL_law_524 : decode cL_law 524 = .ok (.iaload, 1) := by decide +kernel
theorem dL_law_525 : decode cL_law 525 = .ok (.aload_n 0, 1) := by decide +kernel
theorem dL_law_526 : decode cL_law 526 = .ok (.iload_n 3, 1) := by decide +kernel
theorem dL_law_527 : decode cL_law 527 = .ok (.iconst 3, 1) := by decide +kernel
theorem dL_law_528 : decode cL_law 528 = .ok (.iadd, 1) := by decide +kernel
theorem dL_law_529 : decode cL_law 529 = .ok (.iaload, 1) := by decide +kernel
theorem dL_law_530 : decode cL_law 530 = .ok (.aload_n 0, 1) := by decide +kernel
theorem dL_law_531 : decode cL_law 531 = .ok (.iload_n 3, 1) := by decide +kernel
theorem dL_law_532 : decode cL_law 532 = .ok (.iconst 4, 1) := by decide +kernel
theorem dL_law_533 : decode cL_law 533 = .ok (.iadd, 1) := by decide +kernel
theorem dL_law_534 : decode cL_law 534 = .ok (.iaload, 1) := by decide +kernel
theorem dL_law_535 : decode cL_law 535 = .ok (.aload_n 0, 1) := by decide +kernel
theorem dL_law_536 : decode cL_law 536 = .ok (.iload_n 3, 1) := by decide +kernel
theorem dL_law_537 : decode cL_law 537 = .ok (.iconst 5, 1) := by decide +kernel
theorem dL_law_538 : decode cL_law 538 = .ok (.iadd, 1) := by decide +kernel
theorem dL_law_539 : decode cL_law 539 = .ok (.iaload, 1) := by decide +kernel
theorem dL_law_540 : decode cL_law 540 = .ok (.invokevirtual 55, 3) := by decide +kernel
theorem dL_law_543 : decode cL_law 543 = .ok (.if_icmp .eq 288, 3) := by decide +kernel
theorem dL_law_546 : decode cL_law 546 = .ok (.iconst 0, 1) := by decide +kernel
theorem dL_law_547 : decode cL_law 547 = .ok (.ireturn, 1) := by decide +kernel
theorem dL_law_548 : decode cL_law 548 = .ok (.aload_n 1, 1) := by decide +kernel
theorem dL_law_549 : decode cL_law 549 = .ok (.aload_n 0, 1) := by decide +kernel
theorem dL_law_550 : decode cL_law 550 = .ok (.iload_n 3, 1) := by decide +kernel
theorem dL_law_551 : decode cL_law 551 = .ok (.iconst 1, 1) := by decide +kernel
theorem dL_law_552 : decode cL_law 552 = .ok (.iadd, 1) := by decide +kernel
theorem dL_law_553 : decode cL_law 553 = .ok (.iaload, 1) := by decide +kernel
theorem dL_law_554 : decode cL_law 554 = .ok (.aload_n 0, 1) := by decide +kernel
theorem dL_law_555 : decode cL_law 555 = .ok (.iload_n 3, 1) := by decide +kernel
theorem dL_law_556 : decode cL_law 556 = .ok (.iconst 2, 1) := by decide +kernel
theorem dL_law_557 : decode cL_law 557 = .ok (.iadd, 1) := by decide +kernel
theorem dL_law_558 : decode cL_law 558 = .ok (.iaload, 1) := by decide +kernel
theorem dL_law_559 : decode cL_law 559 = .ok (.aload_n 0, 1) := by decide +kernel
theorem dL_law_560 : decode cL_law 560 = .ok (.iload_n 3, 1) := by decide +kernel
theorem dL_law_561 : decode cL_law 561 = .ok (.iconst 3, 1) := by decide +kernel
theorem dL_law_562 : decode cL_law 562 = .ok (.iadd, 1) := by decide +kernel
theorem dL_law_563 : decode cL_law 563 = .ok (.iaload, 1) := by decide +kernel
theorem dL_law_564 : decode cL_law 564 = .ok (.invokevirtual 56, 3) := by decide +kernel
theorem dL_law_567 : decode cL_law 567 = .ok (.aload_n 2, 1) := by decide +kernel
theorem dL_law_568 : decode cL_law 568 = .ok (.aload_n 0, 1) := by decide +kernel
theorem dL_law_569 : decode cL_law 569 = .ok (.iload_n 3, 1) := by decide +kernel
theorem dL_law_570 : decode cL_law 570 = .ok (.iconst 1, 1) := by decide +kernel
theorem dL_law_571 : decode cL_law 571 = .ok (.iadd, 1) := by decide +kernel
theorem dL_law_572 : decode cL_law 572 = .ok (.iaload, 1) := by decide +kernel
theorem dL_law_573 : decode cL_law 573 = .ok (.aload_n 0, 1) := by decide +kernel
theorem dL_law_574 : decode cL_law 574 = .ok (.iload_n 3, 1) := by decide +kernel
theorem dL_law_575 : decode cL_law 575 = .ok (.iconst 2, 1) := by decide +kernel
theorem dL_law_576 : decode cL_law 576 = .ok (.iadd, 1) := by decide +kernel
theorem dL_law_577 : decode cL_law 577 = .ok (.iaload, 1) := by decide +kernel
theorem dL_law_578 : decode cL_law 578 = .ok (.aload_n 0, 1) := by decide +kernel
theorem dL_law_579 : decode cL_law 579 = .ok (.iload_n 3, 1) := by decide +kernel
theorem dL_law_580 : decode cL_law 580 = .ok (.iconst 3, 1) := by decide +kernel
theorem dL_law_581 : decode cL_law 581 = .ok (.iadd, 1) := by decide +kernel
theorem dL_law_582 : decode cL_law 582 = .ok (.iaload, 1) := by decide +kernel
theorem dL_law_583 : decode cL_law 583 = .ok (.invokevirtual 59, 3) := by decide +kernel
theorem dL_law_586 : decode cL_law 586 = .ok (.if_icmp .eq 245, 3) := by decide +kernel
theorem dL_law_589 : decode cL_law 589 = .ok (.iconst 0, 1) := by decide +kernel
theorem dL_law_590 : decode cL_law 590 = .ok (.ireturn, 1) := by decide +kernel
theorem dL_law_591 : decode cL_law 591 = .ok (.aload_n 1, 1) := by decide +kernel
theorem dL_law_592 : decode cL_law 592 = .ok (.aload_n 0, 1) := by decide +kernel
theorem dL_law_593 : decode cL_law 593 = .ok (.iload_n 3, 1) := by decide +kernel
theorem dL_law_594 : decode cL_law 594 = .ok (.iconst 1, 1) := by decide +kernel
theorem dL_law_595 : decode cL_law 595 = .ok (.iadd, 1) := by decide +kernel
theorem dL_law_596 : decode cL_law 596 = .ok (.iaload, 1) := by decide +kernel
theorem dL_law_597 : decode cL_law 597 = .ok (.invokevirtual 60, 3) := by decide +kernel
theorem dL_law_600 : decode cL_law 600 = .ok (.aload_n 2, 1) := by decide +kernel
theorem dL_law_601 : decode cL_law 601 = .ok (.aload_n 0, 1) := by decide +kernel
theorem dL_law_602 : decode cL_law 602 = .ok (.iload_n 3, 1) := by decide +kernel
theorem dL_law_603 : decode cL_law 603 = .ok (.iconst 1, 1) := by decide +kernel
theorem dL_law_604 : decode cL_law 604 = .ok (.iadd, 1) := by decide +kernel
theorem dL_law_605 : decode cL_law 605 = .ok (.iaload, 1) := by decide +kernel
theorem dL_law_606 : decode cL_law 606 = .ok (.invokevirtual 63, 3) := by decide +kernel
theorem dL_law_609 : decode cL_law 609 = .ok (.if_icmp .eq 222, 3) := by decide +kernel
theorem dL_law_612 : decode cL_law 612 = .ok (.iconst 0, 1) := by decide +kernel
theorem dL_law_613 : decode cL_law 613 = .ok (.ireturn, 1) := by decide +kernel
theorem dL_law_614 : decode cL_law 614 = .ok (.aload_n 1, 1) := by decide +kernel
theorem dL_law_615 : decode cL_law 615 = .ok (.aload_n 0, 1) := by decide +kernel
theorem dL_law_616 : decode cL_law 616 = .ok (.iload_n 3, 1) := by decide +kernel
theorem dL_law_617 : decode cL_law 617 = .ok (.iconst 1, 1) := by decide +kernel
theorem dL_law_618 : decode cL_law 618 = .ok (.iadd, 1) := by decide +kernel
theorem dL_law_619 : decode cL_law 619 = .ok (.iaload, 1) := by decide +kernel
theorem dL_law_620 : decode cL_law 620 = .ok (.invokevirtual 64, 3) := by decide +kernel
theorem dL_law_623 : decode cL_law 623 = .ok (.aload_n 2, 1) := by decide +kernel
theorem dL_law_624 : decode cL_law 624 = .ok (.aload_n 0, 1) := by decide +kernel
theorem dL_law_625 : decode cL_law 625 = .ok (.iload_n 3, 1) := by decide +kernel
theorem dL_law_626 : decode cL_law 626 = .ok (.iconst 1, 1) := by decide +kernel
theorem dL_law_627 : decode cL_law 627 = .ok (.iadd, 1) := by decide +kernel
theorem dL_law_628 : decode cL_law 628 = .ok (.iaload, 1) := by decide +kernel
theorem dL_law_629 : decode cL_law 629 = .ok (.invokevirtual 67, 3) := by decide +kernel
theorem dL_law_632 : decode cL_law 632 = .ok (.if_icmp .eq 199, 3) := by decide +kernel
theorem dL_law_635 : decode cL_law 635 = .ok (.iconst 0, 1) := by decide +kernel
theorem dL_law_636 : decode cL_law 636 = .ok (.ireturn, 1) := by decide +kernel
theorem dL_law_637 : decode cL_law 637 = .ok (.aload_n 1, 1) := by decide +kernel
theorem dL_law_638 : decode cL_law 638 = .ok (.aload_n 0, 1) := by decide +kernel
theorem dL_law_639 : decode cL_law 639 = .ok (.iload_n 3, 1) := by decide +kernel
theorem dL_law_640 : decode cL_law 640 = .ok (.iconst 1, 1) := by decide +kernel
theorem dL_law_641 : decode cL_law 641 = .ok (.iadd, 1) := by decide +kernel
theorem dL_law_642 : decode cL_law 642 = .ok (.iaload, 1) := by decide +kernel
theorem dL_law_643 : decode cL_law 643 = .ok (.invokevirtual 68, 3) := by decide +kernel
theorem dL_law_646 : decode cL_law 646 = .ok (.aload_n 2, 1) := by decide +kernel
theorem dL_law_647 : decode cL_law 647 = .ok (.aload_n 0, 1) := by decide +kernel
theorem dL_law_648 : decode cL_law 648 = .ok (.iload_n 3, 1) := by decide +kernel
theorem dL_law_649 : decode cL_law 649 = .ok (.iconst 1, 1) := by decide +kernel
theorem dL_law_650 : decode cL_law 650 = .ok (.iadd, 1) := by decide +kernel
theorem dL_law_651 : decode cL_law 651 = .ok (.iaload, 1) := by decide +kernel
theorem dL_law_652 : decode cL_law 652 = .ok (.invokevirtual 71, 3) := by decide +kernel
theorem dL_law_655 : decode cL_law 655 = .ok (.if_icmp .eq 176, 3) := by decide +kernel
theorem dL_law_658 : decode cL_law 658 = .ok (.iconst 0, 1) := by decide +kernel
theorem dL_law_659 : decode cL_law 659 = .ok (.ireturn, 1) := by decide +kernel
theorem dL_law_660 : decode cL_law 660 = .ok (.aload_n 1, 1) := by decide +kernel
theorem dL_law_661 : decode cL_law 661 = .ok (.aload_n 0, 1) := by decide +kernel
theorem dL_law_662 : decode cL_law 662 = .ok (.iload_n 3, 1) := by decide +kernel
theorem dL_law_663 : decode cL_law 663 = .ok (.iconst 1, 1) := by decide +kernel
theorem dL_law_664 : decode cL_law 664 = .ok (.iadd, 1) := by decide +kernel
theorem dL_law_665 : decode cL_law 665 = .ok (.iaload, 1) := by decide +kernel
theorem dL_law_666 : decode cL_law 666 = .ok (.invokevirtual 72, 3) := by decide +kernel
theorem dL_law_669 : decode cL_law 669 = .ok (.aload_n 2, 1) := by decide +kernel
theorem dL_law_670 : decode cL_law 670 = .ok (.aload_n 0, 1) := by decide +kernel
theorem dL_law_671 : decode cL_law 671 = .ok (.iload_n 3, 1) := by decide +kernel
theorem dL_law_672 : decode cL_law 672 = .ok (.iconst 1, 1) := by decide +kernel
theorem dL_law_673 : decode cL_law 673 = .ok (.iadd, 1) := by decide +kernel
theorem dL_law_674 : decode cL_law 674 = .ok (.iaload, 1) := by decide +kernel
theorem dL_law_675 : decode cL_law 675 = .ok (.invokevirtual 75, 3) := by decide +kernel
theorem dL_law_678 : decode cL_law 678 = .ok (.if_icmp .eq 153, 3) := by decide +kernel
theorem dL_law_681 : decode cL_law 681 = .ok (.iconst 0, 1) := by decide +kernel
theorem dL_law_682 : decode cL_law 682 = .ok (.ireturn, 1) := by decide +kernel
theorem dL_law_683 : decode cL_law 683 = .ok (.aload_n 1, 1) := by decide +kernel
theorem dL_law_684 : decode cL_law 684 = .ok (.aload_n 0, 1) := by decide +kernel
theorem dL_law_685 : decode cL_law 685 = .ok (.iload_n 3, 1) := by decide +kernel
theorem dL_law_686 : decode cL_law 686 = .ok (.iconst 1, 1) := by decide +kernel
theorem dL_law_687 : decode cL_law 687 = .ok (.iadd, 1) := by decide +kernel
theorem dL_law_688 : decode cL_law 688 = .ok (.iaload, 1) := by decide +kernel
theorem dL_law_689 : decode cL_law 689 = .ok (.invokevirtual 76, 3) := by decide +kernel
theorem dL_law_692 : decode cL_law 692 = .ok (.aload_n 2, 1) := by decide +kernel
theorem dL_law_693 : decode cL_law 693 = .ok (.aload_n 0, 1) := by decide +kernel
theorem dL_law_694 : decode cL_law 694 = .ok (.iload_n 3, 1) := by decide +kernel
theorem dL_law_695 : decode cL_law 695 = .ok (.iconst 1, 1) := by decide +kernel
theorem dL_law_696 : decode cL_law 696 = .ok (.iadd, 1) := by decide +kernel
theorem dL_law_697 : decode cL_law 697 = .ok (.iaload, 1) := by decide +kernel
theorem dL_law_698 : decode cL_law 698 = .ok (.invokevirtual 79, 3) := by decide +kernel
theorem dL_law_701 : decode cL_law 701 = .ok (.if_icmp .eq 130, 3) := by decide +kernel
theorem dL_law_704 : decode cL_law 704 = .ok (.iconst 0, 1) := by decide +kernel
theorem dL_law_705 : decode cL_law 705 = .ok (.ireturn, 1) := by decide +kernel
theorem dL_law_706 : decode cL_law 706 = .ok (.aload_n 1, 1) := by decide +kernel
theorem dL_law_707 : decode cL_law 707 = .ok (.aload_n 0, 1) := by decide +kernel
theorem dL_law_708 : decode cL_law 708 = .ok (.iload_n 3, 1) := by decide +kernel
theorem dL_law_709 : decode cL_law 709 = .ok (.iconst 1, 1) := by decide +kernel
theorem dL_law_710 : decode cL_law 710 = .ok (.iadd, 1) := by decide +kernel
theorem dL_law_711 : decode cL_law 711 = .ok (.iaload, 1) := by decide +kernel
theorem dL_law_712 : decode cL_law 712 = .ok (.aload_n 0, 1) := by decide +kernel
theorem dL_law_713 : decode cL_law 713 = .ok (.iload_n 3, 1) := by decide +kernel
theorem dL_law_714 : decode cL_law 714 = .ok (.iconst 2, 1) := by decide +kernel
theorem dL_law_715 : decode cL_law 715 = .ok (.iadd, 1) := by decide +kernel
theorem dL_law_716 : decode cL_law 716 = .ok (.iaload, 1) := by decide +kernel
theorem dL_law_717 : decode cL_law 717 = .ok (.aload_n 0, 1) := by decide +kernel
theorem dL_law_718 : decode cL_law 718 = .ok (.iload_n 3, 1) := by decide +kernel
theorem dL_law_719 : decode cL_law 719 = .ok (.iconst 3, 1) := by decide +kernel
theorem dL_law_720 : decode cL_law 720 = .ok (.iadd, 1) := by decide +kernel
theorem dL_law_721 : decode cL_law 721 = .ok (.iaload, 1) := by decide +kernel
theorem dL_law_722 : decode cL_law 722 = .ok (.invokevirtual 80, 3) := by decide +kernel
theorem dL_law_725 : decode cL_law 725 = .ok (.aload_n 2, 1) := by decide +kernel
theorem dL_law_726 : decode cL_law 726 = .ok (.aload_n 0, 1) := by decide +kernel
theorem dL_law_727 : decode cL_law 727 = .ok (.iload_n 3, 1) := by decide +kernel
theorem dL_law_728 : decode cL_law 728 = .ok (.iconst 1, 1) := by decide +kernel
theorem dL_law_729 : decode cL_law 729 = .ok (.iadd, 1) := by decide +kernel
theorem dL_law_730 : decode cL_law 730 = .ok (.iaload, 1) := by decide +kernel
theorem dL_law_731 : decode cL_law 731 = .ok (.aload_n 0, 1) := by decide +kernel
theorem dL_law_732 : decode cL_law 732 = .ok (.iload_n 3, 1) := by decide +kernel
theorem dL_law_733 : decode cL_law 733 = .ok (.iconst 2, 1) := by decide +kernel
theorem dL_law_734 : decode cL_law 734 = .ok (.iadd, 1) := by decide +kernel
theorem dL_law_735 : decode cL_law 735 = .ok (.iaload, 1) := by decide +kernel
theorem dL_law_736 : decode cL_law 736 = .ok (.aload_n 0, 1) := by decide +kernel
theorem dL_law_737 : decode cL_law 737 = .ok (.iload_n 3, 1) := by decide +kernel
theorem dL_law_738 : decode cL_law 738 = .ok (.iconst 3, 1) := by decide +kernel
theorem dL_law_739 : decode cL_law 739 = .ok (.iadd, 1) := by decide +kernel
theorem dL_law_740 : decode cL_law 740 = .ok (.iaload, 1) := by decide +kernel
theorem dL_law_741 : decode cL_law 741 = .ok (.invokevirtual 83, 3) := by decide +kernel
theorem dL_law_744 : decode cL_law 744 = .ok (.if_icmp .eq 87, 3) := by decide +kernel
theorem dL_law_747 : decode cL_law 747 = .ok (.iconst 0, 1) := by decide +kernel
theorem dL_law_748 : decode cL_law 748 = .ok (.ireturn, 1) := by decide +kernel
theorem dL_law_749 : decode cL_law 749 = .ok (.aload_n 1, 1) := by decide +kernel
theorem dL_law_750 : decode cL_law 750 = .ok (.invokevirtual 84, 3) := by decide +kernel
theorem dL_law_753 : decode cL_law 753 = .ok (.aload_n 2, 1) := by decide +kernel
theorem dL_law_754 : decode cL_law 754 = .ok (.invokevirtual 88, 3) := by decide +kernel
theorem dL_law_757 : decode cL_law 757 = .ok (.if_icmp .eq 74, 3) := by decide +kernel
theorem dL_law_760 : decode cL_law 760 = .ok (.iconst 0, 1) := by decide +kernel
theorem dL_law_761 : decode cL_law 761 = .ok (.ireturn, 1) := by decide +kernel
theorem dL_law_762 : decode cL_law 762 = .ok (.aload_n 1, 1) := by decide +kernel
theorem dL_law_763 : decode cL_law 763 = .ok (.aload_n 0, 1) := by decide +kernel
theorem dL_law_764 : decode cL_law 764 = .ok (.iload_n 3, 1) := by decide +kernel
theorem dL_law_765 : decode cL_law 765 = .ok (.iconst 1, 1) := by decide +kernel
theorem dL_law_766 : decode cL_law 766 = .ok (.iadd, 1) := by decide +kernel
theorem dL_law_767 : decode cL_law 767 = .ok (.iaload, 1) := by decide +kernel
theorem dL_law_768 : decode cL_law 768 = .ok (.invokevirtual 89, 3) := by decide +kernel
theorem dL_law_771 : decode cL_law 771 = .ok (.aload_n 2, 1) := by decide +kernel
theorem dL_law_772 : decode cL_law 772 = .ok (.aload_n 0, 1) := by decide +kernel
theorem dL_law_773 : decode cL_law 773 = .ok (.iload_n 3, 1) := by decide +kernel
theorem dL_law_774 : decode cL_law 774 = .ok (.iconst 1, 1) := by decide +kernel
theorem dL_law_775 : decode cL_law 775 = .ok (.iadd, 1) := by decide +kernel
theorem dL_law_776 : decode cL_law 776 = .ok (.iaload, 1) := by decide +kernel
theorem dL_law_777 : decode cL_law 777 = .ok (.invokevirtual 92, 3) := by decide +kernel
theorem dL_law_780 : decode cL_law 780 = .ok (.if_icmp .eq 51, 3) := by decide +kernel
theorem dL_law_783 : decode cL_law 783 = .ok (.iconst 0, 1) := by decide +kernel
theorem dL_law_784 : decode cL_law 784 = .ok (.ireturn, 1) := by decide +kernel
theorem dL_law_785 : decode cL_law 785 = .ok (.aload_n 1, 1) := by decide +kernel
theorem dL_law_786 : decode cL_law 786 = .ok (.aload_n 0, 1) := by decide +kernel
theorem dL_law_787 : decode cL_law 787 = .ok (.iload_n 3, 1) := by decide +kernel
theorem dL_law_788 : decode cL_law 788 = .ok (.iconst 1, 1) := by decide +kernel
theorem dL_law_789 : decode cL_law 789 = .ok (.iadd, 1) := by decide +kernel
theorem dL_law_790 : decode cL_law 790 = .ok (.iaload, 1) := by decide +kernel
theorem dL_law_791 : decode cL_law 791 = .ok (.invokevirtual 93, 3) := by decide +kernel
theorem dL_law_794 : decode cL_law 794 = .ok (.aload_n 2, 1) := by decide +kernel
theorem dL_law_795 : decode cL_law 795 = .ok (.aload_n 0, 1) := by decide +kernel
theorem dL_law_796 : decode cL_law 796 = .ok (.iload_n 3, 1) := by decide +kernel
theorem dL_law_797 : decode cL_law 797 = .ok (.iconst 1, 1) := by decide +kernel
theorem dL_law_798 : decode cL_law 798 = .ok (.iadd, 1) := by decide +kernel
theorem dL_law_799 : decode cL_law 799 = .ok (.iaload, 1) := by decide +kernel
theorem dL_law_800 : decode cL_law 800 = .ok (.invokevirtual 96, 3) := by decide +kernel
theorem dL_law_803 : decode cL_law 803 = .ok (.if_icmp .eq 28, 3) := by decide +kernel
theorem dL_law_806 : decode cL_law 806 = .ok (.iconst 0, 1) := by decide +kernel
theorem dL_law_807 : decode cL_law 807 = .ok (.ireturn, 1) := by decide +kernel
theorem dL_law_808 : decode cL_law 808 = .ok (.aload_n 1, 1) := by decide +kernel
theorem dL_law_809 : decode cL_law 809 = .ok (.aload_n 0, 1) := by decide +kernel
theorem dL_law_810 : decode cL_law 810 = .ok (.iload_n 3, 1) := by decide +kernel
theorem dL_law_811 : decode cL_law 811 = .ok (.iconst 1, 1) := by decide +kernel
theorem dL_law_812 : decode cL_law 812 = .ok (.iadd, 1) := by decide +kernel
theorem dL_law_813 : decode cL_law 813 = .ok (.iaload, 1) := by decide +kernel
theorem dL_law_814 : decode cL_law 814 = .ok (.invokevirtual 97, 3) := by decide +kernel
theorem dL_law_817 : decode cL_law 817 = .ok (.aload_n 2, 1) := by decide +kernel
theorem dL_law_818 : decode cL_law 818 = .ok (.aload_n 0, 1) := by decide +kernel
theorem dL_law_819 : decode cL_law 819 = .ok (.iload_n 3, 1) := by decide +kernel
theorem dL_law_820 : decode cL_law 820 = .ok (.iconst 1, 1) := by decide +kernel
theorem dL_law_821 : decode cL_law 821 = .ok (.iadd, 1) := by decide +kernel
theorem dL_law_822 : decode cL_law 822 = .ok (.iaload, 1) := by decide +kernel
theorem dL_law_823 : decode cL_law 823 = .ok (.invokevirtual 100, 3) := by decide +kernel
theorem dL_law_826 : decode cL_law 826 = .ok (.if_icmp .eq 5, 3) := by decide +kernel
theorem dL_law_829 : decode cL_law 829 = .ok (.iconst 0, 1) := by decide +kernel
theorem dL_law_830 : decode cL_law 830 = .ok (.ireturn, 1) := by decide +kernel
theorem dL_law_831 : decode cL_law 831 = .ok (.iinc 3 7, 3) := by decide +kernel
theorem dL_law_834 : decode cL_law 834 = .ok (.goto (-816), 3) := by decide +kernel
theorem dL_law_837 : decode cL_law 837 = .ok (.iconst 1, 1) := by decide +kernel
theorem dL_law_838 : decode cL_law 838 = .ok (.ireturn, 1) := by decide +kernel
