theorem dX8_init_0 : decode cX8_init 0 = .ok (.aload_n 0, 1) := by decide +kernel
theorem dX8_init_1 : decode cX8_init 1 = .ok (.invokespecial 1, 3) := by decide +kernel
theorem dX8_init_4 : decode cX8_init 4 = .ok (.aload_n 0, 1) := by decide +kernel
theorem dX8_init_5 : decode cX8_init 5 = .ok (.new 7, 3) := by decide +kernel
theorem dX8_init_8 : decode cX8_init 8 = .ok (.dup, 1) := by decide +kernel
theorem dX8_init_9 : decode cX8_init 9 = .ok (.invokespecial 9, 3) := by decide +kernel
theorem dX8_init_12 : decode cX8_init 12 = .ok (.putfield 10, 3) := by decide +kernel
theorem dX8_init_15 : decode cX8_init 15 = .ok (.aload_n 0, 1) := by decide +kernel
theorem dX8_init_16 : decode cX8_init 16 = .ok (.new 16, 3) := by decide +kernel
theorem dX8_init_19 : decode cX8_init 19 = .ok (.dup, 1) := by decide +kernel
theorem dX8_init_20 : decode cX8_init 20 = .ok (.aload_n 0, 1) := by decide +kernel
theorem dX8_init_21 : decode cX8_init 21 = .ok (.getfield 10, 3) := by decide +kernel
theorem dX8_init_24 : decode cX8_init 24 = .ok (.invokespecial 18, 3) := by decide +kernel
theorem dX8_init_27 : decode cX8_init 27 = .ok (.putfield 21, 3) := by decide +kernel
theorem dX8_init_30 : decode cX8_init 30 = .ok (.aload_n 0, 1) := by decide +kernel
theorem dX8_init_31 : decode cX8_init 31 = .ok (.new 25, 3) := by decide +kernel
theorem dX8_init_34 : decode cX8_init 34 = .ok (.dup, 1) := by decide +kernel
theorem dX8_init_35 : decode cX8_init 35 = .ok (.invokespecial 27, 3) := by decide +kernel
theorem dX8_init_38 : decode cX8_init 38 = .ok (.putfield 28, 3) := by decide +kernel
theorem dX8_init_41 : decode cX8_init 41 = .ok (.aload_n 0, 1) := by decide +kernel
theorem dX8_init_42 : decode cX8_init 42 = .ok (.new 32, 3) := by decide +kernel
theorem dX8_init_45 : decode cX8_init 45 = .ok (.dup, 1) := by decide +kernel
theorem dX8_init_46 : decode cX8_init 46 = .ok (.invokespecial 34, 3) := by decide +kernel
theorem dX8_init_49 : decode cX8_init 49 = .ok (.putfield 35, 3) := by decide +kernel
theorem dX8_init_52 : decode cX8_init 52 = .ok (.aload_n 0, 1) := by decide +kernel
theorem dX8_init_53 : decode cX8_init 53 = .ok (.new 32, 3) := by decide +kernel
theorem dX8_init_56 : decode cX8_init 56 = .ok (.dup, 1) := by decide +kernel
theorem dX8_init_57 : decode cX8_init 57 = .ok (.invokespecial 34, 3) := by decide +kernel
theorem dX8_init_60 : decode cX8_init 60 = .ok (.putfield 39, 3) := by decide +kernel
theorem dX8_init_63 : decode cX8_init 63 = .ok (.aload_n 0, 1) := by decide +kernel
theorem dX8_init_64 : decode cX8_init 64 = .ok (.new 32, 3) := by decide +kernel
theorem dX8_init_67 : decode cX8_init 67 = .ok (.dup, 1) := by decide +kernel
theorem dX8_init_68 : decode cX8_init 68 = .ok (.invokespecial 34, 3) := by decide +kernel
theorem dX8_init_71 : decode cX8_init 71 = .ok (.putfield 42, 3) := by decide +kernel
theorem dX8_init_74 : decode cX8_init 74 = .ok (.aload_n 0, 1) := by decide +kernel
theorem dX8_init_75 : decode cX8_init 75 = .ok (.new 45, 3) := by decide +kernel
theorem dX8_init_78 : decode cX8_init 78 = .ok (.dup, 1) := by decide +kernel
theorem dX8_init_79 : decode cX8_init 79 = .ok (.aload_n 0, 1) := by decide +kernel
theorem dX8_init_80 : decode cX8_init 80 = .ok (.getfield 42, 3) := by decide +kernel
theorem dX8_init_83 : decode cX8_init 83 = .ok (.aload_n 0, 1) := by decide +kernel
theorem dX8_init_84 : decode cX8_init 84 = .ok (.getfield 28, 3) := by decide +kernel
theorem dX8_init_87 : decode cX8_init 87 = .ok (.invokespecial 47, 3) := by decide +kernel
theorem dX8_init_90 : decode cX8_init 90 = .ok (.putfield 50, 3) := by decide +kernel
theorem dX8_init_93 : decode cX8_init 93 = .ok (.aload_n 0, 1) := by decide +kernel
theorem dX8_init_94 : decode cX8_init 94 = .ok (.new 54, 3) := by decide +kernel
theorem dX8_init_97 : decode cX8_init 97 = .ok (.dup, 1) := by decide +kernel
theorem dX8_init_98 : decode cX8_init 98 = .ok (.aload_n 0, 1) := by decide +kernel
theorem dX8_init_99 : decode cX8_init 99 = .ok (.getfield 42, 3) := by decide +kernel
theorem dX8_init_102 : decode cX8_init 102 = .ok (.aload_n 0, 1) := by decide +kernel
theorem dX8_init_103 : decode cX8_init 103 = .ok (.getfield 28, 3) := by decide +kernel
theorem dX8_init_106 : decode cX8_init 106 = .ok (.invokespecial 56, 3) := by decide +kernel
theorem dX8_init_109 : decode cX8_init 109 = .ok (.putfield 57, 3) := by decide +kernel
theorem dX8_init_112 : decode cX8_init 112 = .ok (.aload_n 0, 1) := by decide +kernel
theorem dX8_init_113 : decode cX8_init 113 = .ok (.iconst 0, 1) := by decide +kernel
theorem dX8_init_114 : decode cX8_init 114 = .ok (.putfield 61, 3) := by decide +kernel
theorem dX8_init_117 : decode cX8_init 117 = .ok (.return_, 1) := by decide +kernel
theorem dX8_feed_0 : decode cX8_feed 0 = .ok (.aload_n 0, 1) := by decide +kernel
theorem dX8_feed_1 : decode cX8_feed 1 = .ok (.getfield 10, 3) := by decide +kernel
theorem dX8_feed_4 : decode cX8_feed 4 = .ok (.getfield 65, 3) := by decide +kernel
theorem dX8_feed_7 : decode cX8_feed 7 = .ok (.bipush 20, 2) := by decide +kernel
theorem dX8_feed_9 : decode cX8_feed 9 = .ok (.iadd, 1) := by decide +kernel
theorem dX8_feed_10 : decode cX8_feed 10 = .ok (.sipush 240, 3) := by decide +kernel
theorem dX8_feed_13 : decode cX8_feed 13 = .ok (.if_icmp .le 5, 3) := by decide +kernel
theorem dX8_feed_16 : decode cX8_feed 16 = .ok (.iconst (-1), 1) := by decide +kernel
theorem dX8_feed_17 : decode cX8_feed 17 = .ok (.ireturn, 1) := by decide +kernel
theorem dX8_feed_18 : decode cX8_feed 18 = .ok (.aload_n 0, 1) := by decide +kernel
theorem dX8_feed_19 : decode cX8_feed 19 = .ok (.getfield 10, 3) := by decide +kernel
theorem dX8_feed_22 : decode cX8_feed 22 = .ok (.iload_n 1, 1) := by decide +kernel
theorem dX8_feed_23 : decode cX8_feed 23 = .ok (.invokevirtual 69, 3) := by decide +kernel
theorem dX8_feed_26 : decode cX8_feed 26 = .ok (.aload_n 0, 1) := by decide +kernel
theorem dX8_feed_27 : decode cX8_feed 27 = .ok (.getfield 10, 3) := by decide +kernel
theorem dX8_feed_30 : decode cX8_feed 30 = .ok (.iload_n 2, 1) := by decide +kernel
theorem dX8_feed_31 : decode cX8_feed 31 = .ok (.invokevirtual 69, 3) := by decide +kernel
theorem dX8_feed_34 : decode cX8_feed 34 = .ok (.aload_n 0, 1) := by decide +kernel
theorem dX8_feed_35 : decode cX8_feed 35 = .ok (.getfield 10, 3) := by decide +kernel
theorem dX8_feed_38 : decode cX8_feed 38 = .ok (.iload_n 3, 1) := by decide +kernel
theorem dX8_feed_39 : decode cX8_feed 39 = .ok (.invokevirtual 69, 3) := by decide +kernel
theorem dX8_feed_42 : decode cX8_feed 42 = .ok (.aload_n 0, 1) := by decide +kernel
theorem dX8_feed_43 : decode cX8_feed 43 = .ok (.getfield 10, 3) := by decide +kernel
theorem dX8_feed_46 : decode cX8_feed 46 = .ok (.iload 4, 2) := by decide +kernel
theorem dX8_feed_48 : decode cX8_feed 48 = .ok (.invokevirtual 69, 3) := by decide +kernel
theorem dX8_feed_51 : decode cX8_feed 51 = .ok (.aload_n 0, 1) := by decide +kernel
theorem dX8_feed_52 : decode cX8_feed 52 = .ok (.getfield 10, 3) := by decide +kernel
theorem dX8_feed_55 : decode cX8_feed 55 = .ok (.iload 5, 2) := by decide +kernel
theorem dX8_feed_57 : decode cX8_feed 57 = .ok (.invokevirtual 69, 3) := by decide +kernel
theorem dX8_feed_60 : decode cX8_feed 60 = .ok (.aload_n 0, 1) := by decide +kernel
theorem dX8_feed_61 : decode cX8_feed 61 = .ok (.getfield 10, 3) := by decide +kernel
theorem dX8_feed_64 : decode cX8_feed 64 = .ok (.getfield 65, 3) := by decide +kernel
theorem dX8_feed_67 : decode cX8_feed 67 = .ok (.ireturn, 1) := by decide +kernel
theorem dX8_grid_0 : decode cX8_grid 0 = .ok (.aload_n 0, 1) := by decide +kernel
theorem dX8_grid_1 : decode cX8_grid 1 = .ok (.iload_n 1, 1) := by decide +kernel
theorem dX8_grid_2 : decode cX8_grid 2 = .ok (.invokevirtual 73, 3) := by decide +kernel
theorem dX8_grid_5 : decode cX8_grid 5 = .ok (.ifCond .ne 5, 3) := by decide +kernel
theorem dX8_grid_8 : decode cX8_grid 8 = .ok (.iconst (-1), 1) := by decide +kernel
theorem dX8_grid_9 : decode cX8_grid 9 = .ok (.ireturn, 1) := by decide +kernel
theorem dX8_grid_10 : decode cX8_grid 10 = .ok (.aload_n 0, 1) := by decide +kernel
theorem dX8_grid_11 : decode cX8_grid 11 = .ok (.getfield 21, 3) := by decide +kernel
theorem dX8_grid_14 : decode cX8_grid 14 = .ok (.iload_n 1, 1) := by decide +kernel
theorem dX8_grid_15 : decode cX8_grid 15 = .ok (.iconst 1, 1) := by decide +kernel
theorem dX8_grid_16 : decode cX8_grid 16 = .ok (.invokevirtual 77, 3) := by decide +kernel
theorem dX8_grid_19 : decode cX8_grid 19 = .ok (.istore_n 2, 1) := by decide +kernel
theorem dX8_grid_20 : decode cX8_grid 20 = .ok (.aload_n 0, 1) := by decide +kernel
theorem dX8_grid_21 : decode cX8_grid 21 = .ok (.getfield 10, 3) := by decide +kernel
theorem dX8_grid_24 : decode cX8_grid 24 = .ok (.iconst 0, 1) := by decide +kernel
theorem dX8_grid_25 : decode cX8_grid 25 = .ok (.putfield 65, 3) := by decide +kernel
theorem dX8_grid_28 : decode cX8_grid 28 = .ok (.iload_n 2, 1) := by decide +kernel
theorem dX8_grid_29 : decode cX8_grid 29 = .ok (.ifCond .lt 24, 3) := by decide +kernel
theorem dX8_grid_32 : decode cX8_grid 32 = .ok (.aload_n 0, 1) := by decide +kernel
theorem dX8_grid_33 : decode cX8_grid 33 = .ok (.getfield 35, 3) := by decide +kernel
theorem dX8_grid_36 : decode cX8_grid 36 = .ok (.aload_n 0, 1) := by decide +kernel
theorem dX8_grid_37 : decode cX8_grid 37 = .ok (.getfield 21, 3) := by decide +kernel
theorem dX8_grid_40 : decode cX8_grid 40 = .ok (.getfield 81, 3) := by decide +kernel
theorem dX8_grid_43 : decode cX8_grid 43 = .ok (.invokevirtual 85, 3) := by decide +kernel
theorem dX8_grid_46 : decode cX8_grid 46 = .ok (.aload_n 0, 1) := by decide +kernel
theorem dX8_grid_47 : decode cX8_grid 47 = .ok (.getfield 28, 3) := by decide +kernel
theorem dX8_grid_50 : decode cX8_grid 50 = .ok (.invokevirtual 89, 3) := by decide +kernel
theorem dX8_grid_53 : decode cX8_grid 53 = .ok (.iload_n 2, 1) := by decide +kernel
theorem dX8_grid_54 : decode cX8_grid 54 = .ok (.ireturn, 1) := by decide +kernel
theorem dX8_works_0 : decode cX8_works 0 = .ok (.aload_n 0, 1) := by decide +kernel
theorem dX8_works_1 : decode cX8_works 1 = .ok (.iload_n 1, 1) := by decide +kernel
theorem dX8_works_2 : decode cX8_works 2 = .ok (.invokevirtual 73, 3) := by decide +kernel
theorem dX8_works_5 : decode cX8_works 5 = .ok (.ifCond .ne 5, 3) := by decide +kernel
theorem dX8_works_8 : decode cX8_works 8 = .ok (.iconst (-1), 1) := by decide +kernel
theorem dX8_works_9 : decode cX8_works 9 = .ok (.ireturn, 1) := by decide +kernel
theorem dX8_works_10 : decode cX8_works 10 = .ok (.aload_n 0, 1) := by decide +kernel
theorem dX8_works_11 : decode cX8_works 11 = .ok (.getfield 21, 3) := by decide +kernel
theorem dX8_works_14 : decode cX8_works 14 = .ok (.iload_n 1, 1) := by decide +kernel
theorem dX8_works_15 : decode cX8_works 15 = .ok (.iconst 0, 1) := by decide +kernel
theorem dX8_works_16 : decode cX8_works 16 = .ok (.invokevirtual 77, 3) := by decide +kernel
theorem dX8_works_19 : decode cX8_works 19 = .ok (.istore_n 2, 1) := by decide +kernel
theorem dX8_works_20 : decode cX8_works 20 = .ok (.aload_n 0, 1) := by decide +kernel
theorem dX8_works_21 : decode cX8_works 21 = .ok (.getfield 10, 3) := by decide +kernel
theorem dX8_works_24 : decode cX8_works 24 = .ok (.iconst 0, 1) := by decide +kernel
theorem dX8_works_25 : decode cX8_works 25 = .ok (.putfield 65, 3) := by decide +kernel
theorem dX8_works_28 : decode cX8_works 28 = .ok (.iload_n 2, 1) := by decide +kernel
theorem dX8_works_29 : decode cX8_works 29 = .ok (.ifCond .ge 5, 3) := by decide +kernel
theorem dX8_works_32 : decode cX8_works 32 = .ok (.iload_n 2, 1) := by decide +kernel
theorem dX8_works_33 : decode cX8_works 33 = .ok (.ireturn, 1) := by decide +kernel
theorem dX8_works_34 : decode cX8_works 34 = .ok (.iconst 0, 1) := by decide +kernel
theorem dX8_works_35 : decode cX8_works 35 = .ok (.istore_n 3, 1) := by decide +kernel
theorem dX8_works_36 : decode cX8_works 36 = .ok (.iload_n 3, 1) := by decide +kernel
theorem dX8_works_37 : decode cX8_works 37 = .ok (.iload_n 2, 1) := by decide +kernel
theorem dX8_works_38 : decode cX8_works 38 = .ok (.if_icmp .ge 17, 3) := by decide +kernel
theorem dX8_works_41 : decode cX8_works 41 = .ok (.aload_n 0, 1) := by decide +kernel
theorem dX8_works_42 : decode cX8_works 42 = .ok (.iload_n 3, 1) := by decide +kernel
theorem dX8_works_43 : decode cX8_works 43 = .ok (.invokevirtual 92, 3) := by decide +kernel
theorem dX8_works_46 : decode cX8_works 46 = .ok (.ifCond .eq 9, 3) := by decide +kernel
theorem dX8_works_49 : decode cX8_works 49 = .ok (.iinc 3 1, 3) := by decide +kernel
theorem dX8_works_52 : decode cX8_works 52 = .ok (.goto (-16), 3) := by decide +kernel
theorem dX8_works_55 : decode cX8_works 55 = .ok (.iload_n 3, 1) := by decide +kernel
theorem dX8_works_56 : decode cX8_works 56 = .ok (.ireturn, 1) := by decide +kernel
theorem dX8_isText_0 : decode cX8_isText 0 = .ok (.iload_n 1, 1) := by decide +kernel
theorem dX8_isText_1 : decode cX8_isText 1 = .ok (.iconst 1, 1) := by decide +kernel
theorem dX8_isText_2 : decode cX8_isText 2 = .ok (.if_icmp .lt 25, 3) := by decide +kernel
theorem dX8_isText_5 : decode cX8_isText 5 = .ok (.iload_n 1, 1) := by decide +kernel
theorem dX8_isText_6 : decode cX8_isText 6 = .ok (.sipush 200, 3) := by decide +kernel
theorem dX8_isText_9 : decode cX8_isText 9 = .ok (.if_icmp .gt 18, 3) := by decide +kernel
theorem dX8_isText_12 : decode cX8_isText 12 = .ok (.iload_n 1, 1) := by decide +kernel
theorem dX8_isText_13 : decode cX8_isText 13 = .ok (.aload_n 0, 1) := by decide +kernel
theorem dX8_isText_14 : decode cX8_isText 14 = .ok (.getfield 10, 3) := by decide +kernel
theorem dX8_isText_17 : decode cX8_isText 17 = .ok (.getfield 65, 3) := by decide +kernel
theorem dX8_isText_20 : decode cX8_isText 20 = .ok (.if_icmp .gt 7, 3) := by decide +kernel
theorem dX8_isText_23 : decode cX8_isText 23 = .ok (.iconst 1, 1) := by decide +kernel
theorem dX8_isText_24 : decode cX8_isText 24 = .ok (.goto 4, 3) := by decide +kernel
theorem dX8_isText_27 : decode cX8_isText 27 = .ok (.iconst 0, 1) := by decide +kernel
theorem dX8_isText_28 : decode cX8_isText 28 = .ok (.ireturn, 1) := by decide +kernel
theorem dX8_stepIsDone_0 : decode cX8_stepIsDone 0 = .ok (.aload_n 0, 1) := by decide +kernel
theorem dX8_stepIsDone_1 : decode cX8_stepIsDone 1 = .ok (.getfield 21, 3) := by decide +kernel
theorem dX8_stepIsDone_4 : decode cX8_stepIsDone 4 = .ok (.iload_n 1, 1) := by decide +kernel
theorem dX8_stepIsDone_5 : decode cX8_stepIsDone 5 = .ok (.iconst 0, 1) := by decide +kernel
theorem dX8_stepIsDone_6 : decode cX8_stepIsDone 6 = .ok (.invokevirtual 95, 3) := by decide +kernel
theorem dX8_stepIsDone_9 : decode cX8_stepIsDone 9 = .ok (.istore_n 2, 1) := by decide +kernel
theorem dX8_stepIsDone_10 : decode cX8_stepIsDone 10 = .ok (.aload_n 0, 1) := by decide +kernel
theorem dX8_stepIsDone_11 : decode cX8_stepIsDone 11 = .ok (.getfield 21, 3) := by decide +kernel
theorem dX8_stepIsDone_14 : decode cX8_stepIsDone 14 = .ok (.iload_n 1, 1) := by decide +kernel
theorem dX8_stepIsDone_15 : decode cX8_stepIsDone 15 = .ok (.iconst 1, 1) := by decide +kernel
theorem dX8_stepIsDone_16 : decode cX8_stepIsDone 16 = .ok (.invokevirtual 95, 3) := by decide +kernel
theorem dX8_stepIsDone_19 : decode cX8_stepIsDone 19 = .ok (.istore_n 3, 1) := by decide +kernel
theorem dX8_stepIsDone_20 : decode cX8_stepIsDone 20 = .ok (.aload_n 0, 1) := by decide +kernel
theorem dX8_stepIsDone_21 : decode cX8_stepIsDone 21 = .ok (.getfield 21, 3) := by decide +kernel
theorem dX8_stepIsDone_24 : decode cX8_stepIsDone 24 = .ok (.iload_n 1, 1) := by decide +kernel
theorem dX8_stepIsDone_25 : decode cX8_stepIsDone 25 = .ok (.invokevirtual 99, 3) := by decide +kernel
theorem dX8_stepIsDone_28 : decode cX8_stepIsDone 28 = .ok (.tableswitch 232 0 10 #[60, 104, 110, 124, 137, 155, 169, 175, 189, 203, 218], 60) := by decide +kernel
theorem dX8_stepIsDone_88 : decode cX8_stepIsDone 88 = .ok (.aload_n 0, 1) := by decide +kernel
theorem dX8_stepIsDone_89 : decode cX8_stepIsDone 89 = .ok (.iload_n 2, 1) := by decide +kernel
theorem dX8_stepIsDone_90 : decode cX8_stepIsDone 90 = .ok (.iload_n 3, 1) := by decide +kernel
theorem dX8_stepIsDone_91 : decode cX8_stepIsDone 91 = .ok (.aload_n 0, 1) := by decide +kernel
theorem dX8_stepIsDone_92 : decode cX8_stepIsDone 92 = .ok (.getfield 21, 3) := by decide +kernel
theorem dX8_stepIsDone_95 : decode cX8_stepIsDone 95 = .ok (.iload_n 1, 1) := by decide +kernel
theorem dX8_stepIsDone_96 : decode cX8_stepIsDone 96 = .ok (.iconst 2, 1) := by decide +kernel
theorem dX8_stepIsDone_97 : decode cX8_stepIsDone 97 = .ok (.invokevirtual 95, 3) := by decide +kernel
theorem dX8_stepIsDone_100 : decode cX8_stepIsDone 100 = .ok (.aload_n 0, 1) := by decide +kernel
theorem dX8_stepIsDone_101 : decode cX8_stepIsDone 101 = .ok (.getfield 21, 3) := by decide +kernel
theorem dX8_stepIsDone_104 : decode cX8_stepIsDone 104 = .ok (.iload_n 1, 1) := by decide +kernel
theorem dX8_stepIsDone_105 : decode cX8_stepIsDone 105 = .ok (.iconst 3, 1) := by decide +kernel
theorem dX8_stepIsDone_106 : decode cX8_stepIsDone 106 = .ok (.invokevirtual 95, 3) := by decide +kernel
theorem dX8_stepIsDone_109 : decode cX8_stepIsDone 109 = .ok (.invokevirtual 103, 3) := by decide +kernel
theorem dX8_stepIsDone_112 : decode cX8_stepIsDone 112 = .ok (.istore 4, 2) := by decide +kernel
theorem dX8_stepIsDone_114 : decode cX8_stepIsDone 114 = .ok (.iload 4, 2) := by decide +kernel
theorem dX8_stepIsDone_116 : decode cX8_stepIsDone 116 = .ok (.ifCond .ge 10, 3) := by decide +kernel
theorem dX8_stepIsDone_119 : decode cX8_stepIsDone 119 = .ok (.iload 4, 2) := by decide +kernel
theorem dX8_stepIsDone_121 : decode cX8_stepIsDone 121 = .ok (.bipush (-2), 2) := by decide +kernel
theorem dX8_stepIsDone_123 : decode cX8_stepIsDone 123 = .ok (.if_icmp .ne 7, 3) := by decide +kernel
theorem dX8_stepIsDone_126 : decode cX8_stepIsDone 126 = .ok (.iconst 1, 1) := by decide +kernel
theorem dX8_stepIsDone_127 : decode cX8_stepIsDone 127 = .ok (.goto 4, 3) := by decide +kernel
theorem dX8_stepIsDone_130 : decode cX8_stepIsDone 130 = .ok (.iconst 0, 1) := by decide +kernel
theorem dX8_stepIsDone_131 : decode cX8_stepIsDone 131 = .ok (.ireturn, 1) := by decide +kernel
theorem dX8_stepIsDone_132 : decode cX8_stepIsDone 132 = .ok (.aload_n 0, 1) := by decide +kernel
theorem dX8_stepIsDone_133 : decode cX8_stepIsDone 133 = .ok (.iload_n 2, 1) := by decide +kernel
theorem dX8_stepIsDone_134 : decode cX8_stepIsDone 134 = .ok (.invokevirtual 107, 3) := by decide +kernel
theorem dX8_stepIsDone_137 : decode cX8_stepIsDone 137 = .ok (.ireturn, 1) := by decide +kernel
theorem dX8_stepIsDone_138 : decode cX8_stepIsDone 138 = .ok (.aload_n 0, 1) := by decide +kernel
theorem dX8_stepIsDone_139 : decode cX8_stepIsDone 139 = .ok (.iload_n 2, 1) := by decide +kernel
theorem dX8_stepIsDone_140 : decode cX8_stepIsDone 140 = .ok (.invokevirtual 110, 3) := by decide +kernel
theorem dX8_stepIsDone_143 : decode cX8_stepIsDone 143 = .ok (.ifCond .lt 7, 3) := by decide +kernel
theorem dX8_stepIsDone_146 : decode cX8_stepIsDone 146 = .ok (.iconst 1, 1) := by decide +kernel
theorem dX8_stepIsDone_147 : decode cX8_stepIsDone 147 = .ok (.goto 4, 3) := by decide +kernel
theorem dX8_stepIsDone_150 : decode cX8_stepIsDone 150 = .ok (.iconst 0, 1) := by decide +kernel
theorem dX8_stepIsDone_151 : decode cX8_stepIsDone 151 = .ok (.ireturn, 1) := by decide +kernel
theorem dX8_stepIsDone_152 : decode cX8_stepIsDone 152 = .ok (.aload_n 0, 1) := by decide +kernel
theorem dX8_stepIsDone_153 : decode cX8_stepIsDone 153 = .ok (.invokevirtual 113, 3) := by decide +kernel
theorem dX8_stepIsDone_156 : decode cX8_stepIsDone 156 = .ok (.ifCond .lt 7, 3) := by decide +kernel
theorem dX8_stepIsDone_159 : decode cX8_stepIsDone 159 = .ok (.iconst 1, 1) := by decide +kernel
theorem dX8_stepIsDone_160 : decode cX8_stepIsDone 160 = .ok (.goto 4, 3) := by decide +kernel
theorem dX8_stepIsDone_163 : decode cX8_stepIsDone 163 = .ok (.iconst 0, 1) := by decide +kernel
theorem dX8_stepIsDone_164 : decode cX8_stepIsDone 164 = .ok (.ireturn, 1) := by decide +kernel
theorem dX8_stepIsDone_165 : decode cX8_stepIsDone 165 = .ok (.aload_n 0, 1) := by decide +kernel
theorem dX8_stepIsDone_166 : decode cX8_stepIsDone 166 = .ok (.iload_n 2, 1) := by decide +kernel
theorem dX8_stepIsDone_167 : decode cX8_stepIsDone 167 = .ok (.iload_n 3, 1) := by decide +kernel
theorem dX8_stepIsDone_168 : decode cX8_stepIsDone 168 = .ok (.invokevirtual 117, 3) := by decide +kernel
theorem dX8_stepIsDone_171 : decode cX8_stepIsDone 171 = .ok (.sipush (-1000), 3) := by decide +kernel
theorem dX8_stepIsDone_174 : decode cX8_stepIsDone 174 = .ok (.if_icmp .le 7, 3) := by decide +kernel
theorem dX8_stepIsDone_177 : decode cX8_stepIsDone 177 = .ok (.iconst 1, 1) := by decide +kernel
theorem dX8_stepIsDone_178 : decode cX8_stepIsDone 178 = .ok (.goto 4, 3) := by decide +kernel
theorem dX8_stepIsDone_181 : decode cX8_stepIsDone 181 = .ok (.iconst 0, 1) := by decide +kernel
theorem dX8_stepIsDone_182 : decode cX8_stepIsDone 182 = .ok (.ireturn, 1) := by decide +kernel
theorem dX8_stepIsDone_183 : decode cX8_stepIsDone 183 = .ok (.aload_n 0, 1) := by decide +kernel
theorem dX8_stepIsDone_184 : decode cX8_stepIsDone 184 = .ok (.iload_n 2, 1) := by decide +kernel
theorem dX8_stepIsDone_185 : decode cX8_stepIsDone 185 = .ok (.invokevirtual 120, 3) := by decide +kernel
theorem dX8_stepIsDone_188 : decode cX8_stepIsDone 188 = .ok (.ifCond .lt 7, 3) := by decide +kernel
theorem dX8_stepIsDone_191 : decode cX8_stepIsDone 191 = .ok (.iconst 1, 1) := by decide +kernel
theorem dX8_stepIsDone_192 : decode cX8_stepIsDone 192 = .ok (.goto 4, 3) := by decide +kernel
theorem dX8_stepIsDone_195 : decode cX8_stepIsDone 195 = .ok (.iconst 0, 1) := by decide +kernel
theorem dX8_stepIsDone_196 : decode cX8_stepIsDone 196 = .ok (.ireturn, 1) := by decide +kernel
theorem dX8_stepIsDone_197 : decode cX8_stepIsDone 197 = .ok (.aload_n 0, 1) := by decide +kernel
theorem dX8_stepIsDone_198 : decode cX8_stepIsDone 198 = .ok (.iload_n 2, 1) := by decide +kernel
theorem dX8_stepIsDone_199 : decode cX8_stepIsDone 199 = .ok (.invokevirtual 123, 3) := by decide +kernel
theorem dX8_stepIsDone_202 : decode cX8_stepIsDone 202 = .ok (.ireturn, 1) := by decide +kernel
theorem dX8_stepIsDone_203 : decode cX8_stepIsDone 203 = .ok (.aload_n 0, 1) := by decide +kernel
theorem dX8_stepIsDone_204 : decode cX8_stepIsDone 204 = .ok (.iload_n 2, 1) := by decide +kernel
theorem dX8_stepIsDone_205 : decode cX8_stepIsDone 205 = .ok (.invokevirtual 126, 3) := by decide +kernel
theorem dX8_stepIsDone_208 : decode cX8_stepIsDone 208 = .ok (.ifCond .lt 7, 3) := by decide +kernel
theorem dX8_stepIsDone_211 : decode cX8_stepIsDone 211 = .ok (.iconst 1, 1) := by decide +kernel
theorem dX8_stepIsDone_212 : decode cX8_stepIsDone 212 = .ok (.goto 4, 3) := by decide +kernel
theorem dX8_stepIsDone_215 : decode cX8_stepIsDone 215 = .ok (.iconst 0, 1) := by decide +kernel
theorem dX8_stepIsDone_216 : decode cX8_stepIsDone 216 = .ok (.ireturn, 1) := by decide +kernel
theorem dX8_stepIsDone_217 : decode cX8_stepIsDone 217 = .ok (.aload_n 0, 1) := by decide +kernel
theorem dX8_stepIsDone_218 : decode cX8_stepIsDone 218 = .ok (.iload_n 2, 1) := by decide +kernel
theorem dX8_stepIsDone_219 : decode cX8_stepIsDone 219 = .ok (.invokevirtual 129, 3) := by decide +kernel
theorem dX8_stepIsDone_222 : decode cX8_stepIsDone 222 = .ok (.ifCond .lt 7, 3) := by decide +kernel
theorem dX8_stepIsDone_225 : decode cX8_stepIsDone 225 = .ok (.iconst 1, 1) := by decide +kernel
theorem dX8_stepIsDone_226 : decode cX8_stepIsDone 226 = .ok (.goto 4, 3) := by decide +kernel
theorem dX8_stepIsDone_229 : decode cX8_stepIsDone 229 = .ok (.iconst 0, 1) := by decide +kernel
theorem dX8_stepIsDone_230 : decode cX8_stepIsDone 230 = .ok (.ireturn, 1) := by decide +kernel
theorem dX8_stepIsDone_231 : decode cX8_stepIsDone 231 = .ok (.aload_n 0, 1) := by decide +kernel
theorem dX8_stepIsDone_232 : decode cX8_stepIsDone 232 = .ok (.iload_n 2, 1) := by decide +kernel
theorem dX8_stepIsDone_233 : decode cX8_stepIsDone 233 = .ok (.iload_n 3, 1) := by decide +kernel
theorem dX8_stepIsDone_234 : decode cX8_stepIsDone 234 = .ok (.invokevirtual 132, 3) := by decide +kernel
theorem dX8_stepIsDone_237 : decode cX8_stepIsDone 237 = .ok (.ifCond .lt 7, 3) := by decide +kernel
theorem dX8_stepIsDone_240 : decode cX8_stepIsDone 240 = .ok (.iconst 1, 1) := by decide +kernel
theorem dX8_stepIsDone_241 : decode cX8_stepIsDone 241 = .ok (.goto 4, 3) := by decide +kernel
theorem dX8_stepIsDone_244 : decode cX8_stepIsDone 244 = .ok (.iconst 0, 1) := by decide +kernel
theorem dX8_stepIsDone_245 : decode cX8_stepIsDone 245 = .ok (.ireturn, 1) := by decide +kernel
theorem dX8_stepIsDone_246 : decode cX8_stepIsDone 246 = .ok (.aload_n 0, 1) := by decide +kernel
theorem dX8_stepIsDone_247 : decode cX8_stepIsDone 247 = .ok (.iload_n 2, 1) := by decide +kernel
theorem dX8_stepIsDone_248 : decode cX8_stepIsDone 248 = .ok (.invokevirtual 135, 3) := by decide +kernel
theorem dX8_stepIsDone_251 : decode cX8_stepIsDone 251 = .ok (.ifCond .lt 7, 3) := by decide +kernel
theorem dX8_stepIsDone_254 : decode cX8_stepIsDone 254 = .ok (.iconst 1, 1) := by decide +kernel
theorem dX8_stepIsDone_255 : decode cX8_stepIsDone 255 = .ok (.goto 4, 3) := by decide +kernel
theorem dX8_stepIsDone_258 : decode cX8_stepIsDone 258 = .ok (.iconst 0, 1) := by decide +kernel
theorem dX8_stepIsDone_259 : decode cX8_stepIsDone 259 = .ok (.ireturn, 1) := by decide +kernel
theorem dX8_stepIsDone_260 : decode cX8_stepIsDone 260 = .ok (.iconst 0, 1) := by decide +kernel
theorem dX8_stepIsDone_261 : decode cX8_stepIsDone 261 = .ok (.ireturn, 1) := by decide +kernel
theorem dX8_ask_0 : decode cX8_ask 0 = .ok (.aload_n 0, 1) := by decide +kernel
theorem dX8_ask_1 : decode cX8_ask 1 = .ok (.iload_n 1, 1) := by decide +kernel
theorem dX8_ask_2 : decode cX8_ask 2 = .ok (.iload_n 2, 1) := by decide +kernel
theorem dX8_ask_3 : decode cX8_ask 3 = .ok (.iload_n 3, 1) := by decide +kernel
theorem dX8_ask_4 : decode cX8_ask 4 = .ok (.invokevirtual 138, 3) := by decide +kernel
theorem dX8_ask_7 : decode cX8_ask 7 = .ok (.ifCond .eq 11, 3) := by decide +kernel
theorem dX8_ask_10 : decode cX8_ask 10 = .ok (.iload 4, 2) := by decide +kernel
theorem dX8_ask_12 : decode cX8_ask 12 = .ok (.invokestatic 142, 3) := by decide +kernel
theorem dX8_ask_15 : decode cX8_ask 15 = .ok (.ifCond .ne 5, 3) := by decide +kernel
theorem dX8_ask_18 : decode cX8_ask 18 = .ok (.iconst (-1), 1) := by decide +kernel
theorem dX8_ask_19 : decode cX8_ask 19 = .ok (.ireturn, 1) := by decide +kernel
theorem dX8_ask_20 : decode cX8_ask 20 = .ok (.aload_n 0, 1) := by decide +kernel
theorem dX8_ask_21 : decode cX8_ask 21 = .ok (.getfield 35, 3) := by decide +kernel
theorem dX8_ask_24 : decode cX8_ask 24 = .ok (.getfield 145, 3) := by decide +kernel
theorem dX8_ask_27 : decode cX8_ask 27 = .ok (.bipush 40, 2) := by decide +kernel
theorem dX8_ask_29 : decode cX8_ask 29 = .ok (.if_icmp .lt 6, 3) := by decide +kernel
theorem dX8_ask_32 : decode cX8_ask 32 = .ok (.bipush (-3), 2) := by decide +kernel
theorem dX8_ask_34 : decode cX8_ask 34 = .ok (.ireturn, 1) := by decide +kernel
theorem dX8_ask_35 : decode cX8_ask 35 = .ok (.aload_n 0, 1) := by decide +kernel
theorem dX8_ask_36 : decode cX8_ask 36 = .ok (.getfield 35, 3) := by decide +kernel
theorem dX8_ask_39 : decode cX8_ask 39 = .ok (.iload_n 1, 1) := by decide +kernel
theorem dX8_ask_40 : decode cX8_ask 40 = .ok (.iload_n 2, 1) := by decide +kernel
theorem dX8_ask_41 : decode cX8_ask 41 = .ok (.iload_n 3, 1) := by decide +kernel
theorem dX8_ask_42 : decode cX8_ask 42 = .ok (.invokevirtual 148, 3) := by decide +kernel
theorem dX8_ask_45 : decode cX8_ask 45 = .ok (.istore 5, 2) := by decide +kernel
theorem dX8_ask_47 : decode cX8_ask 47 = .ok (.aload_n 0, 1) := by decide +kernel
theorem dX8_ask_48 : decode cX8_ask 48 = .ok (.getfield 28, 3) := by decide +kernel
theorem dX8_ask_51 : decode cX8_ask 51 = .ok (.aload_n 0, 1) := by decide +kernel
theorem dX8_ask_52 : decode cX8_ask 52 = .ok (.getfield 35, 3) := by decide +kernel
theorem dX8_ask_55 : decode cX8_ask 55 = .ok (.iload_n 1, 1) := by decide +kernel
theorem dX8_ask_56 : decode cX8_ask 56 = .ok (.iload_n 2, 1) := by decide +kernel
theorem dX8_ask_57 : decode cX8_ask 57 = .ok (.iload_n 3, 1) := by decide +kernel
theorem dX8_ask_58 : decode cX8_ask 58 = .ok (.iload 4, 2) := by decide +kernel
theorem dX8_ask_60 : decode cX8_ask 60 = .ok (.invokevirtual 152, 3) := by decide +kernel
theorem dX8_ask_63 : decode cX8_ask 63 = .ok (.ifCond .ne 6, 3) := by decide +kernel
theorem dX8_ask_66 : decode cX8_ask 66 = .ok (.bipush (-2), 2) := by decide +kernel
theorem dX8_ask_68 : decode cX8_ask 68 = .ok (.ireturn, 1) := by decide +kernel
theorem dX8_ask_69 : decode cX8_ask 69 = .ok (.aload_n 0, 1) := by decide +kernel
theorem dX8_ask_70 : decode cX8_ask 70 = .ok (.getfield 35, 3) := by decide +kernel
theorem dX8_ask_73 : decode cX8_ask 73 = .ok (.iload 5, 2) := by decide +kernel
theorem dX8_ask_75 : decode cX8_ask 75 = .ok (.aload_n 0, 1) := by decide +kernel
theorem dX8_ask_76 : decode cX8_ask 76 = .ok (.getfield 28, 3) := by decide +kernel
theorem dX8_ask_79 : decode cX8_ask 79 = .ok (.getfield 156, 3) := by decide +kernel
theorem dX8_ask_82 : decode cX8_ask 82 = .ok (.aload_n 0, 1) := by decide +kernel
theorem dX8_ask_83 : decode cX8_ask 83 = .ok (.getfield 28, 3) := by decide +kernel
theorem dX8_ask_86 : decode cX8_ask 86 = .ok (.getfield 159, 3) := by decide +kernel
theorem dX8_ask_89 : decode cX8_ask 89 = .ok (.aload_n 0, 1) := by decide +kernel
theorem dX8_ask_90 : decode cX8_ask 90 = .ok (.getfield 28, 3) := by decide +kernel
theorem dX8_ask_93 : decode cX8_ask 93 = .ok (.getfield 162, 3) := by decide +kernel
theorem dX8_ask_96 : decode cX8_ask 96 = .ok (.invokevirtual 165, 3) := by decide +kernel
theorem dX8_ask_99 : decode cX8_ask 99 = .ok (.iload 5, 2) := by decide +kernel
theorem dX8_ask_101 : decode cX8_ask 101 = .ok (.ireturn, 1) := by decide +kernel
theorem dX8_drop_0 : decode cX8_drop 0 = .ok (.aload_n 0, 1) := by decide +kernel
theorem dX8_drop_1 : decode cX8_drop 1 = .ok (.getfield 35, 3) := by decide +kernel
theorem dX8_drop_4 : decode cX8_drop 4 = .ok (.iload_n 1, 1) := by decide +kernel
theorem dX8_drop_5 : decode cX8_drop 5 = .ok (.invokevirtual 169, 3) := by decide +kernel
theorem dX8_drop_8 : decode cX8_drop 8 = .ok (.ifCond .eq 16, 3) := by decide +kernel
theorem dX8_drop_11 : decode cX8_drop 11 = .ok (.aload_n 0, 1) := by decide +kernel
theorem dX8_drop_12 : decode cX8_drop 12 = .ok (.getfield 35, 3) := by decide +kernel
theorem dX8_drop_15 : decode cX8_drop 15 = .ok (.getfield 172, 3) := by decide +kernel
theorem dX8_drop_18 : decode cX8_drop 18 = .ok (.iload_n 1, 1) := by decide +kernel
theorem dX8_drop_19 : decode cX8_drop 19 = .ok (.iaload, 1) := by decide +kernel
theorem dX8_drop_20 : decode cX8_drop 20 = .ok (.iconst 3, 1) := by decide +kernel
theorem dX8_drop_21 : decode cX8_drop 21 = .ok (.if_icmp .ne 5, 3) := by decide +kernel
theorem dX8_drop_24 : decode cX8_drop 24 = .ok (.iconst 0, 1) := by decide +kernel
theorem dX8_drop_25 : decode cX8_drop 25 = .ok (.ireturn, 1) := by decide +kernel
theorem dX8_drop_26 : decode cX8_drop 26 = .ok (.aload_n 0, 1) := by decide +kernel
theorem dX8_drop_27 : decode cX8_drop 27 = .ok (.getfield 35, 3) := by decide +kernel
theorem dX8_drop_30 : decode cX8_drop 30 = .ok (.iload_n 1, 1) := by decide +kernel
theorem dX8_drop_31 : decode cX8_drop 31 = .ok (.iconst 3, 1) := by decide +kernel
theorem dX8_drop_32 : decode cX8_drop 32 = .ok (.invokevirtual 176, 3) := by decide +kernel
theorem dX8_drop_35 : decode cX8_drop 35 = .ok (.iconst 1, 1) := by decide +kernel
theorem dX8_drop_36 : decode cX8_drop 36 = .ok (.ireturn, 1) := by decide +kernel
theorem dX8_slide_0 : decode cX8_slide 0 = .ok (.aload_n 0, 1) := by decide +kernel
theorem dX8_slide_1 : decode cX8_slide 1 = .ok (.getfield 35, 3) := by decide +kernel
theorem dX8_slide_4 : decode cX8_slide 4 = .ok (.iload_n 1, 1) := by decide +kernel
theorem dX8_slide_5 : decode cX8_slide 5 = .ok (.invokevirtual 180, 3) := by decide +kernel
theorem dX8_slide_8 : decode cX8_slide 8 = .ok (.ifCond .ne 5, 3) := by decide +kernel
theorem dX8_slide_11 : decode cX8_slide 11 = .ok (.iconst (-1), 1) := by decide +kernel
theorem dX8_slide_12 : decode cX8_slide 12 = .ok (.ireturn, 1) := by decide +kernel
theorem dX8_slide_13 : decode cX8_slide 13 = .ok (.aload_n 0, 1) := by decide +kernel
theorem dX8_slide_14 : decode cX8_slide 14 = .ok (.iload_n 1, 1) := by decide +kernel
theorem dX8_slide_15 : decode cX8_slide 15 = .ok (.invokevirtual 183, 3) := by decide +kernel
theorem dX8_slide_18 : decode cX8_slide 18 = .ok (.ireturn, 1) := by decide +kernel
theorem dX8_slideDown_0 : decode cX8_slideDown 0 = .ok (.aload_n 0, 1) := by decide +kernel
theorem dX8_slideDown_1 : decode cX8_slideDown 1 = .ok (.getfield 35, 3) := by decide +kernel
theorem dX8_slideDown_4 : decode cX8_slideDown 4 = .ok (.iload_n 1, 1) := by decide +kernel
theorem dX8_slideDown_5 : decode cX8_slideDown 5 = .ok (.invokevirtual 186, 3) := by decide +kernel
theorem dX8_slideDown_8 : decode cX8_slideDown 8 = .ok (.istore_n 2, 1) := by decide +kernel
theorem dX8_slideDown_9 : decode cX8_slideDown 9 = .ok (.iload_n 2, 1) := by decide +kernel
theorem dX8_slideDown_10 : decode cX8_slideDown 10 = .ok (.ifCond .le 40, 3) := by decide +kernel
theorem dX8_slideDown_13 : decode cX8_slideDown 13 = .ok (.aload_n 0, 1) := by decide +kernel
theorem dX8_slideDown_14 : decode cX8_slideDown 14 = .ok (.getfield 35, 3) := by decide +kernel
theorem dX8_slideDown_17 : decode cX8_slideDown 17 = .ok (.iload_n 1, 1) := by decide +kernel
theorem dX8_slideDown_18 : decode cX8_slideDown 18 = .ok (.aload_n 0, 1) := by decide +kernel
theorem dX8_slideDown_19 : decode cX8_slideDown 19 = .ok (.getfield 35, 3) := by decide +kernel
theorem dX8_slideDown_22 : decode cX8_slideDown 22 = .ok (.getfield 189, 3) := by decide +kernel
theorem dX8_slideDown_25 : decode cX8_slideDown 25 = .ok (.iload_n 1, 1) := by decide +kernel
theorem dX8_slideDown_26 : decode cX8_slideDown 26 = .ok (.iaload, 1) := by decide +kernel
theorem dX8_slideDown_27 : decode cX8_slideDown 27 = .ok (.aload_n 0, 1) := by decide +kernel
theorem dX8_slideDown_28 : decode cX8_slideDown 28 = .ok (.getfield 35, 3) := by decide +kernel
theorem dX8_slideDown_31 : decode cX8_slideDown 31 = .ok (.getfield 191, 3) := by decide +kernel
theorem dX8_slideDown_34 : decode cX8_slideDown 34 = .ok (.iload_n 1, 1) := by decide +kernel
theorem dX8_slideDown_35 : decode cX8_slideDown 35 = .ok (.iaload, 1) := by decide +kernel
theorem dX8_slideDown_36 : decode cX8_slideDown 36 = .ok (.iload_n 2, 1) := by decide +kernel
theorem dX8_slideDown_37 : decode cX8_slideDown 37 = .ok (.isub, 1) := by decide +kernel
theorem dX8_slideDown_38 : decode cX8_slideDown 38 = .ok (.aload_n 0, 1) := by decide +kernel
theorem dX8_slideDown_39 : decode cX8_slideDown 39 = .ok (.getfield 35, 3) := by decide +kernel
theorem dX8_slideDown_42 : decode cX8_slideDown 42 = .ok (.getfield 193, 3) := by decide +kernel
theorem dX8_slideDown_45 : decode cX8_slideDown 45 = .ok (.iload_n 1, 1) := by decide +kernel
theorem dX8_slideDown_46 : decode cX8_slideDown 46 = .ok (.iaload, 1) := by decide +kernel
theorem dX8_slideDown_47 : decode cX8_slideDown 47 = .ok (.invokevirtual 195, 3) := by decide +kernel
theorem dX8_slideDown_50 : decode cX8_slideDown 50 = .ok (.iload_n 2, 1) := by decide +kernel
theorem dX8_slideDown_51 : decode cX8_slideDown 51 = .ok (.ireturn, 1) := by decide +kernel
theorem dX8_sweep_0 : decode cX8_sweep 0 = .ok (.aload_n 0, 1) := by decide +kernel
theorem dX8_sweep_1 : decode cX8_sweep 1 = .ok (.getfield 35, 3) := by decide +kernel
theorem dX8_sweep_4 : decode cX8_sweep 4 = .ok (.invokevirtual 198, 3) := by decide +kernel
theorem dX8_sweep_7 : decode cX8_sweep 7 = .ok (.istore_n 1, 1) := by decide +kernel
theorem dX8_sweep_8 : decode cX8_sweep 8 = .ok (.iconst 0, 1) := by decide +kernel
theorem dX8_sweep_9 : decode cX8_sweep 9 = .ok (.istore_n 2, 1) := by decide +kernel
theorem dX8_sweep_10 : decode cX8_sweep 10 = .ok (.iconst 0, 1) := by decide +kernel
theorem dX8_sweep_11 : decode cX8_sweep 11 = .ok (.istore_n 3, 1) := by decide +kernel
theorem dX8_sweep_12 : decode cX8_sweep 12 = .ok (.iload_n 3, 1) := by decide +kernel
theorem dX8_sweep_13 : decode cX8_sweep 13 = .ok (.iload_n 1, 1) := by decide +kernel
theorem dX8_sweep_14 : decode cX8_sweep 14 = .ok (.if_icmp .ge 28, 3) := by decide +kernel
theorem dX8_sweep_17 : decode cX8_sweep 17 = .ok (.aload_n 0, 1) := by decide +kernel
theorem dX8_sweep_18 : decode cX8_sweep 18 = .ok (.aload_n 0, 1) := by decide +kernel
theorem dX8_sweep_19 : decode cX8_sweep 19 = .ok (.getfield 35, 3) := by decide +kernel
theorem dX8_sweep_22 : decode cX8_sweep 22 = .ok (.getfield 201, 3) := by decide +kernel
theorem dX8_sweep_25 : decode cX8_sweep 25 = .ok (.iload_n 3, 1) := by decide +kernel
theorem dX8_sweep_26 : decode cX8_sweep 26 = .ok (.iaload, 1) := by decide +kernel
theorem dX8_sweep_27 : decode cX8_sweep 27 = .ok (.invokevirtual 183, 3) := by decide +kernel
theorem dX8_sweep_30 : decode cX8_sweep 30 = .ok (.ifCond .le 6, 3) := by decide +kernel
theorem dX8_sweep_33 : decode cX8_sweep 33 = .ok (.iinc 2 1, 3) := by decide +kernel
theorem dX8_sweep_36 : decode cX8_sweep 36 = .ok (.iinc 3 1, 3) := by decide +kernel
theorem dX8_sweep_39 : decode cX8_sweep 39 = .ok (.goto (-27), 3) := by decide +kernel
theorem dX8_sweep_42 : decode cX8_sweep 42 = .ok (.iload_n 2, 1) := by decide +kernel
theorem dX8_sweep_43 : decode cX8_sweep 43 = .ok (.ireturn, 1) := by decide +kernel
theorem dX8_sweeps_0 : decode cX8_sweeps 0 = .ok (.sipush 2400, 3) := by decide +kernel
theorem dX8_sweeps_3 : decode cX8_sweeps 3 = .ok (.istore_n 1, 1) := by decide +kernel
theorem dX8_sweeps_4 : decode cX8_sweeps 4 = .ok (.iconst 0, 1) := by decide +kernel
theorem dX8_sweeps_5 : decode cX8_sweeps 5 = .ok (.istore_n 2, 1) := by decide +kernel
theorem dX8_sweeps_6 : decode cX8_sweeps 6 = .ok (.iload_n 2, 1) := by decide +kernel
theorem dX8_sweeps_7 : decode cX8_sweeps 7 = .ok (.iload_n 1, 1) := by decide +kernel
theorem dX8_sweeps_8 : decode cX8_sweeps 8 = .ok (.if_icmp .ge 16, 3) := by decide +kernel
theorem dX8_sweeps_11 : decode cX8_sweeps 11 = .ok (.aload_n 0, 1) := by decide +kernel
theorem dX8_sweeps_12 : decode cX8_sweeps 12 = .ok (.invokevirtual 113, 3) := by decide +kernel
theorem dX8_sweeps_15 : decode cX8_sweeps 15 = .ok (.ifCond .le 9, 3) := by decide +kernel
theorem dX8_sweeps_18 : decode cX8_sweeps 18 = .ok (.iinc 2 1, 3) := by decide +kernel
theorem dX8_sweeps_21 : decode cX8_sweeps 21 = .ok (.goto (-15), 3) := by decide +kernel
theorem dX8_sweeps_24 : decode cX8_sweeps 24 = .ok (.iload_n 2, 1) := by decide +kernel
theorem dX8_sweeps_25 : decode cX8_sweeps 25 = .ok (.ireturn, 1) := by decide +kernel
theorem dX8_jump_0 : decode cX8_jump 0 = .ok (.aload_n 0, 1) := by decide +kernel
theorem dX8_jump_1 : decode cX8_jump 1 = .ok (.getfield 35, 3) := by decide +kernel
theorem dX8_jump_4 : decode cX8_jump 4 = .ok (.iload_n 1, 1) := by decide +kernel
theorem dX8_jump_5 : decode cX8_jump 5 = .ok (.invokevirtual 180, 3) := by decide +kernel
theorem dX8_jump_8 : decode cX8_jump 8 = .ok (.ifCond .eq 21, 3) := by decide +kernel
theorem dX8_jump_11 : decode cX8_jump 11 = .ok (.iload_n 2, 1) := by decide +kernel
theorem dX8_jump_12 : decode cX8_jump 12 = .ok (.ifCond .lt 17, 3) := by decide +kernel
theorem dX8_jump_15 : decode cX8_jump 15 = .ok (.iload_n 2, 1) := by decide +kernel
theorem dX8_jump_16 : decode cX8_jump 16 = .ok (.aload_n 0, 1) := by decide +kernel
theorem dX8_jump_17 : decode cX8_jump 17 = .ok (.getfield 35, 3) := by decide +kernel
theorem dX8_jump_20 : decode cX8_jump 20 = .ok (.getfield 204, 3) := by decide +kernel
theorem dX8_jump_23 : decode cX8_jump 23 = .ok (.getfield 207, 3) := by decide +kernel
theorem dX8_jump_26 : decode cX8_jump 26 = .ok (.if_icmp .lt 7, 3) := by decide +kernel
theorem dX8_jump_29 : decode cX8_jump 29 = .ok (.sipush (-1000), 3) := by decide +kernel
theorem dX8_jump_32 : decode cX8_jump 32 = .ok (.ireturn, 1) := by decide +kernel
theorem dX8_jump_33 : decode cX8_jump 33 = .ok (.aload_n 0, 1) := by decide +kernel
theorem dX8_jump_34 : decode cX8_jump 34 = .ok (.getfield 35, 3) := by decide +kernel
theorem dX8_jump_37 : decode cX8_jump 37 = .ok (.getfield 193, 3) := by decide +kernel
theorem dX8_jump_40 : decode cX8_jump 40 = .ok (.iload_n 1, 1) := by decide +kernel
theorem dX8_jump_41 : decode cX8_jump 41 = .ok (.iaload, 1) := by decide +kernel
theorem dX8_jump_42 : decode cX8_jump 42 = .ok (.istore_n 3, 1) := by decide +kernel
theorem dX8_jump_43 : decode cX8_jump 43 = .ok (.iload_n 2, 1) := by decide +kernel
theorem dX8_jump_44 : decode cX8_jump 44 = .ok (.iload_n 3, 1) := by decide +kernel
theorem dX8_jump_45 : decode cX8_jump 45 = .ok (.iadd, 1) := by decide +kernel
theorem dX8_jump_46 : decode cX8_jump 46 = .ok (.aload_n 0, 1) := by decide +kernel
theorem dX8_jump_47 : decode cX8_jump 47 = .ok (.getfield 35, 3) := by decide +kernel
theorem dX8_jump_50 : decode cX8_jump 50 = .ok (.getfield 204, 3) := by decide +kernel
theorem dX8_jump_53 : decode cX8_jump 53 = .ok (.getfield 207, 3) := by decide +kernel
theorem dX8_jump_56 : decode cX8_jump 56 = .ok (.if_icmp .le 7, 3) := by decide +kernel
theorem dX8_jump_59 : decode cX8_jump 59 = .ok (.sipush (-1000), 3) := by decide +kernel
theorem dX8_jump_62 : decode cX8_jump 62 = .ok (.ireturn, 1) := by decide +kernel
theorem dX8_jump_63 : decode cX8_jump 63 = .ok (.aload_n 0, 1) := by decide +kernel
theorem dX8_jump_64 : decode cX8_jump 64 = .ok (.getfield 35, 3) := by decide +kernel
theorem dX8_jump_67 : decode cX8_jump 67 = .ok (.iload_n 1, 1) := by decide +kernel
theorem dX8_jump_68 : decode cX8_jump 68 = .ok (.invokevirtual 212, 3) := by decide +kernel
theorem dX8_jump_71 : decode cX8_jump 71 = .ok (.iload_n 2, 1) := by decide +kernel
theorem dX8_jump_72 : decode cX8_jump 72 = .ok (.lushr, 1) := by decide +kernel
theorem dX8_jump_73 : decode cX8_jump 73 = .ok (.lconst 1, 1) := by decide +kernel
theorem dX8_jump_74 : decode cX8_jump 74 = .ok (.land, 1) := by decide +kernel
theorem dX8_jump_75 : decode cX8_jump 75 = .ok (.lconst 0, 1) := by decide +kernel
theorem dX8_jump_76 : decode cX8_jump 76 = .ok (.lcmp, 1) := by decide +kernel
theorem dX8_jump_77 : decode cX8_jump 77 = .ok (.ifCond .ne 7, 3) := by decide +kernel
theorem dX8_jump_80 : decode cX8_jump 80 = .ok (.sipush (-1001), 3) := by decide +kernel
theorem dX8_jump_83 : decode cX8_jump 83 = .ok (.ireturn, 1) := by decide +kernel
theorem dX8_jump_84 : decode cX8_jump 84 = .ok (.aload_n 0, 1) := by decide +kernel
theorem dX8_jump_85 : decode cX8_jump 85 = .ok (.getfield 35, 3) := by decide +kernel
theorem dX8_jump_88 : decode cX8_jump 88 = .ok (.getfield 191, 3) := by decide +kernel
theorem dX8_jump_91 : decode cX8_jump 91 = .ok (.iload_n 1, 1) := by decide +kernel
theorem dX8_jump_92 : decode cX8_jump 92 = .ok (.iaload, 1) := by decide +kernel
theorem dX8_jump_93 : decode cX8_jump 93 = .ok (.iload_n 2, 1) := by decide +kernel
theorem dX8_jump_94 : decode cX8_jump 94 = .ok (.isub, 1) := by decide +kernel
theorem dX8_jump_95 : decode cX8_jump 95 = .ok (.istore 4, 2) := by decide +kernel
theorem dX8_jump_97 : decode cX8_jump 97 = .ok (.aload_n 0, 1) := by decide +kernel
theorem dX8_jump_98 : decode cX8_jump 98 = .ok (.getfield 35, 3) := by decide +kernel
theorem dX8_jump_101 : decode cX8_jump 101 = .ok (.iload_n 1, 1) := by decide +kernel
theorem dX8_jump_102 : decode cX8_jump 102 = .ok (.aload_n 0, 1) := by decide +kernel
theorem dX8_jump_103 : decode cX8_jump 103 = .ok (.getfield 35, 3) := by decide +kernel
theorem dX8_jump_106 : decode cX8_jump 106 = .ok (.getfield 189, 3) := by decide +kernel
theorem dX8_jump_109 : decode cX8_jump 109 = .ok (.iload_n 1, 1) := by decide +kernel
theorem dX8_jump_110 : decode cX8_jump 110 = .ok (.iaload, 1) := by decide +kernel
theorem dX8_jump_111 : decode cX8_jump 111 = .ok (.iload_n 2, 1) := by decide +kernel
theorem dX8_jump_112 : decode cX8_jump 112 = .ok (.iload_n 3, 1) := by decide +kernel
theorem dX8_jump_113 : decode cX8_jump 113 = .ok (.invokevirtual 195, 3) := by decide +kernel
theorem dX8_jump_116 : decode cX8_jump 116 = .ok (.iload 4, 2) := by decide +kernel
theorem dX8_jump_118 : decode cX8_jump 118 = .ok (.ireturn, 1) := by decide +kernel
theorem dX8_cut_0 : decode cX8_cut 0 = .ok (.aload_n 0, 1) := by decide +kernel
theorem dX8_cut_1 : decode cX8_cut 1 = .ok (.getfield 35, 3) := by decide +kernel
theorem dX8_cut_4 : decode cX8_cut 4 = .ok (.iload_n 1, 1) := by decide +kernel
theorem dX8_cut_5 : decode cX8_cut 5 = .ok (.invokevirtual 216, 3) := by decide +kernel
theorem dX8_cut_8 : decode cX8_cut 8 = .ok (.ifCond .ne 5, 3) := by decide +kernel
theorem dX8_cut_11 : decode cX8_cut 11 = .ok (.iconst (-1), 1) := by decide +kernel
theorem dX8_cut_12 : decode cX8_cut 12 = .ok (.ireturn, 1) := by decide +kernel
theorem dX8_cut_13 : decode cX8_cut 13 = .ok (.aload_n 0, 1) := by decide +kernel
theorem dX8_cut_14 : decode cX8_cut 14 = .ok (.getfield 35, 3) := by decide +kernel
theorem dX8_cut_17 : decode cX8_cut 17 = .ok (.iload_n 1, 1) := by decide +kernel
theorem dX8_cut_18 : decode cX8_cut 18 = .ok (.invokevirtual 219, 3) := by decide +kernel
theorem dX8_cut_21 : decode cX8_cut 21 = .ok (.ifCond .ne 6, 3) := by decide +kernel
theorem dX8_cut_24 : decode cX8_cut 24 = .ok (.bipush (-2), 2) := by decide +kernel
theorem dX8_cut_26 : decode cX8_cut 26 = .ok (.ireturn, 1) := by decide +kernel
theorem dX8_cut_27 : decode cX8_cut 27 = .ok (.aload_n 0, 1) := by decide +kernel
theorem dX8_cut_28 : decode cX8_cut 28 = .ok (.getfield 35, 3) := by decide +kernel
theorem dX8_cut_31 : decode cX8_cut 31 = .ok (.iload_n 1, 1) := by decide +kernel
theorem dX8_cut_32 : decode cX8_cut 32 = .ok (.invokevirtual 222, 3) := by decide +kernel
theorem dX8_cut_35 : decode cX8_cut 35 = .ok (.ireturn, 1) := by decide +kernel
theorem dX8_mend_0 : decode cX8_mend 0 = .ok (.aload_n 0, 1) := by decide +kernel
theorem dX8_mend_1 : decode cX8_mend 1 = .ok (.getfield 35, 3) := by decide +kernel
theorem dX8_mend_4 : decode cX8_mend 4 = .ok (.iload_n 1, 1) := by decide +kernel
theorem dX8_mend_5 : decode cX8_mend 5 = .ok (.invokevirtual 216, 3) := by decide +kernel
theorem dX8_mend_8 : decode cX8_mend 8 = .ok (.ifCond .eq 14, 3) := by decide +kernel
theorem dX8_mend_11 : decode cX8_mend 11 = .ok (.aload_n 0, 1) := by decide +kernel
theorem dX8_mend_12 : decode cX8_mend 12 = .ok (.getfield 35, 3) := by decide +kernel
theorem dX8_mend_15 : decode cX8_mend 15 = .ok (.iload_n 1, 1) := by decide +kernel
theorem dX8_mend_16 : decode cX8_mend 16 = .ok (.invokevirtual 219, 3) := by decide +kernel
theorem dX8_mend_19 : decode cX8_mend 19 = .ok (.ifCond .eq 5, 3) := by decide +kernel
theorem dX8_mend_22 : decode cX8_mend 22 = .ok (.iconst 0, 1) := by decide +kernel
theorem dX8_mend_23 : decode cX8_mend 23 = .ok (.ireturn, 1) := by decide +kernel
theorem dX8_mend_24 : decode cX8_mend 24 = .ok (.aload_n 0, 1) := by decide +kernel
theorem dX8_mend_25 : decode cX8_mend 25 = .ok (.getfield 35, 3) := by decide +kernel
theorem dX8_mend_28 : decode cX8_mend 28 = .ok (.dup, 1) := by decide +kernel
theorem dX8_mend_29 : decode cX8_mend 29 = .ok (.getfield 225, 3) := by decide +kernel
theorem dX8_mend_32 : decode cX8_mend 32 = .ok (.iconst 1, 1) := by decide +kernel
theorem dX8_mend_33 : decode cX8_mend 33 = .ok (.iload_n 1, 1) := by decide +kernel
theorem dX8_mend_34 : decode cX8_mend 34 = .ok (.ishl, 1) := by decide +kernel
theorem dX8_mend_35 : decode cX8_mend 35 = .ok (.ior, 1) := by decide +kernel
theorem dX8_mend_36 : decode cX8_mend 36 = .ok (.putfield 225, 3) := by decide +kernel
theorem dX8_mend_39 : decode cX8_mend 39 = .ok (.iconst 1, 1) := by decide +kernel
theorem dX8_mend_40 : decode cX8_mend 40 = .ok (.ireturn, 1) := by decide +kernel
theorem dX8_relight_0 : decode cX8_relight 0 = .ok (.iload_n 1, 1) := by decide +kernel
theorem dX8_relight_1 : decode cX8_relight 1 = .ok (.invokestatic 142, 3) := by decide +kernel
theorem dX8_relight_4 : decode cX8_relight 4 = .ok (.ifCond .ne 5, 3) := by decide +kernel
theorem dX8_relight_7 : decode cX8_relight 7 = .ok (.iconst (-1), 1) := by decide +kernel
theorem dX8_relight_8 : decode cX8_relight 8 = .ok (.ireturn, 1) := by decide +kernel
theorem dX8_relight_9 : decode cX8_relight 9 = .ok (.aload_n 0, 1) := by decide +kernel
theorem dX8_relight_10 : decode cX8_relight 10 = .ok (.aload_n 0, 1) := by decide +kernel
theorem dX8_relight_11 : decode cX8_relight 11 = .ok (.getfield 35, 3) := by decide +kernel
theorem dX8_relight_14 : decode cX8_relight 14 = .ok (.iload_n 1, 1) := by decide +kernel
theorem dX8_relight_15 : decode cX8_relight 15 = .ok (.invokevirtual 228, 3) := by decide +kernel
theorem dX8_relight_18 : decode cX8_relight 18 = .ok (.ireturn, 1) := by decide +kernel
theorem dX8_lightAll_0 : decode cX8_lightAll 0 = .ok (.iconst 0, 1) := by decide +kernel
theorem dX8_lightAll_1 : decode cX8_lightAll 1 = .ok (.istore_n 3, 1) := by decide +kernel
theorem dX8_lightAll_2 : decode cX8_lightAll 2 = .ok (.iconst 0, 1) := by decide +kernel
theorem dX8_lightAll_3 : decode cX8_lightAll 3 = .ok (.istore 4, 2) := by decide +kernel
theorem dX8_lightAll_5 : decode cX8_lightAll 5 = .ok (.iload 4, 2) := by decide +kernel
theorem dX8_lightAll_7 : decode cX8_lightAll 7 = .ok (.aload_n 1, 1) := by decide +kernel
theorem dX8_lightAll_8 : decode cX8_lightAll 8 = .ok (.getfield 145, 3) := by decide +kernel
theorem dX8_lightAll_11 : decode cX8_lightAll 11 = .ok (.if_icmp .ge 83, 3) := by decide +kernel
theorem dX8_lightAll_14 : decode cX8_lightAll 14 = .ok (.aload_n 1, 1) := by decide +kernel
theorem dX8_lightAll_15 : decode cX8_lightAll 15 = .ok (.getfield 172, 3) := by decide +kernel
theorem dX8_lightAll_18 : decode cX8_lightAll 18 = .ok (.iload 4, 2) := by decide +kernel
theorem dX8_lightAll_20 : decode cX8_lightAll 20 = .ok (.iaload, 1) := by decide +kernel
theorem dX8_lightAll_21 : decode cX8_lightAll 21 = .ok (.iconst 2, 1) := by decide +kernel
theorem dX8_lightAll_22 : decode cX8_lightAll 22 = .ok (.if_icmp .ne 66, 3) := by decide +kernel
theorem dX8_lightAll_25 : decode cX8_lightAll 25 = .ok (.aload_n 0, 1) := by decide +kernel
theorem dX8_lightAll_26 : decode cX8_lightAll 26 = .ok (.getfield 28, 3) := by decide +kernel
theorem dX8_lightAll_29 : decode cX8_lightAll 29 = .ok (.aload_n 1, 1) := by decide +kernel
theorem dX8_lightAll_30 : decode cX8_lightAll 30 = .ok (.aload_n 1, 1) := by decide +kernel
theorem dX8_lightAll_31 : decode cX8_lightAll 31 = .ok (.getfield 232, 3) := by decide +kernel
theorem dX8_lightAll_34 : decode cX8_lightAll 34 = .ok (.iload 4, 2) := by decide +kernel
theorem dX8_lightAll_36 : decode cX8_lightAll 36 = .ok (.iaload, 1) := by decide +kernel
theorem dX8_lightAll_37 : decode cX8_lightAll 37 = .ok (.aload_n 1, 1) := by decide +kernel
theorem dX8_lightAll_38 : decode cX8_lightAll 38 = .ok (.getfield 235, 3) := by decide +kernel
theorem dX8_lightAll_41 : decode cX8_lightAll 41 = .ok (.iload 4, 2) := by decide +kernel
theorem dX8_lightAll_43 : decode cX8_lightAll 43 = .ok (.iaload, 1) := by decide +kernel
theorem dX8_lightAll_44 : decode cX8_lightAll 44 = .ok (.aload_n 1, 1) := by decide +kernel
theorem dX8_lightAll_45 : decode cX8_lightAll 45 = .ok (.getfield 238, 3) := by decide +kernel
theorem dX8_lightAll_48 : decode cX8_lightAll 48 = .ok (.iload 4, 2) := by decide +kernel
theorem dX8_lightAll_50 : decode cX8_lightAll 50 = .ok (.iaload, 1) := by decide +kernel
theorem dX8_lightAll_51 : decode cX8_lightAll 51 = .ok (.iload_n 2, 1) := by decide +kernel
theorem dX8_lightAll_52 : decode cX8_lightAll 52 = .ok (.invokevirtual 152, 3) := by decide +kernel
theorem dX8_lightAll_55 : decode cX8_lightAll 55 = .ok (.ifCond .eq 33, 3) := by decide +kernel
theorem dX8_lightAll_58 : decode cX8_lightAll 58 = .ok (.aload_n 1, 1) := by decide +kernel
theorem dX8_lightAll_59 : decode cX8_lightAll 59 = .ok (.iload 4, 2) := by decide +kernel
theorem dX8_lightAll_61 : decode cX8_lightAll 61 = .ok (.aload_n 0, 1) := by decide +kernel
theorem dX8_lightAll_62 : decode cX8_lightAll 62 = .ok (.getfield 28, 3) := by decide +kernel
theorem dX8_lightAll_65 : decode cX8_lightAll 65 = .ok (.getfield 156, 3) := by decide +kernel
theorem dX8_lightAll_68 : decode cX8_lightAll 68 = .ok (.aload_n 0, 1) := by decide +kernel
theorem dX8_lightAll_69 : decode cX8_lightAll 69 = .ok (.getfield 28, 3) := by decide +kernel
theorem dX8_lightAll_72 : decode cX8_lightAll 72 = .ok (.getfield 159, 3) := by decide +kernel
theorem dX8_lightAll_75 : decode cX8_lightAll 75 = .ok (.aload_n 0, 1) := by decide +kernel
theorem dX8_lightAll_76 : decode cX8_lightAll 76 = .ok (.getfield 28, 3) := by decide +kernel
theorem dX8_lightAll_79 : decode cX8_lightAll 79 = .ok (.getfield 162, 3) := by decide +kernel
theorem dX8_lightAll_82 : decode cX8_lightAll 82 = .ok (.invokevirtual 165, 3) := by decide +kernel
theorem dX8_lightAll_85 : decode cX8_lightAll 85 = .ok (.iinc 3 1, 3) := by decide +kernel
theorem dX8_lightAll_88 : decode cX8_lightAll 88 = .ok (.iinc 4 1, 3) := by decide +kernel
theorem dX8_lightAll_91 : decode cX8_lightAll 91 = .ok (.goto (-86), 3) := by decide +kernel
theorem dX8_lightAll_94 : decode cX8_lightAll 94 = .ok (.iload_n 3, 1) := by decide +kernel
theorem dX8_lightAll_95 : decode cX8_lightAll 95 = .ok (.ireturn, 1) := by decide +kernel
theorem dX8_ifCut_0 : decode cX8_ifCut 0 = .ok (.aload_n 0, 1) := by decide +kernel
theorem dX8_ifCut_1 : decode cX8_ifCut 1 = .ok (.getfield 35, 3) := by decide +kernel
theorem dX8_ifCut_4 : decode cX8_ifCut 4 = .ok (.iload_n 1, 1) := by decide +kernel
theorem dX8_ifCut_5 : decode cX8_ifCut 5 = .ok (.invokevirtual 216, 3) := by decide +kernel
theorem dX8_ifCut_8 : decode cX8_ifCut 8 = .ok (.ifCond .eq 19, 3) := by decide +kernel
theorem dX8_ifCut_11 : decode cX8_ifCut 11 = .ok (.iload_n 2, 1) := by decide +kernel
theorem dX8_ifCut_12 : decode cX8_ifCut 12 = .ok (.invokestatic 142, 3) := by decide +kernel
theorem dX8_ifCut_15 : decode cX8_ifCut 15 = .ok (.ifCond .eq 12, 3) := by decide +kernel
theorem dX8_ifCut_18 : decode cX8_ifCut 18 = .ok (.iload_n 3, 1) := by decide +kernel
theorem dX8_ifCut_19 : decode cX8_ifCut 19 = .ok (.ifCond .lt 8, 3) := by decide +kernel
theorem dX8_ifCut_22 : decode cX8_ifCut 22 = .ok (.iload_n 3, 1) := by decide +kernel
theorem dX8_ifCut_23 : decode cX8_ifCut 23 = .ok (.iconst 2, 1) := by decide +kernel
theorem dX8_ifCut_24 : decode cX8_ifCut 24 = .ok (.if_icmp .le 5, 3) := by decide +kernel
theorem dX8_ifCut_27 : decode cX8_ifCut 27 = .ok (.iconst (-1), 1) := by decide +kernel
theorem dX8_ifCut_28 : decode cX8_ifCut 28 = .ok (.ireturn, 1) := by decide +kernel
theorem dX8_ifCut_29 : decode cX8_ifCut 29 = .ok (.aload_n 0, 1) := by decide +kernel
theorem dX8_ifCut_30 : decode cX8_ifCut 30 = .ok (.getfield 35, 3) := by decide +kernel
theorem dX8_ifCut_33 : decode cX8_ifCut 33 = .ok (.iload_n 1, 1) := by decide +kernel
theorem dX8_ifCut_34 : decode cX8_ifCut 34 = .ok (.invokevirtual 219, 3) := by decide +kernel
theorem dX8_ifCut_37 : decode cX8_ifCut 37 = .ok (.ifCond .ne 6, 3) := by decide +kernel
theorem dX8_ifCut_40 : decode cX8_ifCut 40 = .ok (.bipush (-2), 2) := by decide +kernel
theorem dX8_ifCut_42 : decode cX8_ifCut 42 = .ok (.ireturn, 1) := by decide +kernel
theorem dX8_ifCut_43 : decode cX8_ifCut 43 = .ok (.aload_n 0, 1) := by decide +kernel
theorem dX8_ifCut_44 : decode cX8_ifCut 44 = .ok (.getfield 42, 3) := by decide +kernel
theorem dX8_ifCut_47 : decode cX8_ifCut 47 = .ok (.aload_n 0, 1) := by decide +kernel
theorem dX8_ifCut_48 : decode cX8_ifCut 48 = .ok (.getfield 35, 3) := by decide +kernel
theorem dX8_ifCut_51 : decode cX8_ifCut 51 = .ok (.invokevirtual 241, 3) := by decide +kernel
theorem dX8_ifCut_54 : decode cX8_ifCut 54 = .ok (.aload_n 0, 1) := by decide +kernel
theorem dX8_ifCut_55 : decode cX8_ifCut 55 = .ok (.getfield 42, 3) := by decide +kernel
theorem dX8_ifCut_58 : decode cX8_ifCut 58 = .ok (.iload_n 1, 1) := by decide +kernel
theorem dX8_ifCut_59 : decode cX8_ifCut 59 = .ok (.invokevirtual 222, 3) := by decide +kernel
theorem dX8_ifCut_62 : decode cX8_ifCut 62 = .ok (.istore 4, 2) := by decide +kernel
theorem dX8_ifCut_64 : decode cX8_ifCut 64 = .ok (.iload_n 3, 1) := by decide +kernel
theorem dX8_ifCut_65 : decode cX8_ifCut 65 = .ok (.ifCond .ne 6, 3) := by decide +kernel
theorem dX8_ifCut_68 : decode cX8_ifCut 68 = .ok (.iload 4, 2) := by decide +kernel
theorem dX8_ifCut_70 : decode cX8_ifCut 70 = .ok (.ireturn, 1) := by decide +kernel
theorem dX8_ifCut_71 : decode cX8_ifCut 71 = .ok (.aload_n 0, 1) := by decide +kernel
theorem dX8_ifCut_72 : decode cX8_ifCut 72 = .ok (.aload_n 0, 1) := by decide +kernel
theorem dX8_ifCut_73 : decode cX8_ifCut 73 = .ok (.getfield 42, 3) := by decide +kernel
theorem dX8_ifCut_76 : decode cX8_ifCut 76 = .ok (.iload_n 2, 1) := by decide +kernel
theorem dX8_ifCut_77 : decode cX8_ifCut 77 = .ok (.invokevirtual 228, 3) := by decide +kernel
theorem dX8_ifCut_80 : decode cX8_ifCut 80 = .ok (.istore 5, 2) := by decide +kernel
theorem dX8_ifCut_82 : decode cX8_ifCut 82 = .ok (.iload_n 3, 1) := by decide +kernel
theorem dX8_ifCut_83 : decode cX8_ifCut 83 = .ok (.iconst 1, 1) := by decide +kernel
theorem dX8_ifCut_84 : decode cX8_ifCut 84 = .ok (.if_icmp .ne 8, 3) := by decide +kernel
theorem dX8_ifCut_87 : decode cX8_ifCut 87 = .ok (.iload 5, 2) := by decide +kernel
theorem dX8_ifCut_89 : decode cX8_ifCut 89 = .ok (.goto 10, 3) := by decide +kernel
theorem dX8_ifCut_92 : decode cX8_ifCut 92 = .ok (.aload_n 0, 1) := by decide +kernel
theorem dX8_ifCut_93 : decode cX8_ifCut 93 = .ok (.getfield 42, 3) := by decide +kernel
theorem dX8_ifCut_96 : decode cX8_ifCut 96 = .ok (.invokevirtual 245, 3) := by decide +kernel
theorem dX8_ifCut_99 : decode cX8_ifCut 99 = .ok (.ireturn, 1) := by decide +kernel
theorem dX8_lasts_0 : decode cX8_lasts 0 = .ok (.iload_n 2, 1) := by decide +kernel
theorem dX8_lasts_1 : decode cX8_lasts 1 = .ok (.iconst 1, 1) := by decide +kernel
theorem dX8_lasts_2 : decode cX8_lasts 2 = .ok (.if_icmp .lt 21, 3) := by decide +kernel
theorem dX8_lasts_5 : decode cX8_lasts 5 = .ok (.iload_n 2, 1) := by decide +kernel
theorem dX8_lasts_6 : decode cX8_lasts 6 = .ok (.sipush 9999, 3) := by decide +kernel
theorem dX8_lasts_9 : decode cX8_lasts 9 = .ok (.if_icmp .gt 14, 3) := by decide +kernel
theorem dX8_lasts_12 : decode cX8_lasts 12 = .ok (.aload_n 0, 1) := by decide +kernel
theorem dX8_lasts_13 : decode cX8_lasts 13 = .ok (.getfield 35, 3) := by decide +kernel
theorem dX8_lasts_16 : decode cX8_lasts 16 = .ok (.iload_n 1, 1) := by decide +kernel
theorem dX8_lasts_17 : decode cX8_lasts 17 = .ok (.invokevirtual 248, 3) := by decide +kernel
theorem dX8_lasts_20 : decode cX8_lasts 20 = .ok (.ifCond .ne 5, 3) := by decide +kernel
theorem dX8_lasts_23 : decode cX8_lasts 23 = .ok (.iconst (-1), 1) := by decide +kernel
theorem dX8_lasts_24 : decode cX8_lasts 24 = .ok (.ireturn, 1) := by decide +kernel
theorem dX8_lasts_25 : decode cX8_lasts 25 = .ok (.aload_n 0, 1) := by decide +kernel
theorem dX8_lasts_26 : decode cX8_lasts 26 = .ok (.getfield 35, 3) := by decide +kernel
theorem dX8_lasts_29 : decode cX8_lasts 29 = .ok (.getfield 251, 3) := by decide +kernel
theorem dX8_lasts_32 : decode cX8_lasts 32 = .ok (.iload_n 1, 1) := by decide +kernel
theorem dX8_lasts_33 : decode cX8_lasts 33 = .ok (.aload_n 0, 1) := by decide +kernel
theorem dX8_lasts_34 : decode cX8_lasts 34 = .ok (.getfield 35, 3) := by decide +kernel
theorem dX8_lasts_37 : decode cX8_lasts 37 = .ok (.getfield 254, 3) := by decide +kernel
theorem dX8_lasts_40 : decode cX8_lasts 40 = .ok (.iload_n 2, 1) := by decide +kernel
theorem dX8_lasts_41 : decode cX8_lasts 41 = .ok (.iadd, 1) := by decide +kernel
theorem dX8_lasts_42 : decode cX8_lasts 42 = .ok (.iastore, 1) := by decide +kernel
theorem dX8_lasts_43 : decode cX8_lasts 43 = .ok (.aload_n 0, 1) := by decide +kernel
theorem dX8_lasts_44 : decode cX8_lasts 44 = .ok (.getfield 35, 3) := by decide +kernel
theorem dX8_lasts_47 : decode cX8_lasts 47 = .ok (.getfield 251, 3) := by decide +kernel
theorem dX8_lasts_50 : decode cX8_lasts 50 = .ok (.iload_n 1, 1) := by decide +kernel
theorem dX8_lasts_51 : decode cX8_lasts 51 = .ok (.iaload, 1) := by decide +kernel
theorem dX8_lasts_52 : decode cX8_lasts 52 = .ok (.ireturn, 1) := by decide +kernel
theorem dX8_ticks_0 : decode cX8_ticks 0 = .ok (.iload_n 1, 1) := by decide +kernel
theorem dX8_ticks_1 : decode cX8_ticks 1 = .ok (.iconst 1, 1) := by decide +kernel
theorem dX8_ticks_2 : decode cX8_ticks 2 = .ok (.if_icmp .lt 10, 3) := by decide +kernel
theorem dX8_ticks_5 : decode cX8_ticks 5 = .ok (.iload_n 1, 1) := by decide +kernel
theorem dX8_ticks_6 : decode cX8_ticks 6 = .ok (.sipush 1000, 3) := by decide +kernel
theorem dX8_ticks_9 : decode cX8_ticks 9 = .ok (.if_icmp .le 5, 3) := by decide +kernel
theorem dX8_ticks_12 : decode cX8_ticks 12 = .ok (.iconst (-1), 1) := by decide +kernel
theorem dX8_ticks_13 : decode cX8_ticks 13 = .ok (.ireturn, 1) := by decide +kernel
theorem dX8_ticks_14 : decode cX8_ticks 14 = .ok (.aload_n 0, 1) := by decide +kernel
theorem dX8_ticks_15 : decode cX8_ticks 15 = .ok (.getfield 35, 3) := by decide +kernel
theorem dX8_ticks_18 : decode cX8_ticks 18 = .ok (.getfield 254, 3) := by decide +kernel
theorem dX8_ticks_21 : decode cX8_ticks 21 = .ok (.iload_n 1, 1) := by decide +kernel
theorem dX8_ticks_22 : decode cX8_ticks 22 = .ok (.iadd, 1) := by decide +kernel
theorem dX8_ticks_23 : decode cX8_ticks 23 = .ok (.ldc_w 257, 3) := by decide +kernel
theorem dX8_ticks_26 : decode cX8_ticks 26 = .ok (.if_icmp .le 6, 3) := by decide +kernel
theorem dX8_ticks_29 : decode cX8_ticks 29 = .ok (.bipush (-3), 2) := by decide +kernel
theorem dX8_ticks_31 : decode cX8_ticks 31 = .ok (.ireturn, 1) := by decide +kernel
theorem dX8_ticks_32 : decode cX8_ticks 32 = .ok (.aload_n 0, 1) := by decide +kernel
theorem dX8_ticks_33 : decode cX8_ticks 33 = .ok (.getfield 35, 3) := by decide +kernel
theorem dX8_ticks_36 : decode cX8_ticks 36 = .ok (.dup, 1) := by decide +kernel
theorem dX8_ticks_37 : decode cX8_ticks 37 = .ok (.getfield 254, 3) := by decide +kernel
theorem dX8_ticks_40 : decode cX8_ticks 40 = .ok (.iload_n 1, 1) := by decide +kernel
theorem dX8_ticks_41 : decode cX8_ticks 41 = .ok (.iadd, 1) := by decide +kernel
theorem dX8_ticks_42 : decode cX8_ticks 42 = .ok (.putfield 254, 3) := by decide +kernel
theorem dX8_ticks_45 : decode cX8_ticks 45 = .ok (.aload_n 0, 1) := by decide +kernel
theorem dX8_ticks_46 : decode cX8_ticks 46 = .ok (.getfield 35, 3) := by decide +kernel
theorem dX8_ticks_49 : decode cX8_ticks 49 = .ok (.invokevirtual 258, 3) := by decide +kernel
theorem dX8_ticks_52 : decode cX8_ticks 52 = .ok (.ireturn, 1) := by decide +kernel
theorem dX8_seed_0 : decode cX8_seed 0 = .ok (.iload_n 1, 1) := by decide +kernel
theorem dX8_seed_1 : decode cX8_seed 1 = .ok (.ifCond .lt 10, 3) := by decide +kernel
theorem dX8_seed_4 : decode cX8_seed 4 = .ok (.iload_n 1, 1) := by decide +kernel
theorem dX8_seed_5 : decode cX8_seed 5 = .ok (.ldc_w 261, 3) := by decide +kernel
theorem dX8_seed_8 : decode cX8_seed 8 = .ok (.if_icmp .le 5, 3) := by decide +kernel
theorem dX8_seed_11 : decode cX8_seed 11 = .ok (.iconst 0, 1) := by decide +kernel
theorem dX8_seed_12 : decode cX8_seed 12 = .ok (.ireturn, 1) := by decide +kernel
theorem dX8_seed_13 : decode cX8_seed 13 = .ok (.aload_n 0, 1) := by decide +kernel
theorem dX8_seed_14 : decode cX8_seed 14 = .ok (.getfield 35, 3) := by decide +kernel
theorem dX8_seed_17 : decode cX8_seed 17 = .ok (.iload_n 1, 1) := by decide +kernel
theorem dX8_seed_18 : decode cX8_seed 18 = .ok (.putfield 262, 3) := by decide +kernel
theorem dX8_seed_21 : decode cX8_seed 21 = .ok (.iconst 1, 1) := by decide +kernel
theorem dX8_seed_22 : decode cX8_seed 22 = .ok (.ireturn, 1) := by decide +kernel
theorem dX8_gridIs_0 : decode cX8_gridIs 0 = .ok (.aload_n 0, 1) := by decide +kernel
theorem dX8_gridIs_1 : decode cX8_gridIs 1 = .ok (.getfield 35, 3) := by decide +kernel
theorem dX8_gridIs_4 : decode cX8_gridIs 4 = .ok (.getfield 204, 3) := by decide +kernel
theorem dX8_gridIs_7 : decode cX8_gridIs 7 = .ok (.astore_n 2, 1) := by decide +kernel
theorem dX8_gridIs_8 : decode cX8_gridIs 8 = .ok (.iload_n 1, 1) := by decide +kernel
theorem dX8_gridIs_9 : decode cX8_gridIs 9 = .ok (.bipush 20, 2) := by decide +kernel
theorem dX8_gridIs_11 : decode cX8_gridIs 11 = .ok (.if_icmp .lt 19, 3) := by decide +kernel
theorem dX8_gridIs_14 : decode cX8_gridIs 14 = .ok (.iload_n 1, 1) := by decide +kernel
theorem dX8_gridIs_15 : decode cX8_gridIs 15 = .ok (.bipush 24, 2) := by decide +kernel
theorem dX8_gridIs_17 : decode cX8_gridIs 17 = .ok (.if_icmp .ge 13, 3) := by decide +kernel
theorem dX8_gridIs_20 : decode cX8_gridIs 20 = .ok (.aload_n 2, 1) := by decide +kernel
theorem dX8_gridIs_21 : decode cX8_gridIs 21 = .ok (.getfield 265, 3) := by decide +kernel
theorem dX8_gridIs_24 : decode cX8_gridIs 24 = .ok (.iload_n 1, 1) := by decide +kernel
theorem dX8_gridIs_25 : decode cX8_gridIs 25 = .ok (.bipush 20, 2) := by decide +kernel
theorem dX8_gridIs_27 : decode cX8_gridIs 27 = .ok (.isub, 1) := by decide +kernel
theorem dX8_gridIs_28 : decode cX8_gridIs 28 = .ok (.iaload, 1) := by decide +kernel
theorem dX8_gridIs_29 : decode cX8_gridIs 29 = .ok (.ireturn, 1) := by decide +kernel
theorem dX8_gridIs_30 : decode cX8_gridIs 30 = .ok (.iload_n 1, 1) := by decide +kernel
theorem dX8_gridIs_31 : decode cX8_gridIs 31 = .ok (.tableswitch 173 0 13 #[69, 74, 79, 84, 89, 97, 105, 114, 123, 132, 141, 149, 157, 165], 69) := by decide +kernel
theorem dX8_gridIs_100 : decode cX8_gridIs 100 = .ok (.aload_n 2, 1) := by decide +kernel
theorem dX8_gridIs_101 : decode cX8_gridIs 101 = .ok (.getfield 268, 3) := by decide +kernel
theorem dX8_gridIs_104 : decode cX8_gridIs 104 = .ok (.ireturn, 1) := by decide +kernel
theorem dX8_gridIs_105 : decode cX8_gridIs 105 = .ok (.aload_n 2, 1) := by decide +kernel
theorem dX8_gridIs_106 : decode cX8_gridIs 106 = .ok (.getfield 207, 3) := by decide +kernel
theorem dX8_gridIs_109 : decode cX8_gridIs 109 = .ok (.ireturn, 1) := by decide +kernel
theorem dX8_gridIs_110 : decode cX8_gridIs 110 = .ok (.aload_n 2, 1) := by decide +kernel
theorem dX8_gridIs_111 : decode cX8_gridIs 111 = .ok (.getfield 271, 3) := by decide +kernel
theorem dX8_gridIs_114 : decode cX8_gridIs 114 = .ok (.ireturn, 1) := by decide +kernel
theorem dX8_gridIs_115 : decode cX8_gridIs 115 = .ok (.aload_n 2, 1) := by decide +kernel
theorem dX8_gridIs_116 : decode cX8_gridIs 116 = .ok (.getfield 274, 3) := by decide +kernel
theorem dX8_gridIs_119 : decode cX8_gridIs 119 = .ok (.ireturn, 1) := by decide +kernel
theorem dX8_gridIs_120 : decode cX8_gridIs 120 = .ok (.aload_n 0, 1) := by decide +kernel
theorem dX8_gridIs_121 : decode cX8_gridIs 121 = .ok (.getfield 35, 3) := by decide +kernel
theorem dX8_gridIs_124 : decode cX8_gridIs 124 = .ok (.getfield 225, 3) := by decide +kernel
theorem dX8_gridIs_127 : decode cX8_gridIs 127 = .ok (.ireturn, 1) := by decide +kernel
theorem dX8_gridIs_128 : decode cX8_gridIs 128 = .ok (.aload_n 0, 1) := by decide +kernel
theorem dX8_gridIs_129 : decode cX8_gridIs 129 = .ok (.getfield 35, 3) := by decide +kernel
theorem dX8_gridIs_132 : decode cX8_gridIs 132 = .ok (.getfield 145, 3) := by decide +kernel
theorem dX8_gridIs_135 : decode cX8_gridIs 135 = .ok (.ireturn, 1) := by decide +kernel
theorem dX8_gridIs_136 : decode cX8_gridIs 136 = .ok (.aload_n 0, 1) := by decide +kernel
theorem dX8_gridIs_137 : decode cX8_gridIs 137 = .ok (.getfield 35, 3) := by decide +kernel
theorem dX8_gridIs_140 : decode cX8_gridIs 140 = .ok (.iconst 0, 1) := by decide +kernel
theorem dX8_gridIs_141 : decode cX8_gridIs 141 = .ok (.invokevirtual 275, 3) := by decide +kernel
theorem dX8_gridIs_144 : decode cX8_gridIs 144 = .ok (.ireturn, 1) := by decide +kernel
theorem dX8_gridIs_145 : decode cX8_gridIs 145 = .ok (.aload_n 0, 1) := by decide +kernel
theorem dX8_gridIs_146 : decode cX8_gridIs 146 = .ok (.getfield 35, 3) := by decide +kernel
theorem dX8_gridIs_149 : decode cX8_gridIs 149 = .ok (.iconst 1, 1) := by decide +kernel
theorem dX8_gridIs_150 : decode cX8_gridIs 150 = .ok (.invokevirtual 275, 3) := by decide +kernel
theorem dX8_gridIs_153 : decode cX8_gridIs 153 = .ok (.ireturn, 1) := by decide +kernel
theorem dX8_gridIs_154 : decode cX8_gridIs 154 = .ok (.aload_n 0, 1) := by decide +kernel
theorem dX8_gridIs_155 : decode cX8_gridIs 155 = .ok (.getfield 35, 3) := by decide +kernel
theorem dX8_gridIs_158 : decode cX8_gridIs 158 = .ok (.iconst 2, 1) := by decide +kernel
theorem dX8_gridIs_159 : decode cX8_gridIs 159 = .ok (.invokevirtual 275, 3) := by decide +kernel
theorem dX8_gridIs_162 : decode cX8_gridIs 162 = .ok (.ireturn, 1) := by decide +kernel
theorem dX8_gridIs_163 : decode cX8_gridIs 163 = .ok (.aload_n 0, 1) := by decide +kernel
theorem dX8_gridIs_164 : decode cX8_gridIs 164 = .ok (.getfield 35, 3) := by decide +kernel
theorem dX8_gridIs_167 : decode cX8_gridIs 167 = .ok (.iconst 3, 1) := by decide +kernel
theorem dX8_gridIs_168 : decode cX8_gridIs 168 = .ok (.invokevirtual 275, 3) := by decide +kernel
theorem dX8_gridIs_171 : decode cX8_gridIs 171 = .ok (.ireturn, 1) := by decide +kernel
theorem dX8_gridIs_172 : decode cX8_gridIs 172 = .ok (.aload_n 0, 1) := by decide +kernel
theorem dX8_gridIs_173 : decode cX8_gridIs 173 = .ok (.getfield 35, 3) := by decide +kernel
theorem dX8_gridIs_176 : decode cX8_gridIs 176 = .ok (.invokevirtual 245, 3) := by decide +kernel
theorem dX8_gridIs_179 : decode cX8_gridIs 179 = .ok (.ireturn, 1) := by decide +kernel
theorem dX8_gridIs_180 : decode cX8_gridIs 180 = .ok (.aload_n 0, 1) := by decide +kernel
theorem dX8_gridIs_181 : decode cX8_gridIs 181 = .ok (.getfield 35, 3) := by decide +kernel
theorem dX8_gridIs_184 : decode cX8_gridIs 184 = .ok (.invokevirtual 278, 3) := by decide +kernel
theorem dX8_gridIs_187 : decode cX8_gridIs 187 = .ok (.ireturn, 1) := by decide +kernel
theorem dX8_gridIs_188 : decode cX8_gridIs 188 = .ok (.aload_n 0, 1) := by decide +kernel
theorem dX8_gridIs_189 : decode cX8_gridIs 189 = .ok (.getfield 35, 3) := by decide +kernel
theorem dX8_gridIs_192 : decode cX8_gridIs 192 = .ok (.getfield 254, 3) := by decide +kernel
theorem dX8_gridIs_195 : decode cX8_gridIs 195 = .ok (.ireturn, 1) := by decide +kernel
theorem dX8_gridIs_196 : decode cX8_gridIs 196 = .ok (.aload_n 0, 1) := by decide +kernel
theorem dX8_gridIs_197 : decode cX8_gridIs 197 = .ok (.getfield 35, 3) := by decide +kernel
theorem dX8_gridIs_200 : decode cX8_gridIs 200 = .ok (.getfield 262, 3) := by decide +kernel
theorem dX8_gridIs_203 : decode cX8_gridIs 203 = .ok (.ireturn, 1) := by decide +kernel
theorem dX8_gridIs_204 : decode cX8_gridIs 204 = .ok (.bipush (-2), 2) := by decide +kernel
theorem dX8_gridIs_206 : decode cX8_gridIs 206 = .ok (.ireturn, 1) := by decide +kernel
theorem dX8_linkIs_0 : decode cX8_linkIs 0 = .ok (.aload_n 0, 1) := by decide +kernel
theorem dX8_linkIs_1 : decode cX8_linkIs 1 = .ok (.getfield 35, 3) := by decide +kernel
theorem dX8_linkIs_4 : decode cX8_linkIs 4 = .ok (.iload_n 1, 1) := by decide +kernel
theorem dX8_linkIs_5 : decode cX8_linkIs 5 = .ok (.invokevirtual 216, 3) := by decide +kernel
theorem dX8_linkIs_8 : decode cX8_linkIs 8 = .ok (.ifCond .ne 5, 3) := by decide +kernel
theorem dX8_linkIs_11 : decode cX8_linkIs 11 = .ok (.iconst (-1), 1) := by decide +kernel
theorem dX8_linkIs_12 : decode cX8_linkIs 12 = .ok (.ireturn, 1) := by decide +kernel
theorem dX8_linkIs_13 : decode cX8_linkIs 13 = .ok (.aload_n 0, 1) := by decide +kernel
theorem dX8_linkIs_14 : decode cX8_linkIs 14 = .ok (.getfield 35, 3) := by decide +kernel
theorem dX8_linkIs_17 : decode cX8_linkIs 17 = .ok (.getfield 281, 3) := by decide +kernel
theorem dX8_linkIs_20 : decode cX8_linkIs 20 = .ok (.iload_n 1, 1) := by decide +kernel
theorem dX8_linkIs_21 : decode cX8_linkIs 21 = .ok (.laload, 1) := by decide +kernel
theorem dX8_linkIs_22 : decode cX8_linkIs 22 = .ok (.lstore_n 3, 1) := by decide +kernel
theorem dX8_linkIs_23 : decode cX8_linkIs 23 = .ok (.iload_n 2, 1) := by decide +kernel
theorem dX8_linkIs_24 : decode cX8_linkIs 24 = .ok (.bipush 20, 2) := by decide +kernel
theorem dX8_linkIs_26 : decode cX8_linkIs 26 = .ok (.if_icmp .le 36, 3) := by decide +kernel
theorem dX8_linkIs_29 : decode cX8_linkIs 29 = .ok (.iload_n 2, 1) := by decide +kernel
theorem dX8_linkIs_30 : decode cX8_linkIs 30 = .ok (.bipush 84, 2) := by decide +kernel
theorem dX8_linkIs_32 : decode cX8_linkIs 32 = .ok (.if_icmp .gt 30, 3) := by decide +kernel
theorem dX8_linkIs_35 : decode cX8_linkIs 35 = .ok (.aload_n 0, 1) := by decide +kernel
theorem dX8_linkIs_36 : decode cX8_linkIs 36 = .ok (.getfield 35, 3) := by decide +kernel
theorem dX8_linkIs_39 : decode cX8_linkIs 39 = .ok (.getfield 204, 3) := by decide +kernel
theorem dX8_linkIs_42 : decode cX8_linkIs 42 = .ok (.invokevirtual 285, 3) := by decide +kernel
theorem dX8_linkIs_45 : decode cX8_linkIs 45 = .ok (.lload_n 3, 1) := by decide +kernel
theorem dX8_linkIs_46 : decode cX8_linkIs 46 = .ok (.ldc2_w 289, 3) := by decide +kernel
theorem dX8_linkIs_49 : decode cX8_linkIs 49 = .ok (.lxor, 1) := by decide +kernel
theorem dX8_linkIs_50 : decode cX8_linkIs 50 = .ok (.land, 1) := by decide +kernel
theorem dX8_linkIs_51 : decode cX8_linkIs 51 = .ok (.iload_n 2, 1) := by decide +kernel
theorem dX8_linkIs_52 : decode cX8_linkIs 52 = .ok (.bipush 20, 2) := by decide +kernel
theorem dX8_linkIs_54 : decode cX8_linkIs 54 = .ok (.isub, 1) := by decide +kernel
theorem dX8_linkIs_55 : decode cX8_linkIs 55 = .ok (.invokestatic 291, 3) := by decide +kernel
theorem dX8_linkIs_58 : decode cX8_linkIs 58 = .ok (.invokestatic 295, 3) := by decide +kernel
theorem dX8_linkIs_61 : decode cX8_linkIs 61 = .ok (.ireturn, 1) := by decide +kernel
theorem dX8_linkIs_62 : decode cX8_linkIs 62 = .ok (.iload_n 2, 1) := by decide +kernel
theorem dX8_linkIs_63 : decode cX8_linkIs 63 = .ok (.tableswitch 157 0 9 #[53, 66, 79, 92, 109, 114, 130, 136, 142, 148], 53) := by decide +kernel
theorem dX8_linkIs_116 : decode cX8_linkIs 116 = .ok (.aload_n 0, 1) := by decide +kernel
theorem dX8_linkIs_117 : decode cX8_linkIs 117 = .ok (.getfield 35, 3) := by decide +kernel
theorem dX8_linkIs_120 : decode cX8_linkIs 120 = .ok (.getfield 204, 3) := by decide +kernel
theorem dX8_linkIs_123 : decode cX8_linkIs 123 = .ok (.getfield 301, 3) := by decide +kernel
theorem dX8_linkIs_126 : decode cX8_linkIs 126 = .ok (.iload_n 1, 1) := by decide +kernel
theorem dX8_linkIs_127 : decode cX8_linkIs 127 = .ok (.iaload, 1) := by decide +kernel
theorem dX8_linkIs_128 : decode cX8_linkIs 128 = .ok (.ireturn, 1) := by decide +kernel
theorem dX8_linkIs_129 : decode cX8_linkIs 129 = .ok (.aload_n 0, 1) := by decide +kernel
theorem dX8_linkIs_130 : decode cX8_linkIs 130 = .ok (.getfield 35, 3) := by decide +kernel
theorem dX8_linkIs_133 : decode cX8_linkIs 133 = .ok (.getfield 204, 3) := by decide +kernel
theorem dX8_linkIs_136 : decode cX8_linkIs 136 = .ok (.getfield 304, 3) := by decide +kernel
theorem dX8_linkIs_139 : decode cX8_linkIs 139 = .ok (.iload_n 1, 1) := by decide +kernel
theorem dX8_linkIs_140 : decode cX8_linkIs 140 = .ok (.iaload, 1) := by decide +kernel
theorem dX8_linkIs_141 : decode cX8_linkIs 141 = .ok (.ireturn, 1) := by decide +kernel
theorem dX8_linkIs_142 : decode cX8_linkIs 142 = .ok (.aload_n 0, 1) := by decide +kernel
theorem dX8_linkIs_143 : decode cX8_linkIs 143 = .ok (.getfield 35, 3) := by decide +kernel
theorem dX8_linkIs_146 : decode cX8_linkIs 146 = .ok (.getfield 204, 3) := by decide +kernel
theorem dX8_linkIs_149 : decode cX8_linkIs 149 = .ok (.getfield 307, 3) := by decide +kernel
theorem dX8_linkIs_152 : decode cX8_linkIs 152 = .ok (.iload_n 1, 1) := by decide +kernel
theorem dX8_linkIs_153 : decode cX8_linkIs 153 = .ok (.iaload, 1) := by decide +kernel
theorem dX8_linkIs_154 : decode cX8_linkIs 154 = .ok (.ireturn, 1) := by decide +kernel
theorem dX8_linkIs_155 : decode cX8_linkIs 155 = .ok (.aload_n 0, 1) := by decide +kernel
theorem dX8_linkIs_156 : decode cX8_linkIs 156 = .ok (.getfield 35, 3) := by decide +kernel
theorem dX8_linkIs_159 : decode cX8_linkIs 159 = .ok (.iload_n 1, 1) := by decide +kernel
theorem dX8_linkIs_160 : decode cX8_linkIs 160 = .ok (.invokevirtual 219, 3) := by decide +kernel
theorem dX8_linkIs_163 : decode cX8_linkIs 163 = .ok (.ifCond .eq 7, 3) := by decide +kernel
theorem dX8_linkIs_166 : decode cX8_linkIs 166 = .ok (.iconst 1, 1) := by decide +kernel
theorem dX8_linkIs_167 : decode cX8_linkIs 167 = .ok (.goto 4, 3) := by decide +kernel
theorem dX8_linkIs_170 : decode cX8_linkIs 170 = .ok (.iconst 0, 1) := by decide +kernel
theorem dX8_linkIs_171 : decode cX8_linkIs 171 = .ok (.ireturn, 1) := by decide +kernel
theorem dX8_linkIs_172 : decode cX8_linkIs 172 = .ok (.lload_n 3, 1) := by decide +kernel
theorem dX8_linkIs_173 : decode cX8_linkIs 173 = .ok (.invokestatic 295, 3) := by decide +kernel
theorem dX8_linkIs_176 : decode cX8_linkIs 176 = .ok (.ireturn, 1) := by decide +kernel
theorem dX8_linkIs_177 : decode cX8_linkIs 177 = .ok (.lload_n 3, 1) := by decide +kernel
theorem dX8_linkIs_178 : decode cX8_linkIs 178 = .ok (.lconst 0, 1) := by decide +kernel
theorem dX8_linkIs_179 : decode cX8_linkIs 179 = .ok (.lcmp, 1) := by decide +kernel
theorem dX8_linkIs_180 : decode cX8_linkIs 180 = .ok (.ifCond .ne 8, 3) := by decide +kernel
theorem dX8_linkIs_183 : decode cX8_linkIs 183 = .ok (.bipush (-2), 2) := by decide +kernel
theorem dX8_linkIs_185 : decode cX8_linkIs 185 = .ok (.goto 7, 3) := by decide +kernel
theorem dX8_linkIs_188 : decode cX8_linkIs 188 = .ok (.lload_n 3, 1) := by decide +kernel
theorem dX8_linkIs_189 : decode cX8_linkIs 189 = .ok (.invokestatic 310, 3) := by decide +kernel
theorem dX8_linkIs_192 : decode cX8_linkIs 192 = .ok (.ireturn, 1) := by decide +kernel
theorem dX8_linkIs_193 : decode cX8_linkIs 193 = .ok (.aload_n 0, 1) := by decide +kernel
theorem dX8_linkIs_194 : decode cX8_linkIs 194 = .ok (.iload_n 1, 1) := by decide +kernel
theorem dX8_linkIs_195 : decode cX8_linkIs 195 = .ok (.invokevirtual 313, 3) := by decide +kernel
theorem dX8_linkIs_198 : decode cX8_linkIs 198 = .ok (.ireturn, 1) := by decide +kernel
theorem dX8_linkIs_199 : decode cX8_linkIs 199 = .ok (.aload_n 0, 1) := by decide +kernel
theorem dX8_linkIs_200 : decode cX8_linkIs 200 = .ok (.iload_n 1, 1) := by decide +kernel
theorem dX8_linkIs_201 : decode cX8_linkIs 201 = .ok (.invokevirtual 316, 3) := by decide +kernel
theorem dX8_linkIs_204 : decode cX8_linkIs 204 = .ok (.ireturn, 1) := by decide +kernel
theorem dX8_linkIs_205 : decode cX8_linkIs 205 = .ok (.aload_n 0, 1) := by decide +kernel
theorem dX8_linkIs_206 : decode cX8_linkIs 206 = .ok (.iload_n 1, 1) := by decide +kernel
theorem dX8_linkIs_207 : decode cX8_linkIs 207 = .ok (.invokevirtual 319, 3) := by decide +kernel
theorem dX8_linkIs_210 : decode cX8_linkIs 210 = .ok (.ireturn, 1) := by decide +kernel
theorem dX8_linkIs_211 : decode cX8_linkIs 211 = .ok (.aload_n 0, 1) := by decide +kernel
theorem dX8_linkIs_212 : decode cX8_linkIs 212 = .ok (.getfield 35, 3) := by decide +kernel
theorem dX8_linkIs_215 : decode cX8_linkIs 215 = .ok (.iload_n 1, 1) := by decide +kernel
theorem dX8_linkIs_216 : decode cX8_linkIs 216 = .ok (.invokevirtual 322, 3) := by decide +kernel
theorem dX8_linkIs_219 : decode cX8_linkIs 219 = .ok (.ireturn, 1) := by decide +kernel
theorem dX8_linkIs_220 : decode cX8_linkIs 220 = .ok (.iconst (-1), 1) := by decide +kernel
theorem dX8_linkIs_221 : decode cX8_linkIs 221 = .ok (.ireturn, 1) := by decide +kernel
theorem dX8_longestFree_0 : decode cX8_longestFree 0 = .ok (.aload_n 0, 1) := by decide +kernel
theorem dX8_longestFree_1 : decode cX8_longestFree 1 = .ok (.getfield 35, 3) := by decide +kernel
theorem dX8_longestFree_4 : decode cX8_longestFree 4 = .ok (.getfield 281, 3) := by decide +kernel
theorem dX8_longestFree_7 : decode cX8_longestFree 7 = .ok (.iload_n 1, 1) := by decide +kernel
theorem dX8_longestFree_8 : decode cX8_longestFree 8 = .ok (.laload, 1) := by decide +kernel
theorem dX8_longestFree_9 : decode cX8_longestFree 9 = .ok (.lstore_n 2, 1) := by decide +kernel
theorem dX8_longestFree_10 : decode cX8_longestFree 10 = .ok (.iconst 0, 1) := by decide +kernel
theorem dX8_longestFree_11 : decode cX8_longestFree 11 = .ok (.istore 4, 2) := by decide +kernel
theorem dX8_longestFree_13 : decode cX8_longestFree 13 = .ok (.iconst 0, 1) := by decide +kernel
theorem dX8_longestFree_14 : decode cX8_longestFree 14 = .ok (.istore 5, 2) := by decide +kernel
theorem dX8_longestFree_16 : decode cX8_longestFree 16 = .ok (.iconst 0, 1) := by decide +kernel
theorem dX8_longestFree_17 : decode cX8_longestFree 17 = .ok (.istore 6, 2) := by decide +kernel
theorem dX8_longestFree_19 : decode cX8_longestFree 19 = .ok (.iload 6, 2) := by decide +kernel
theorem dX8_longestFree_21 : decode cX8_longestFree 21 = .ok (.aload_n 0, 1) := by decide +kernel
theorem dX8_longestFree_22 : decode cX8_longestFree 22 = .ok (.getfield 35, 3) := by decide +kernel
theorem dX8_longestFree_25 : decode cX8_longestFree 25 = .ok (.getfield 204, 3) := by decide +kernel
theorem dX8_longestFree_28 : decode cX8_longestFree 28 = .ok (.getfield 207, 3) := by decide +kernel
theorem dX8_longestFree_31 : decode cX8_longestFree 31 = .ok (.if_icmp .ge 39, 3) := by decide +kernel
theorem dX8_longestFree_34 : decode cX8_longestFree 34 = .ok (.lload_n 2, 1) := by decide +kernel
theorem dX8_longestFree_35 : decode cX8_longestFree 35 = .ok (.iload 6, 2) := by decide +kernel
theorem dX8_longestFree_37 : decode cX8_longestFree 37 = .ok (.lushr, 1) := by decide +kernel
theorem dX8_longestFree_38 : decode cX8_longestFree 38 = .ok (.lconst 1, 1) := by decide +kernel
theorem dX8_longestFree_39 : decode cX8_longestFree 39 = .ok (.land, 1) := by decide +kernel
theorem dX8_longestFree_40 : decode cX8_longestFree 40 = .ok (.lconst 0, 1) := by decide +kernel
theorem dX8_longestFree_41 : decode cX8_longestFree 41 = .ok (.lcmp, 1) := by decide +kernel
theorem dX8_longestFree_42 : decode cX8_longestFree 42 = .ok (.ifCond .ne 10, 3) := by decide +kernel
theorem dX8_longestFree_45 : decode cX8_longestFree 45 = .ok (.iload 5, 2) := by decide +kernel
theorem dX8_longestFree_47 : decode cX8_longestFree 47 = .ok (.iconst 1, 1) := by decide +kernel
theorem dX8_longestFree_48 : decode cX8_longestFree 48 = .ok (.iadd, 1) := by decide +kernel
theorem dX8_longestFree_49 : decode cX8_longestFree 49 = .ok (.goto 4, 3) := by decide +kernel
theorem dX8_longestFree_52 : decode cX8_longestFree 52 = .ok (.iconst 0, 1) := by decide +kernel
theorem dX8_longestFree_53 : decode cX8_longestFree 53 = .ok (.istore 5, 2) := by decide +kernel
theorem dX8_longestFree_55 : decode cX8_longestFree 55 = .ok (.iload 4, 2) := by decide +kernel
theorem dX8_longestFree_57 : decode cX8_longestFree 57 = .ok (.iload 5, 2) := by decide +kernel
theorem dX8_longestFree_59 : decode cX8_longestFree 59 = .ok (.invokestatic 325, 3) := by decide +kernel
theorem dX8_longestFree_62 : decode cX8_longestFree 62 = .ok (.istore 4, 2) := by decide +kernel
theorem dX8_longestFree_64 : decode cX8_longestFree 64 = .ok (.iinc 6 1, 3) := by decide +kernel
theorem dX8_longestFree_67 : decode cX8_longestFree 67 = .ok (.goto (-48), 3) := by decide +kernel
theorem dX8_longestFree_70 : decode cX8_longestFree 70 = .ok (.iload 4, 2) := by decide +kernel
theorem dX8_longestFree_72 : decode cX8_longestFree 72 = .ok (.ireturn, 1) := by decide +kernel
theorem dX8_freeRows_0 : decode cX8_freeRows 0 = .ok (.aload_n 0, 1) := by decide +kernel
theorem dX8_freeRows_1 : decode cX8_freeRows 1 = .ok (.getfield 35, 3) := by decide +kernel
theorem dX8_freeRows_4 : decode cX8_freeRows 4 = .ok (.getfield 204, 3) := by decide +kernel
theorem dX8_freeRows_7 : decode cX8_freeRows 7 = .ok (.invokevirtual 285, 3) := by decide +kernel
theorem dX8_freeRows_10 : decode cX8_freeRows 10 = .ok (.aload_n 0, 1) := by decide +kernel
theorem dX8_freeRows_11 : decode cX8_freeRows 11 = .ok (.getfield 35, 3) := by decide +kernel
theorem dX8_freeRows_14 : decode cX8_freeRows 14 = .ok (.getfield 281, 3) := by decide +kernel
theorem dX8_freeRows_17 : decode cX8_freeRows 17 = .ok (.iload_n 1, 1) := by decide +kernel
theorem dX8_freeRows_18 : decode cX8_freeRows 18 = .ok (.laload, 1) := by decide +kernel
theorem dX8_freeRows_19 : decode cX8_freeRows 19 = .ok (.ldc2_w 289, 3) := by decide +kernel
theorem dX8_freeRows_22 : decode cX8_freeRows 22 = .ok (.lxor, 1) := by decide +kernel
theorem dX8_freeRows_23 : decode cX8_freeRows 23 = .ok (.land, 1) := by decide +kernel
theorem dX8_freeRows_24 : decode cX8_freeRows 24 = .ok (.lstore_n 2, 1) := by decide +kernel
theorem dX8_freeRows_25 : decode cX8_freeRows 25 = .ok (.lload_n 2, 1) := by decide +kernel
theorem dX8_freeRows_26 : decode cX8_freeRows 26 = .ok (.lload_n 2, 1) := by decide +kernel
theorem dX8_freeRows_27 : decode cX8_freeRows 27 = .ok (.iconst 1, 1) := by decide +kernel
theorem dX8_freeRows_28 : decode cX8_freeRows 28 = .ok (.lshl, 1) := by decide +kernel
theorem dX8_freeRows_29 : decode cX8_freeRows 29 = .ok (.ldc2_w 289, 3) := by decide +kernel
theorem dX8_freeRows_32 : decode cX8_freeRows 32 = .ok (.lxor, 1) := by decide +kernel
theorem dX8_freeRows_33 : decode cX8_freeRows 33 = .ok (.land, 1) := by decide +kernel
theorem dX8_freeRows_34 : decode cX8_freeRows 34 = .ok (.invokestatic 295, 3) := by decide +kernel
theorem dX8_freeRows_37 : decode cX8_freeRows 37 = .ok (.ireturn, 1) := by decide +kernel
theorem dX8_torn_0 : decode cX8_torn 0 = .ok (.aload_n 0, 1) := by decide +kernel
theorem dX8_torn_1 : decode cX8_torn 1 = .ok (.getfield 35, 3) := by decide +kernel
theorem dX8_torn_4 : decode cX8_torn 4 = .ok (.getfield 204, 3) := by decide +kernel
theorem dX8_torn_7 : decode cX8_torn 7 = .ok (.invokevirtual 285, 3) := by decide +kernel
theorem dX8_torn_10 : decode cX8_torn 10 = .ok (.aload_n 0, 1) := by decide +kernel
theorem dX8_torn_11 : decode cX8_torn 11 = .ok (.getfield 35, 3) := by decide +kernel
theorem dX8_torn_14 : decode cX8_torn 14 = .ok (.getfield 281, 3) := by decide +kernel
theorem dX8_torn_17 : decode cX8_torn 17 = .ok (.iload_n 1, 1) := by decide +kernel
theorem dX8_torn_18 : decode cX8_torn 18 = .ok (.laload, 1) := by decide +kernel
theorem dX8_torn_19 : decode cX8_torn 19 = .ok (.ldc2_w 289, 3) := by decide +kernel
theorem dX8_torn_22 : decode cX8_torn 22 = .ok (.lxor, 1) := by decide +kernel
theorem dX8_torn_23 : decode cX8_torn 23 = .ok (.land, 1) := by decide +kernel
theorem dX8_torn_24 : decode cX8_torn 24 = .ok (.invokestatic 295, 3) := by decide +kernel
theorem dX8_torn_27 : decode cX8_torn 27 = .ok (.istore_n 2, 1) := by decide +kernel
theorem dX8_torn_28 : decode cX8_torn 28 = .ok (.iload_n 2, 1) := by decide +kernel
theorem dX8_torn_29 : decode cX8_torn 29 = .ok (.ifCond .gt 5, 3) := by decide +kernel
theorem dX8_torn_32 : decode cX8_torn 32 = .ok (.iconst 0, 1) := by decide +kernel
theorem dX8_torn_33 : decode cX8_torn 33 = .ok (.ireturn, 1) := by decide +kernel
theorem dX8_torn_34 : decode cX8_torn 34 = .ok (.iload_n 2, 1) := by decide +kernel
theorem dX8_torn_35 : decode cX8_torn 35 = .ok (.aload_n 0, 1) := by decide +kernel
theorem dX8_torn_36 : decode cX8_torn 36 = .ok (.iload_n 1, 1) := by decide +kernel
theorem dX8_torn_37 : decode cX8_torn 37 = .ok (.invokevirtual 313, 3) := by decide +kernel
theorem dX8_torn_40 : decode cX8_torn 40 = .ok (.isub, 1) := by decide +kernel
theorem dX8_torn_41 : decode cX8_torn 41 = .ok (.sipush 10000, 3) := by decide +kernel
theorem dX8_torn_44 : decode cX8_torn 44 = .ok (.imul, 1) := by decide +kernel
theorem dX8_torn_45 : decode cX8_torn 45 = .ok (.iload_n 2, 1) := by decide +kernel
theorem dX8_torn_46 : decode cX8_torn 46 = .ok (.idiv, 1) := by decide +kernel
theorem dX8_torn_47 : decode cX8_torn 47 = .ok (.ireturn, 1) := by decide +kernel
theorem dX8_demandIs_0 : decode cX8_demandIs 0 = .ok (.aload_n 0, 1) := by decide +kernel
theorem dX8_demandIs_1 : decode cX8_demandIs 1 = .ok (.getfield 35, 3) := by decide +kernel
theorem dX8_demandIs_4 : decode cX8_demandIs 4 = .ok (.iload_n 1, 1) := by decide +kernel
theorem dX8_demandIs_5 : decode cX8_demandIs 5 = .ok (.invokevirtual 169, 3) := by decide +kernel
theorem dX8_demandIs_8 : decode cX8_demandIs 8 = .ok (.ifCond .eq 13, 3) := by decide +kernel
theorem dX8_demandIs_11 : decode cX8_demandIs 11 = .ok (.iload_n 2, 1) := by decide +kernel
theorem dX8_demandIs_12 : decode cX8_demandIs 12 = .ok (.ifCond .lt 9, 3) := by decide +kernel
theorem dX8_demandIs_15 : decode cX8_demandIs 15 = .ok (.iload_n 2, 1) := by decide +kernel
theorem dX8_demandIs_16 : decode cX8_demandIs 16 = .ok (.bipush 11, 2) := by decide +kernel
theorem dX8_demandIs_18 : decode cX8_demandIs 18 = .ok (.if_icmp .le 5, 3) := by decide +kernel
theorem dX8_demandIs_21 : decode cX8_demandIs 21 = .ok (.iconst (-1), 1) := by decide +kernel
theorem dX8_demandIs_22 : decode cX8_demandIs 22 = .ok (.ireturn, 1) := by decide +kernel
theorem dX8_demandIs_23 : decode cX8_demandIs 23 = .ok (.iload_n 2, 1) := by decide +kernel
theorem dX8_demandIs_24 : decode cX8_demandIs 24 = .ok (.tableswitch 142 0 11 #[64, 74, 84, 94, 142, 142, 142, 142, 142, 142, 142, 104], 64) := by decide +kernel
theorem dX8_demandIs_88 : decode cX8_demandIs 88 = .ok (.aload_n 0, 1) := by decide +kernel
theorem dX8_demandIs_89 : decode cX8_demandIs 89 = .ok (.getfield 35, 3) := by decide +kernel
theorem dX8_demandIs_92 : decode cX8_demandIs 92 = .ok (.getfield 232, 3) := by decide +kernel
theorem dX8_demandIs_95 : decode cX8_demandIs 95 = .ok (.iload_n 1, 1) := by decide +kernel
theorem dX8_demandIs_96 : decode cX8_demandIs 96 = .ok (.iaload, 1) := by decide +kernel
theorem dX8_demandIs_97 : decode cX8_demandIs 97 = .ok (.ireturn, 1) := by decide +kernel
theorem dX8_demandIs_98 : decode cX8_demandIs 98 = .ok (.aload_n 0, 1) := by decide +kernel
theorem dX8_demandIs_99 : decode cX8_demandIs 99 = .ok (.getfield 35, 3) := by decide +kernel
theorem dX8_demandIs_102 : decode cX8_demandIs 102 = .ok (.getfield 235, 3) := by decide +kernel
theorem dX8_demandIs_105 : decode cX8_demandIs 105 = .ok (.iload_n 1, 1) := by decide +kernel
theorem dX8_demandIs_106 : decode cX8_demandIs 106 = .ok (.iaload, 1) := by decide +kernel
theorem dX8_demandIs_107 : decode cX8_demandIs 107 = .ok (.ireturn, 1) := by decide +kernel
theorem dX8_demandIs_108 : decode cX8_demandIs 108 = .ok (.aload_n 0, 1) := by decide +kernel
theorem dX8_demandIs_109 : decode cX8_demandIs 109 = .ok (.getfield 35, 3) := by decide +kernel
theorem dX8_demandIs_112 : decode cX8_demandIs 112 = .ok (.getfield 238, 3) := by decide +kernel
theorem dX8_demandIs_115 : decode cX8_demandIs 115 = .ok (.iload_n 1, 1) := by decide +kernel
theorem dX8_demandIs_116 : decode cX8_demandIs 116 = .ok (.iaload, 1) := by decide +kernel
theorem dX8_demandIs_117 : decode cX8_demandIs 117 = .ok (.ireturn, 1) := by decide +kernel
theorem dX8_demandIs_118 : decode cX8_demandIs 118 = .ok (.aload_n 0, 1) := by decide +kernel
theorem dX8_demandIs_119 : decode cX8_demandIs 119 = .ok (.getfield 35, 3) := by decide +kernel
theorem dX8_demandIs_122 : decode cX8_demandIs 122 = .ok (.getfield 172, 3) := by decide +kernel
theorem dX8_demandIs_125 : decode cX8_demandIs 125 = .ok (.iload_n 1, 1) := by decide +kernel
theorem dX8_demandIs_126 : decode cX8_demandIs 126 = .ok (.iaload, 1) := by decide +kernel
theorem dX8_demandIs_127 : decode cX8_demandIs 127 = .ok (.ireturn, 1) := by decide +kernel
theorem dX8_demandIs_128 : decode cX8_demandIs 128 = .ok (.aload_n 0, 1) := by decide +kernel
theorem dX8_demandIs_129 : decode cX8_demandIs 129 = .ok (.getfield 35, 3) := by decide +kernel
theorem dX8_demandIs_132 : decode cX8_demandIs 132 = .ok (.iload_n 1, 1) := by decide +kernel
theorem dX8_demandIs_133 : decode cX8_demandIs 133 = .ok (.invokevirtual 248, 3) := by decide +kernel
theorem dX8_demandIs_136 : decode cX8_demandIs 136 = .ok (.ifCond .eq 27, 3) := by decide +kernel
theorem dX8_demandIs_139 : decode cX8_demandIs 139 = .ok (.aload_n 0, 1) := by decide +kernel
theorem dX8_demandIs_140 : decode cX8_demandIs 140 = .ok (.getfield 35, 3) := by decide +kernel
theorem dX8_demandIs_143 : decode cX8_demandIs 143 = .ok (.getfield 251, 3) := by decide +kernel
theorem dX8_demandIs_146 : decode cX8_demandIs 146 = .ok (.iload_n 1, 1) := by decide +kernel
theorem dX8_demandIs_147 : decode cX8_demandIs 147 = .ok (.iaload, 1) := by decide +kernel
theorem dX8_demandIs_148 : decode cX8_demandIs 148 = .ok (.ifCond .lt 15, 3) := by decide +kernel
theorem dX8_demandIs_151 : decode cX8_demandIs 151 = .ok (.aload_n 0, 1) := by decide +kernel
theorem dX8_demandIs_152 : decode cX8_demandIs 152 = .ok (.getfield 35, 3) := by decide +kernel
theorem dX8_demandIs_155 : decode cX8_demandIs 155 = .ok (.getfield 251, 3) := by decide +kernel
theorem dX8_demandIs_158 : decode cX8_demandIs 158 = .ok (.iload_n 1, 1) := by decide +kernel
theorem dX8_demandIs_159 : decode cX8_demandIs 159 = .ok (.iaload, 1) := by decide +kernel
theorem dX8_demandIs_160 : decode cX8_demandIs 160 = .ok (.goto 5, 3) := by decide +kernel
theorem dX8_demandIs_163 : decode cX8_demandIs 163 = .ok (.bipush (-2), 2) := by decide +kernel
theorem dX8_demandIs_165 : decode cX8_demandIs 165 = .ok (.ireturn, 1) := by decide +kernel
theorem dX8_demandIs_166 : decode cX8_demandIs 166 = .ok (.aload_n 0, 1) := by decide +kernel
theorem dX8_demandIs_167 : decode cX8_demandIs 167 = .ok (.getfield 35, 3) := by decide +kernel
theorem dX8_demandIs_170 : decode cX8_demandIs 170 = .ok (.iload_n 1, 1) := by decide +kernel
theorem dX8_demandIs_171 : decode cX8_demandIs 171 = .ok (.invokevirtual 180, 3) := by decide +kernel
theorem dX8_demandIs_174 : decode cX8_demandIs 174 = .ok (.ifCond .eq 12, 3) := by decide +kernel
theorem dX8_demandIs_177 : decode cX8_demandIs 177 = .ok (.aload_n 0, 1) := by decide +kernel
theorem dX8_demandIs_178 : decode cX8_demandIs 178 = .ok (.iload_n 1, 1) := by decide +kernel
theorem dX8_demandIs_179 : decode cX8_demandIs 179 = .ok (.iload_n 2, 1) := by decide +kernel
theorem dX8_demandIs_180 : decode cX8_demandIs 180 = .ok (.invokevirtual 330, 3) := by decide +kernel
theorem dX8_demandIs_183 : decode cX8_demandIs 183 = .ok (.goto 5, 3) := by decide +kernel
theorem dX8_demandIs_186 : decode cX8_demandIs 186 = .ok (.bipush (-2), 2) := by decide +kernel
theorem dX8_demandIs_188 : decode cX8_demandIs 188 = .ok (.ireturn, 1) := by decide +kernel
theorem dX8_litDemandIs_0 : decode cX8_litDemandIs 0 = .ok (.aload_n 0, 1) := by decide +kernel
theorem dX8_litDemandIs_1 : decode cX8_litDemandIs 1 = .ok (.getfield 35, 3) := by decide +kernel
theorem dX8_litDemandIs_4 : decode cX8_litDemandIs 4 = .ok (.getfield 189, 3) := by decide +kernel
theorem dX8_litDemandIs_7 : decode cX8_litDemandIs 7 = .ok (.iload_n 1, 1) := by decide +kernel
theorem dX8_litDemandIs_8 : decode cX8_litDemandIs 8 = .ok (.iaload, 1) := by decide +kernel
theorem dX8_litDemandIs_9 : decode cX8_litDemandIs 9 = .ok (.istore_n 3, 1) := by decide +kernel
theorem dX8_litDemandIs_10 : decode cX8_litDemandIs 10 = .ok (.iload_n 2, 1) := by decide +kernel
theorem dX8_litDemandIs_11 : decode cX8_litDemandIs 11 = .ok (.tableswitch 98 4 9 #[37, 47, 57, 62, 64, 76], 37) := by decide +kernel
theorem dX8_litDemandIs_48 : decode cX8_litDemandIs 48 = .ok (.aload_n 0, 1) := by decide +kernel
theorem dX8_litDemandIs_49 : decode cX8_litDemandIs 49 = .ok (.getfield 35, 3) := by decide +kernel
theorem dX8_litDemandIs_52 : decode cX8_litDemandIs 52 = .ok (.getfield 191, 3) := by decide +kernel
theorem dX8_litDemandIs_55 : decode cX8_litDemandIs 55 = .ok (.iload_n 1, 1) := by decide +kernel
theorem dX8_litDemandIs_56 : decode cX8_litDemandIs 56 = .ok (.iaload, 1) := by decide +kernel
theorem dX8_litDemandIs_57 : decode cX8_litDemandIs 57 = .ok (.ireturn, 1) := by decide +kernel
theorem dX8_litDemandIs_58 : decode cX8_litDemandIs 58 = .ok (.aload_n 0, 1) := by decide +kernel
theorem dX8_litDemandIs_59 : decode cX8_litDemandIs 59 = .ok (.getfield 35, 3) := by decide +kernel
theorem dX8_litDemandIs_62 : decode cX8_litDemandIs 62 = .ok (.getfield 193, 3) := by decide +kernel
theorem dX8_litDemandIs_65 : decode cX8_litDemandIs 65 = .ok (.iload_n 1, 1) := by decide +kernel
theorem dX8_litDemandIs_66 : decode cX8_litDemandIs 66 = .ok (.iaload, 1) := by decide +kernel
theorem dX8_litDemandIs_67 : decode cX8_litDemandIs 67 = .ok (.ireturn, 1) := by decide +kernel
theorem dX8_litDemandIs_68 : decode cX8_litDemandIs 68 = .ok (.iload_n 3, 1) := by decide +kernel
theorem dX8_litDemandIs_69 : decode cX8_litDemandIs 69 = .ok (.invokestatic 333, 3) := by decide +kernel
theorem dX8_litDemandIs_72 : decode cX8_litDemandIs 72 = .ok (.ireturn, 1) := by decide +kernel
theorem dX8_litDemandIs_73 : decode cX8_litDemandIs 73 = .ok (.iload_n 3, 1) := by decide +kernel
theorem dX8_litDemandIs_74 : decode cX8_litDemandIs 74 = .ok (.ireturn, 1) := by decide +kernel
theorem dX8_litDemandIs_75 : decode cX8_litDemandIs 75 = .ok (.aload_n 0, 1) := by decide +kernel
theorem dX8_litDemandIs_76 : decode cX8_litDemandIs 76 = .ok (.getfield 35, 3) := by decide +kernel
theorem dX8_litDemandIs_79 : decode cX8_litDemandIs 79 = .ok (.getfield 204, 3) := by decide +kernel
theorem dX8_litDemandIs_82 : decode cX8_litDemandIs 82 = .ok (.iload_n 3, 1) := by decide +kernel
theorem dX8_litDemandIs_83 : decode cX8_litDemandIs 83 = .ok (.invokevirtual 337, 3) := by decide +kernel
theorem dX8_litDemandIs_86 : decode cX8_litDemandIs 86 = .ok (.ireturn, 1) := by decide +kernel
theorem dX8_litDemandIs_87 : decode cX8_litDemandIs 87 = .ok (.aload_n 0, 1) := by decide +kernel
theorem dX8_litDemandIs_88 : decode cX8_litDemandIs 88 = .ok (.getfield 35, 3) := by decide +kernel
theorem dX8_litDemandIs_91 : decode cX8_litDemandIs 91 = .ok (.getfield 204, 3) := by decide +kernel
theorem dX8_litDemandIs_94 : decode cX8_litDemandIs 94 = .ok (.aload_n 0, 1) := by decide +kernel
theorem dX8_litDemandIs_95 : decode cX8_litDemandIs 95 = .ok (.getfield 35, 3) := by decide +kernel
theorem dX8_litDemandIs_98 : decode cX8_litDemandIs 98 = .ok (.getfield 204, 3) := by decide +kernel
theorem dX8_litDemandIs_101 : decode cX8_litDemandIs 101 = .ok (.iload_n 3, 1) := by decide +kernel
theorem dX8_litDemandIs_102 : decode cX8_litDemandIs 102 = .ok (.invokevirtual 337, 3) := by decide +kernel
theorem dX8_litDemandIs_105 : decode cX8_litDemandIs 105 = .ok (.invokevirtual 340, 3) := by decide +kernel
theorem dX8_litDemandIs_108 : decode cX8_litDemandIs 108 = .ok (.ireturn, 1) := by decide +kernel
theorem dX8_litDemandIs_109 : decode cX8_litDemandIs 109 = .ok (.aload_n 0, 1) := by decide +kernel
theorem dX8_litDemandIs_110 : decode cX8_litDemandIs 110 = .ok (.getfield 35, 3) := by decide +kernel
theorem dX8_litDemandIs_113 : decode cX8_litDemandIs 113 = .ok (.iload_n 1, 1) := by decide +kernel
theorem dX8_litDemandIs_114 : decode cX8_litDemandIs 114 = .ok (.invokevirtual 186, 3) := by decide +kernel
theorem dX8_litDemandIs_117 : decode cX8_litDemandIs 117 = .ok (.ireturn, 1) := by decide +kernel
theorem dX8_way_0 : decode cX8_way 0 = .ok (.aload_n 0, 1) := by decide +kernel
theorem dX8_way_1 : decode cX8_way 1 = .ok (.iload_n 1, 1) := by decide +kernel
theorem dX8_way_2 : decode cX8_way 2 = .ok (.iload_n 2, 1) := by decide +kernel
theorem dX8_way_3 : decode cX8_way 3 = .ok (.invokevirtual 343, 3) := by decide +kernel
theorem dX8_way_6 : decode cX8_way 6 = .ok (.ifCond .eq 23, 3) := by decide +kernel
theorem dX8_way_9 : decode cX8_way 9 = .ok (.iload_n 3, 1) := by decide +kernel
theorem dX8_way_10 : decode cX8_way 10 = .ok (.ifCond .lt 19, 3) := by decide +kernel
theorem dX8_way_13 : decode cX8_way 13 = .ok (.iload_n 3, 1) := by decide +kernel
theorem dX8_way_14 : decode cX8_way 14 = .ok (.iconst 4, 1) := by decide +kernel
theorem dX8_way_15 : decode cX8_way 15 = .ok (.if_icmp .ge 14, 3) := by decide +kernel
theorem dX8_way_18 : decode cX8_way 18 = .ok (.iload 4, 2) := by decide +kernel
theorem dX8_way_20 : decode cX8_way 20 = .ok (.ifCond .lt 9, 3) := by decide +kernel
theorem dX8_way_23 : decode cX8_way 23 = .ok (.iload 4, 2) := by decide +kernel
theorem dX8_way_25 : decode cX8_way 25 = .ok (.iconst 4, 1) := by decide +kernel
theorem dX8_way_26 : decode cX8_way 26 = .ok (.if_icmp .le 5, 3) := by decide +kernel
theorem dX8_way_29 : decode cX8_way 29 = .ok (.iconst (-1), 1) := by decide +kernel
theorem dX8_way_30 : decode cX8_way 30 = .ok (.ireturn, 1) := by decide +kernel
theorem dX8_way_31 : decode cX8_way 31 = .ok (.aload_n 0, 1) := by decide +kernel
theorem dX8_way_32 : decode cX8_way 32 = .ok (.getfield 28, 3) := by decide +kernel
theorem dX8_way_35 : decode cX8_way 35 = .ok (.getfield 347, 3) := by decide +kernel
theorem dX8_way_38 : decode cX8_way 38 = .ok (.astore 5, 2) := by decide +kernel
theorem dX8_way_40 : decode cX8_way 40 = .ok (.aload 5, 2) := by decide +kernel
theorem dX8_way_42 : decode cX8_way 42 = .ok (.aload_n 0, 1) := by decide +kernel
theorem dX8_way_43 : decode cX8_way 43 = .ok (.getfield 35, 3) := by decide +kernel
theorem dX8_way_46 : decode cX8_way 46 = .ok (.iload_n 1, 1) := by decide +kernel
theorem dX8_way_47 : decode cX8_way 47 = .ok (.iload_n 2, 1) := by decide +kernel
theorem dX8_way_48 : decode cX8_way 48 = .ok (.invokevirtual 351, 3) := by decide +kernel
theorem dX8_way_51 : decode cX8_way 51 = .ok (.istore 6, 2) := by decide +kernel
theorem dX8_way_53 : decode cX8_way 53 = .ok (.iload 4, 2) := by decide +kernel
theorem dX8_way_55 : decode cX8_way 55 = .ok (.iconst 4, 1) := by decide +kernel
theorem dX8_way_56 : decode cX8_way 56 = .ok (.if_icmp .ne 12, 3) := by decide +kernel
theorem dX8_way_59 : decode cX8_way 59 = .ok (.aload 5, 2) := by decide +kernel
theorem dX8_way_61 : decode cX8_way 61 = .ok (.getfield 357, 3) := by decide +kernel
theorem dX8_way_64 : decode cX8_way 64 = .ok (.iload 6, 2) := by decide +kernel
theorem dX8_way_66 : decode cX8_way 66 = .ok (.iaload, 1) := by decide +kernel
theorem dX8_way_67 : decode cX8_way 67 = .ok (.ireturn, 1) := by decide +kernel
theorem dX8_way_68 : decode cX8_way 68 = .ok (.iload_n 3, 1) := by decide +kernel
theorem dX8_way_69 : decode cX8_way 69 = .ok (.aload 5, 2) := by decide +kernel
theorem dX8_way_71 : decode cX8_way 71 = .ok (.getfield 357, 3) := by decide +kernel
theorem dX8_way_74 : decode cX8_way 74 = .ok (.iload 6, 2) := by decide +kernel
theorem dX8_way_76 : decode cX8_way 76 = .ok (.iaload, 1) := by decide +kernel
theorem dX8_way_77 : decode cX8_way 77 = .ok (.if_icmp .lt 6, 3) := by decide +kernel
theorem dX8_way_80 : decode cX8_way 80 = .ok (.bipush (-2), 2) := by decide +kernel
theorem dX8_way_82 : decode cX8_way 82 = .ok (.ireturn, 1) := by decide +kernel
theorem dX8_way_83 : decode cX8_way 83 = .ok (.iload 6, 2) := by decide +kernel
theorem dX8_way_85 : decode cX8_way 85 = .ok (.iconst 4, 1) := by decide +kernel
theorem dX8_way_86 : decode cX8_way 86 = .ok (.imul, 1) := by decide +kernel
theorem dX8_way_87 : decode cX8_way 87 = .ok (.iload_n 3, 1) := by decide +kernel
theorem dX8_way_88 : decode cX8_way 88 = .ok (.iadd, 1) := by decide +kernel
theorem dX8_way_89 : decode cX8_way 89 = .ok (.istore 7, 2) := by decide +kernel
theorem dX8_way_91 : decode cX8_way 91 = .ok (.iload 4, 2) := by decide +kernel
theorem dX8_way_93 : decode cX8_way 93 = .ok (.tableswitch 54 0 2 #[27, 36, 45], 27) := by decide +kernel
theorem dX8_way_120 : decode cX8_way 120 = .ok (.aload 5, 2) := by decide +kernel
theorem dX8_way_122 : decode cX8_way 122 = .ok (.getfield 360, 3) := by decide +kernel
theorem dX8_way_125 : decode cX8_way 125 = .ok (.iload 7, 2) := by decide +kernel
theorem dX8_way_127 : decode cX8_way 127 = .ok (.iaload, 1) := by decide +kernel
theorem dX8_way_128 : decode cX8_way 128 = .ok (.ireturn, 1) := by decide +kernel
theorem dX8_way_129 : decode cX8_way 129 = .ok (.aload 5, 2) := by decide +kernel
theorem dX8_way_131 : decode cX8_way 131 = .ok (.getfield 361, 3) := by decide +kernel
theorem dX8_way_134 : decode cX8_way 134 = .ok (.iload 7, 2) := by decide +kernel
theorem dX8_way_136 : decode cX8_way 136 = .ok (.iaload, 1) := by decide +kernel
theorem dX8_way_137 : decode cX8_way 137 = .ok (.ireturn, 1) := by decide +kernel
theorem dX8_way_138 : decode cX8_way 138 = .ok (.aload 5, 2) := by decide +kernel
theorem dX8_way_140 : decode cX8_way 140 = .ok (.getfield 364, 3) := by decide +kernel
theorem dX8_way_143 : decode cX8_way 143 = .ok (.iload 7, 2) := by decide +kernel
theorem dX8_way_145 : decode cX8_way 145 = .ok (.iaload, 1) := by decide +kernel
theorem dX8_way_146 : decode cX8_way 146 = .ok (.ireturn, 1) := by decide +kernel
theorem dX8_way_147 : decode cX8_way 147 = .ok (.aload_n 0, 1) := by decide +kernel
theorem dX8_way_148 : decode cX8_way 148 = .ok (.getfield 35, 3) := by decide +kernel
theorem dX8_way_151 : decode cX8_way 151 = .ok (.getfield 204, 3) := by decide +kernel
theorem dX8_way_154 : decode cX8_way 154 = .ok (.aload 5, 2) := by decide +kernel
theorem dX8_way_156 : decode cX8_way 156 = .ok (.getfield 360, 3) := by decide +kernel
theorem dX8_way_159 : decode cX8_way 159 = .ok (.iload 7, 2) := by decide +kernel
theorem dX8_way_161 : decode cX8_way 161 = .ok (.iaload, 1) := by decide +kernel
theorem dX8_way_162 : decode cX8_way 162 = .ok (.invokevirtual 340, 3) := by decide +kernel
theorem dX8_way_165 : decode cX8_way 165 = .ok (.istore 8, 2) := by decide +kernel
theorem dX8_way_167 : decode cX8_way 167 = .ok (.iload 8, 2) := by decide +kernel
theorem dX8_way_169 : decode cX8_way 169 = .ok (.ifCond .ge 8, 3) := by decide +kernel
theorem dX8_way_172 : decode cX8_way 172 = .ok (.bipush (-2), 2) := by decide +kernel
theorem dX8_way_174 : decode cX8_way 174 = .ok (.goto 5, 3) := by decide +kernel
theorem dX8_way_177 : decode cX8_way 177 = .ok (.iload 8, 2) := by decide +kernel
theorem dX8_way_179 : decode cX8_way 179 = .ok (.ireturn, 1) := by decide +kernel
theorem dX8_found_0 : decode cX8_found 0 = .ok (.aload_n 0, 1) := by decide +kernel
theorem dX8_found_1 : decode cX8_found 1 = .ok (.iload_n 1, 1) := by decide +kernel
theorem dX8_found_2 : decode cX8_found 2 = .ok (.iload_n 2, 1) := by decide +kernel
theorem dX8_found_3 : decode cX8_found 3 = .ok (.iload_n 3, 1) := by decide +kernel
theorem dX8_found_4 : decode cX8_found 4 = .ok (.invokevirtual 138, 3) := by decide +kernel
theorem dX8_found_7 : decode cX8_found 7 = .ok (.ifCond .eq 22, 3) := by decide +kernel
theorem dX8_found_10 : decode cX8_found 10 = .ok (.iload 4, 2) := by decide +kernel
theorem dX8_found_12 : decode cX8_found 12 = .ok (.invokestatic 142, 3) := by decide +kernel
theorem dX8_found_15 : decode cX8_found 15 = .ok (.ifCond .eq 14, 3) := by decide +kernel
theorem dX8_found_18 : decode cX8_found 18 = .ok (.iload 5, 2) := by decide +kernel
theorem dX8_found_20 : decode cX8_found 20 = .ok (.ifCond .lt 9, 3) := by decide +kernel
theorem dX8_found_23 : decode cX8_found 23 = .ok (.iload 5, 2) := by decide +kernel
theorem dX8_found_25 : decode cX8_found 25 = .ok (.iconst 2, 1) := by decide +kernel
theorem dX8_found_26 : decode cX8_found 26 = .ok (.if_icmp .le 5, 3) := by decide +kernel
theorem dX8_found_29 : decode cX8_found 29 = .ok (.iconst (-1), 1) := by decide +kernel
theorem dX8_found_30 : decode cX8_found 30 = .ok (.ireturn, 1) := by decide +kernel
theorem dX8_found_31 : decode cX8_found 31 = .ok (.aload_n 0, 1) := by decide +kernel
theorem dX8_found_32 : decode cX8_found 32 = .ok (.getfield 28, 3) := by decide +kernel
theorem dX8_found_35 : decode cX8_found 35 = .ok (.aload_n 0, 1) := by decide +kernel
theorem dX8_found_36 : decode cX8_found 36 = .ok (.getfield 35, 3) := by decide +kernel
theorem dX8_found_39 : decode cX8_found 39 = .ok (.iload_n 1, 1) := by decide +kernel
theorem dX8_found_40 : decode cX8_found 40 = .ok (.iload_n 2, 1) := by decide +kernel
theorem dX8_found_41 : decode cX8_found 41 = .ok (.iload_n 3, 1) := by decide +kernel
theorem dX8_found_42 : decode cX8_found 42 = .ok (.iload 4, 2) := by decide +kernel
theorem dX8_found_44 : decode cX8_found 44 = .ok (.invokevirtual 152, 3) := by decide +kernel
theorem dX8_found_47 : decode cX8_found 47 = .ok (.ifCond .ne 6, 3) := by decide +kernel
theorem dX8_found_50 : decode cX8_found 50 = .ok (.bipush (-2), 2) := by decide +kernel
theorem dX8_found_52 : decode cX8_found 52 = .ok (.ireturn, 1) := by decide +kernel
theorem dX8_found_53 : decode cX8_found 53 = .ok (.iload 5, 2) := by decide +kernel
theorem dX8_found_55 : decode cX8_found 55 = .ok (.ifCond .ne 11, 3) := by decide +kernel
theorem dX8_found_58 : decode cX8_found 58 = .ok (.aload_n 0, 1) := by decide +kernel
theorem dX8_found_59 : decode cX8_found 59 = .ok (.getfield 28, 3) := by decide +kernel
theorem dX8_found_62 : decode cX8_found 62 = .ok (.getfield 365, 3) := by decide +kernel
theorem dX8_found_65 : decode cX8_found 65 = .ok (.ireturn, 1) := by decide +kernel
theorem dX8_found_66 : decode cX8_found 66 = .ok (.iload 5, 2) := by decide +kernel
theorem dX8_found_68 : decode cX8_found 68 = .ok (.iconst 1, 1) := by decide +kernel
theorem dX8_found_69 : decode cX8_found 69 = .ok (.if_icmp .ne 13, 3) := by decide +kernel
theorem dX8_found_72 : decode cX8_found 72 = .ok (.aload_n 0, 1) := by decide +kernel
theorem dX8_found_73 : decode cX8_found 73 = .ok (.getfield 28, 3) := by decide +kernel
theorem dX8_found_76 : decode cX8_found 76 = .ok (.getfield 159, 3) := by decide +kernel
theorem dX8_found_79 : decode cX8_found 79 = .ok (.goto 10, 3) := by decide +kernel
theorem dX8_found_82 : decode cX8_found 82 = .ok (.aload_n 0, 1) := by decide +kernel
theorem dX8_found_83 : decode cX8_found 83 = .ok (.getfield 28, 3) := by decide +kernel
theorem dX8_found_86 : decode cX8_found 86 = .ok (.getfield 162, 3) := by decide +kernel
theorem dX8_found_89 : decode cX8_found 89 = .ok (.ireturn, 1) := by decide +kernel
theorem dX8_witness_0 : decode cX8_witness 0 = .ok (.aload_n 0, 1) := by decide +kernel
theorem dX8_witness_1 : decode cX8_witness 1 = .ok (.iload_n 1, 1) := by decide +kernel
theorem dX8_witness_2 : decode cX8_witness 2 = .ok (.iload_n 2, 1) := by decide +kernel
theorem dX8_witness_3 : decode cX8_witness 3 = .ok (.iload_n 3, 1) := by decide +kernel
theorem dX8_witness_4 : decode cX8_witness 4 = .ok (.invokevirtual 138, 3) := by decide +kernel
theorem dX8_witness_7 : decode cX8_witness 7 = .ok (.ifCond .eq 34, 3) := by decide +kernel
theorem dX8_witness_10 : decode cX8_witness 10 = .ok (.iload 4, 2) := by decide +kernel
theorem dX8_witness_12 : decode cX8_witness 12 = .ok (.ifCond .lt 29, 3) := by decide +kernel
theorem dX8_witness_15 : decode cX8_witness 15 = .ok (.iload 4, 2) := by decide +kernel
theorem dX8_witness_17 : decode cX8_witness 17 = .ok (.iconst 4, 1) := by decide +kernel
theorem dX8_witness_18 : decode cX8_witness 18 = .ok (.if_icmp .ge 23, 3) := by decide +kernel
theorem dX8_witness_21 : decode cX8_witness 21 = .ok (.iload 5, 2) := by decide +kernel
theorem dX8_witness_23 : decode cX8_witness 23 = .ok (.ifCond .lt 18, 3) := by decide +kernel
theorem dX8_witness_26 : decode cX8_witness 26 = .ok (.iload 5, 2) := by decide +kernel
theorem dX8_witness_28 : decode cX8_witness 28 = .ok (.aload_n 0, 1) := by decide +kernel
theorem dX8_witness_29 : decode cX8_witness 29 = .ok (.getfield 35, 3) := by decide +kernel
theorem dX8_witness_32 : decode cX8_witness 32 = .ok (.getfield 204, 3) := by decide +kernel
theorem dX8_witness_35 : decode cX8_witness 35 = .ok (.getfield 207, 3) := by decide +kernel
theorem dX8_witness_38 : decode cX8_witness 38 = .ok (.if_icmp .lt 5, 3) := by decide +kernel
theorem dX8_witness_41 : decode cX8_witness 41 = .ok (.iconst (-1), 1) := by decide +kernel
theorem dX8_witness_42 : decode cX8_witness 42 = .ok (.ireturn, 1) := by decide +kernel
theorem dX8_witness_43 : decode cX8_witness 43 = .ok (.aload_n 0, 1) := by decide +kernel
theorem dX8_witness_44 : decode cX8_witness 44 = .ok (.getfield 28, 3) := by decide +kernel
theorem dX8_witness_47 : decode cX8_witness 47 = .ok (.getfield 347, 3) := by decide +kernel
theorem dX8_witness_50 : decode cX8_witness 50 = .ok (.aload_n 0, 1) := by decide +kernel
theorem dX8_witness_51 : decode cX8_witness 51 = .ok (.getfield 35, 3) := by decide +kernel
theorem dX8_witness_54 : decode cX8_witness 54 = .ok (.iload_n 1, 1) := by decide +kernel
theorem dX8_witness_55 : decode cX8_witness 55 = .ok (.iload_n 2, 1) := by decide +kernel
theorem dX8_witness_56 : decode cX8_witness 56 = .ok (.invokevirtual 351, 3) := by decide +kernel
theorem dX8_witness_59 : decode cX8_witness 59 = .ok (.istore 6, 2) := by decide +kernel
theorem dX8_witness_61 : decode cX8_witness 61 = .ok (.iload 6, 2) := by decide +kernel
theorem dX8_witness_63 : decode cX8_witness 63 = .ok (.iconst 4, 1) := by decide +kernel
theorem dX8_witness_64 : decode cX8_witness 64 = .ok (.imul, 1) := by decide +kernel
theorem dX8_witness_65 : decode cX8_witness 65 = .ok (.iload 4, 2) := by decide +kernel
theorem dX8_witness_67 : decode cX8_witness 67 = .ok (.iadd, 1) := by decide +kernel
theorem dX8_witness_68 : decode cX8_witness 68 = .ok (.istore 7, 2) := by decide +kernel
theorem dX8_witness_70 : decode cX8_witness 70 = .ok (.iload 4, 2) := by decide +kernel
theorem dX8_witness_72 : decode cX8_witness 72 = .ok (.aload_n 0, 1) := by decide +kernel
theorem dX8_witness_73 : decode cX8_witness 73 = .ok (.getfield 28, 3) := by decide +kernel
theorem dX8_witness_76 : decode cX8_witness 76 = .ok (.getfield 347, 3) := by decide +kernel
theorem dX8_witness_79 : decode cX8_witness 79 = .ok (.getfield 357, 3) := by decide +kernel
theorem dX8_witness_82 : decode cX8_witness 82 = .ok (.iload 6, 2) := by decide +kernel
theorem dX8_witness_84 : decode cX8_witness 84 = .ok (.iaload, 1) := by decide +kernel
theorem dX8_witness_85 : decode cX8_witness 85 = .ok (.if_icmp .ge 30, 3) := by decide +kernel
theorem dX8_witness_88 : decode cX8_witness 88 = .ok (.aload_n 0, 1) := by decide +kernel
theorem dX8_witness_89 : decode cX8_witness 89 = .ok (.getfield 35, 3) := by decide +kernel
theorem dX8_witness_92 : decode cX8_witness 92 = .ok (.getfield 204, 3) := by decide +kernel
theorem dX8_witness_95 : decode cX8_witness 95 = .ok (.iload_n 3, 1) := by decide +kernel
theorem dX8_witness_96 : decode cX8_witness 96 = .ok (.aload_n 0, 1) := by decide +kernel
theorem dX8_witness_97 : decode cX8_witness 97 = .ok (.getfield 28, 3) := by decide +kernel
theorem dX8_witness_100 : decode cX8_witness 100 = .ok (.getfield 347, 3) := by decide +kernel
theorem dX8_witness_103 : decode cX8_witness 103 = .ok (.getfield 360, 3) := by decide +kernel
theorem dX8_witness_106 : decode cX8_witness 106 = .ok (.iload 7, 2) := by decide +kernel
theorem dX8_witness_108 : decode cX8_witness 108 = .ok (.iaload, 1) := by decide +kernel
theorem dX8_witness_109 : decode cX8_witness 109 = .ok (.invokevirtual 368, 3) := by decide +kernel
theorem dX8_witness_112 : decode cX8_witness 112 = .ok (.goto 4, 3) := by decide +kernel
theorem dX8_witness_115 : decode cX8_witness 115 = .ok (.iconst 0, 1) := by decide +kernel
theorem dX8_witness_116 : decode cX8_witness 116 = .ok (.istore 8, 2) := by decide +kernel
theorem dX8_witness_118 : decode cX8_witness 118 = .ok (.iload 8, 2) := by decide +kernel
theorem dX8_witness_120 : decode cX8_witness 120 = .ok (.ifCond .ne 6, 3) := by decide +kernel
theorem dX8_witness_123 : decode cX8_witness 123 = .ok (.bipush (-4), 2) := by decide +kernel
theorem dX8_witness_125 : decode cX8_witness 125 = .ok (.ireturn, 1) := by decide +kernel
theorem dX8_witness_126 : decode cX8_witness 126 = .ok (.iload 5, 2) := by decide +kernel
theorem dX8_witness_128 : decode cX8_witness 128 = .ok (.iload 8, 2) := by decide +kernel
theorem dX8_witness_130 : decode cX8_witness 130 = .ok (.iadd, 1) := by decide +kernel
theorem dX8_witness_131 : decode cX8_witness 131 = .ok (.aload_n 0, 1) := by decide +kernel
theorem dX8_witness_132 : decode cX8_witness 132 = .ok (.getfield 35, 3) := by decide +kernel
theorem dX8_witness_135 : decode cX8_witness 135 = .ok (.getfield 204, 3) := by decide +kernel
theorem dX8_witness_138 : decode cX8_witness 138 = .ok (.getfield 207, 3) := by decide +kernel
theorem dX8_witness_141 : decode cX8_witness 141 = .ok (.if_icmp .le 6, 3) := by decide +kernel
theorem dX8_witness_144 : decode cX8_witness 144 = .ok (.bipush (-3), 2) := by decide +kernel
theorem dX8_witness_146 : decode cX8_witness 146 = .ok (.ireturn, 1) := by decide +kernel
theorem dX8_witness_147 : decode cX8_witness 147 = .ok (.aload_n 0, 1) := by decide +kernel
theorem dX8_witness_148 : decode cX8_witness 148 = .ok (.getfield 35, 3) := by decide +kernel
theorem dX8_witness_151 : decode cX8_witness 151 = .ok (.aload_n 0, 1) := by decide +kernel
theorem dX8_witness_152 : decode cX8_witness 152 = .ok (.getfield 28, 3) := by decide +kernel
theorem dX8_witness_155 : decode cX8_witness 155 = .ok (.getfield 347, 3) := by decide +kernel
theorem dX8_witness_158 : decode cX8_witness 158 = .ok (.getfield 364, 3) := by decide +kernel
theorem dX8_witness_161 : decode cX8_witness 161 = .ok (.iload 7, 2) := by decide +kernel
theorem dX8_witness_163 : decode cX8_witness 163 = .ok (.iaload, 1) := by decide +kernel
theorem dX8_witness_164 : decode cX8_witness 164 = .ok (.iload 5, 2) := by decide +kernel
theorem dX8_witness_166 : decode cX8_witness 166 = .ok (.iload 8, 2) := by decide +kernel
theorem dX8_witness_168 : decode cX8_witness 168 = .ok (.invokevirtual 371, 3) := by decide +kernel
theorem dX8_witness_171 : decode cX8_witness 171 = .ok (.istore 9, 2) := by decide +kernel
theorem dX8_witness_173 : decode cX8_witness 173 = .ok (.iload 9, 2) := by decide +kernel
theorem dX8_witness_175 : decode cX8_witness 175 = .ok (.ifCond .ge 8, 3) := by decide +kernel
theorem dX8_witness_178 : decode cX8_witness 178 = .ok (.bipush (-2), 2) := by decide +kernel
theorem dX8_witness_180 : decode cX8_witness 180 = .ok (.goto 5, 3) := by decide +kernel
theorem dX8_witness_183 : decode cX8_witness 183 = .ok (.iload 9, 2) := by decide +kernel
theorem dX8_witness_185 : decode cX8_witness 185 = .ok (.ireturn, 1) := by decide +kernel
theorem dX8_blocked_0 : decode cX8_blocked 0 = .ok (.aload_n 0, 1) := by decide +kernel
theorem dX8_blocked_1 : decode cX8_blocked 1 = .ok (.iload_n 1, 1) := by decide +kernel
theorem dX8_blocked_2 : decode cX8_blocked 2 = .ok (.iload_n 2, 1) := by decide +kernel
theorem dX8_blocked_3 : decode cX8_blocked 3 = .ok (.iload_n 3, 1) := by decide +kernel
theorem dX8_blocked_4 : decode cX8_blocked 4 = .ok (.invokevirtual 138, 3) := by decide +kernel
theorem dX8_blocked_7 : decode cX8_blocked 7 = .ok (.ifCond .eq 14, 3) := by decide +kernel
theorem dX8_blocked_10 : decode cX8_blocked 10 = .ok (.iload 4, 2) := by decide +kernel
theorem dX8_blocked_12 : decode cX8_blocked 12 = .ok (.ifCond .lt 9, 3) := by decide +kernel
theorem dX8_blocked_15 : decode cX8_blocked 15 = .ok (.iload 4, 2) := by decide +kernel
theorem dX8_blocked_17 : decode cX8_blocked 17 = .ok (.iconst 2, 1) := by decide +kernel
theorem dX8_blocked_18 : decode cX8_blocked 18 = .ok (.if_icmp .le 5, 3) := by decide +kernel
theorem dX8_blocked_21 : decode cX8_blocked 21 = .ok (.iconst (-1), 1) := by decide +kernel
theorem dX8_blocked_22 : decode cX8_blocked 22 = .ok (.ireturn, 1) := by decide +kernel
theorem dX8_blocked_23 : decode cX8_blocked 23 = .ok (.iload 4, 2) := by decide +kernel
theorem dX8_blocked_25 : decode cX8_blocked 25 = .ok (.ifCond .ne 27, 3) := by decide +kernel
theorem dX8_blocked_28 : decode cX8_blocked 28 = .ok (.aload_n 0, 1) := by decide +kernel
theorem dX8_blocked_29 : decode cX8_blocked 29 = .ok (.getfield 28, 3) := by decide +kernel
theorem dX8_blocked_32 : decode cX8_blocked 32 = .ok (.aload_n 0, 1) := by decide +kernel
theorem dX8_blocked_33 : decode cX8_blocked 33 = .ok (.getfield 35, 3) := by decide +kernel
theorem dX8_blocked_36 : decode cX8_blocked 36 = .ok (.iload_n 1, 1) := by decide +kernel
theorem dX8_blocked_37 : decode cX8_blocked 37 = .ok (.iload_n 2, 1) := by decide +kernel
theorem dX8_blocked_38 : decode cX8_blocked 38 = .ok (.iload_n 3, 1) := by decide +kernel
theorem dX8_blocked_39 : decode cX8_blocked 39 = .ok (.iconst 0, 1) := by decide +kernel
theorem dX8_blocked_40 : decode cX8_blocked 40 = .ok (.invokevirtual 152, 3) := by decide +kernel
theorem dX8_blocked_43 : decode cX8_blocked 43 = .ok (.ifCond .eq 7, 3) := by decide +kernel
theorem dX8_blocked_46 : decode cX8_blocked 46 = .ok (.iconst 0, 1) := by decide +kernel
theorem dX8_blocked_47 : decode cX8_blocked 47 = .ok (.goto 4, 3) := by decide +kernel
theorem dX8_blocked_50 : decode cX8_blocked 50 = .ok (.iconst 1, 1) := by decide +kernel
theorem dX8_blocked_51 : decode cX8_blocked 51 = .ok (.ireturn, 1) := by decide +kernel
theorem dX8_blocked_52 : decode cX8_blocked 52 = .ok (.aload_n 0, 1) := by decide +kernel
theorem dX8_blocked_53 : decode cX8_blocked 53 = .ok (.getfield 28, 3) := by decide +kernel
theorem dX8_blocked_56 : decode cX8_blocked 56 = .ok (.getfield 347, 3) := by decide +kernel
theorem dX8_blocked_59 : decode cX8_blocked 59 = .ok (.aload_n 0, 1) := by decide +kernel
theorem dX8_blocked_60 : decode cX8_blocked 60 = .ok (.getfield 35, 3) := by decide +kernel
theorem dX8_blocked_63 : decode cX8_blocked 63 = .ok (.iload_n 1, 1) := by decide +kernel
theorem dX8_blocked_64 : decode cX8_blocked 64 = .ok (.iload_n 2, 1) := by decide +kernel
theorem dX8_blocked_65 : decode cX8_blocked 65 = .ok (.invokevirtual 351, 3) := by decide +kernel
theorem dX8_blocked_68 : decode cX8_blocked 68 = .ok (.istore 5, 2) := by decide +kernel
theorem dX8_blocked_70 : decode cX8_blocked 70 = .ok (.iconst 0, 1) := by decide +kernel
theorem dX8_blocked_71 : decode cX8_blocked 71 = .ok (.istore 6, 2) := by decide +kernel
theorem dX8_blocked_73 : decode cX8_blocked 73 = .ok (.sipush 16383, 3) := by decide +kernel
theorem dX8_blocked_76 : decode cX8_blocked 76 = .ok (.istore 7, 2) := by decide +kernel
theorem dX8_blocked_78 : decode cX8_blocked 78 = .ok (.lconst 0, 1) := by decide +kernel
theorem dX8_blocked_79 : decode cX8_blocked 79 = .ok (.lstore 8, 2) := by decide +kernel
theorem dX8_blocked_81 : decode cX8_blocked 81 = .ok (.iconst 0, 1) := by decide +kernel
theorem dX8_blocked_82 : decode cX8_blocked 82 = .ok (.istore 10, 2) := by decide +kernel
theorem dX8_blocked_84 : decode cX8_blocked 84 = .ok (.iload 10, 2) := by decide +kernel
theorem dX8_blocked_86 : decode cX8_blocked 86 = .ok (.aload_n 0, 1) := by decide +kernel
theorem dX8_blocked_87 : decode cX8_blocked 87 = .ok (.getfield 28, 3) := by decide +kernel
theorem dX8_blocked_90 : decode cX8_blocked 90 = .ok (.getfield 347, 3) := by decide +kernel
theorem dX8_blocked_93 : decode cX8_blocked 93 = .ok (.getfield 357, 3) := by decide +kernel
theorem dX8_blocked_96 : decode cX8_blocked 96 = .ok (.iload 5, 2) := by decide +kernel
theorem dX8_blocked_98 : decode cX8_blocked 98 = .ok (.iaload, 1) := by decide +kernel
theorem dX8_blocked_99 : decode cX8_blocked 99 = .ok (.if_icmp .ge 91, 3) := by decide +kernel
theorem dX8_blocked_102 : decode cX8_blocked 102 = .ok (.aload_n 0, 1) := by decide +kernel
theorem dX8_blocked_103 : decode cX8_blocked 103 = .ok (.getfield 28, 3) := by decide +kernel
theorem dX8_blocked_106 : decode cX8_blocked 106 = .ok (.getfield 347, 3) := by decide +kernel
theorem dX8_blocked_109 : decode cX8_blocked 109 = .ok (.getfield 364, 3) := by decide +kernel
theorem dX8_blocked_112 : decode cX8_blocked 112 = .ok (.iload 5, 2) := by decide +kernel
theorem dX8_blocked_114 : decode cX8_blocked 114 = .ok (.iconst 4, 1) := by decide +kernel
theorem dX8_blocked_115 : decode cX8_blocked 115 = .ok (.imul, 1) := by decide +kernel
theorem dX8_blocked_116 : decode cX8_blocked 116 = .ok (.iload 10, 2) := by decide +kernel
theorem dX8_blocked_118 : decode cX8_blocked 118 = .ok (.iadd, 1) := by decide +kernel
theorem dX8_blocked_119 : decode cX8_blocked 119 = .ok (.iaload, 1) := by decide +kernel
theorem dX8_blocked_120 : decode cX8_blocked 120 = .ok (.istore 11, 2) := by decide +kernel
theorem dX8_blocked_122 : decode cX8_blocked 122 = .ok (.aload_n 0, 1) := by decide +kernel
theorem dX8_blocked_123 : decode cX8_blocked 123 = .ok (.getfield 35, 3) := by decide +kernel
theorem dX8_blocked_126 : decode cX8_blocked 126 = .ok (.getfield 204, 3) := by decide +kernel
theorem dX8_blocked_129 : decode cX8_blocked 129 = .ok (.iload_n 3, 1) := by decide +kernel
theorem dX8_blocked_130 : decode cX8_blocked 130 = .ok (.aload_n 0, 1) := by decide +kernel
theorem dX8_blocked_131 : decode cX8_blocked 131 = .ok (.getfield 28, 3) := by decide +kernel
theorem dX8_blocked_134 : decode cX8_blocked 134 = .ok (.getfield 347, 3) := by decide +kernel
theorem dX8_blocked_137 : decode cX8_blocked 137 = .ok (.getfield 360, 3) := by decide +kernel
theorem dX8_blocked_140 : decode cX8_blocked 140 = .ok (.iload 5, 2) := by decide +kernel
theorem dX8_blocked_142 : decode cX8_blocked 142 = .ok (.iconst 4, 1) := by decide +kernel
theorem dX8_blocked_143 : decode cX8_blocked 143 = .ok (.imul, 1) := by decide +kernel
theorem dX8_blocked_144 : decode cX8_blocked 144 = .ok (.iload 10, 2) := by decide +kernel
theorem dX8_blocked_146 : decode cX8_blocked 146 = .ok (.iadd, 1) := by decide +kernel
theorem dX8_blocked_147 : decode cX8_blocked 147 = .ok (.iaload, 1) := by decide +kernel
theorem dX8_blocked_148 : decode cX8_blocked 148 = .ok (.invokevirtual 368, 3) := by decide +kernel
theorem dX8_blocked_151 : decode cX8_blocked 151 = .ok (.istore 12, 2) := by decide +kernel
theorem dX8_blocked_153 : decode cX8_blocked 153 = .ok (.iload 12, 2) := by decide +kernel
theorem dX8_blocked_155 : decode cX8_blocked 155 = .ok (.ifCond .le 29, 3) := by decide +kernel
theorem dX8_blocked_158 : decode cX8_blocked 158 = .ok (.iconst 1, 1) := by decide +kernel
theorem dX8_blocked_159 : decode cX8_blocked 159 = .ok (.istore 6, 2) := by decide +kernel
theorem dX8_blocked_161 : decode cX8_blocked 161 = .ok (.iload 7, 2) := by decide +kernel
theorem dX8_blocked_163 : decode cX8_blocked 163 = .ok (.iload 11, 2) := by decide +kernel
theorem dX8_blocked_165 : decode cX8_blocked 165 = .ok (.iand, 1) := by decide +kernel
theorem dX8_blocked_166 : decode cX8_blocked 166 = .ok (.istore 7, 2) := by decide +kernel
theorem dX8_blocked_168 : decode cX8_blocked 168 = .ok (.lload 8, 2) := by decide +kernel
theorem dX8_blocked_170 : decode cX8_blocked 170 = .ok (.aload_n 0, 1) := by decide +kernel
theorem dX8_blocked_171 : decode cX8_blocked 171 = .ok (.getfield 35, 3) := by decide +kernel
theorem dX8_blocked_174 : decode cX8_blocked 174 = .ok (.iload 11, 2) := by decide +kernel
theorem dX8_blocked_176 : decode cX8_blocked 176 = .ok (.iload 12, 2) := by decide +kernel
theorem dX8_blocked_178 : decode cX8_blocked 178 = .ok (.invokevirtual 374, 3) := by decide +kernel
theorem dX8_blocked_181 : decode cX8_blocked 181 = .ok (.lor, 1) := by decide +kernel
theorem dX8_blocked_182 : decode cX8_blocked 182 = .ok (.lstore 8, 2) := by decide +kernel
theorem dX8_blocked_184 : decode cX8_blocked 184 = .ok (.iinc 10 1, 3) := by decide +kernel
theorem dX8_blocked_187 : decode cX8_blocked 187 = .ok (.goto (-103), 3) := by decide +kernel
theorem dX8_blocked_190 : decode cX8_blocked 190 = .ok (.iload 6, 2) := by decide +kernel
theorem dX8_blocked_192 : decode cX8_blocked 192 = .ok (.ifCond .ne 6, 3) := by decide +kernel
theorem dX8_blocked_195 : decode cX8_blocked 195 = .ok (.bipush (-4), 2) := by decide +kernel
theorem dX8_blocked_197 : decode cX8_blocked 197 = .ok (.ireturn, 1) := by decide +kernel
theorem dX8_blocked_198 : decode cX8_blocked 198 = .ok (.iload 4, 2) := by decide +kernel
theorem dX8_blocked_200 : decode cX8_blocked 200 = .ok (.iconst 1, 1) := by decide +kernel
theorem dX8_blocked_201 : decode cX8_blocked 201 = .ok (.if_icmp .ne 11, 3) := by decide +kernel
theorem dX8_blocked_204 : decode cX8_blocked 204 = .ok (.lload 8, 2) := by decide +kernel
theorem dX8_blocked_206 : decode cX8_blocked 206 = .ok (.invokestatic 295, 3) := by decide +kernel
theorem dX8_blocked_209 : decode cX8_blocked 209 = .ok (.goto 5, 3) := by decide +kernel
theorem dX8_blocked_212 : decode cX8_blocked 212 = .ok (.iload 7, 2) := by decide +kernel
theorem dX8_blocked_214 : decode cX8_blocked 214 = .ok (.ireturn, 1) := by decide +kernel
theorem dX8_plan_0 : decode cX8_plan 0 = .ok (.iload_n 1, 1) := by decide +kernel
theorem dX8_plan_1 : decode cX8_plan 1 = .ok (.invokestatic 142, 3) := by decide +kernel
theorem dX8_plan_4 : decode cX8_plan 4 = .ok (.ifCond .ne 5, 3) := by decide +kernel
theorem dX8_plan_7 : decode cX8_plan 7 = .ok (.iconst (-1), 1) := by decide +kernel
theorem dX8_plan_8 : decode cX8_plan 8 = .ok (.ireturn, 1) := by decide +kernel
theorem dX8_plan_9 : decode cX8_plan 9 = .ok (.aload_n 0, 1) := by decide +kernel
theorem dX8_plan_10 : decode cX8_plan 10 = .ok (.getfield 50, 3) := by decide +kernel
theorem dX8_plan_13 : decode cX8_plan 13 = .ok (.aload_n 0, 1) := by decide +kernel
theorem dX8_plan_14 : decode cX8_plan 14 = .ok (.getfield 35, 3) := by decide +kernel
theorem dX8_plan_17 : decode cX8_plan 17 = .ok (.iload_n 1, 1) := by decide +kernel
theorem dX8_plan_18 : decode cX8_plan 18 = .ok (.invokevirtual 378, 3) := by decide +kernel
theorem dX8_plan_21 : decode cX8_plan 21 = .ok (.ifCond .ne 6, 3) := by decide +kernel
theorem dX8_plan_24 : decode cX8_plan 24 = .ok (.bipush (-2), 2) := by decide +kernel
theorem dX8_plan_26 : decode cX8_plan 26 = .ok (.ireturn, 1) := by decide +kernel
theorem dX8_plan_27 : decode cX8_plan 27 = .ok (.aload_n 0, 1) := by decide +kernel
theorem dX8_plan_28 : decode cX8_plan 28 = .ok (.getfield 50, 3) := by decide +kernel
theorem dX8_plan_31 : decode cX8_plan 31 = .ok (.invokevirtual 382, 3) := by decide +kernel
theorem dX8_plan_34 : decode cX8_plan 34 = .ok (.aload_n 0, 1) := by decide +kernel
theorem dX8_plan_35 : decode cX8_plan 35 = .ok (.getfield 35, 3) := by decide +kernel
theorem dX8_plan_38 : decode cX8_plan 38 = .ok (.aload_n 0, 1) := by decide +kernel
theorem dX8_plan_39 : decode cX8_plan 39 = .ok (.getfield 42, 3) := by decide +kernel
theorem dX8_plan_42 : decode cX8_plan 42 = .ok (.invokevirtual 241, 3) := by decide +kernel
theorem dX8_plan_45 : decode cX8_plan 45 = .ok (.aload_n 0, 1) := by decide +kernel
theorem dX8_plan_46 : decode cX8_plan 46 = .ok (.getfield 50, 3) := by decide +kernel
theorem dX8_plan_49 : decode cX8_plan 49 = .ok (.getfield 385, 3) := by decide +kernel
theorem dX8_plan_52 : decode cX8_plan 52 = .ok (.ireturn, 1) := by decide +kernel
theorem dX8_repack_0 : decode cX8_repack 0 = .ok (.iload_n 1, 1) := by decide +kernel
theorem dX8_repack_1 : decode cX8_repack 1 = .ok (.invokestatic 142, 3) := by decide +kernel
theorem dX8_repack_4 : decode cX8_repack 4 = .ok (.ifCond .eq 12, 3) := by decide +kernel
theorem dX8_repack_7 : decode cX8_repack 7 = .ok (.iload_n 2, 1) := by decide +kernel
theorem dX8_repack_8 : decode cX8_repack 8 = .ok (.ifCond .lt 8, 3) := by decide +kernel
theorem dX8_repack_11 : decode cX8_repack 11 = .ok (.iload_n 2, 1) := by decide +kernel
theorem dX8_repack_12 : decode cX8_repack 12 = .ok (.iconst 5, 1) := by decide +kernel
theorem dX8_repack_13 : decode cX8_repack 13 = .ok (.if_icmp .le 5, 3) := by decide +kernel
theorem dX8_repack_16 : decode cX8_repack 16 = .ok (.iconst (-1), 1) := by decide +kernel
theorem dX8_repack_17 : decode cX8_repack 17 = .ok (.ireturn, 1) := by decide +kernel
theorem dX8_repack_18 : decode cX8_repack 18 = .ok (.aload_n 0, 1) := by decide +kernel
theorem dX8_repack_19 : decode cX8_repack 19 = .ok (.getfield 50, 3) := by decide +kernel
theorem dX8_repack_22 : decode cX8_repack 22 = .ok (.aload_n 0, 1) := by decide +kernel
theorem dX8_repack_23 : decode cX8_repack 23 = .ok (.getfield 35, 3) := by decide +kernel
theorem dX8_repack_26 : decode cX8_repack 26 = .ok (.iload_n 1, 1) := by decide +kernel
theorem dX8_repack_27 : decode cX8_repack 27 = .ok (.invokevirtual 378, 3) := by decide +kernel
theorem dX8_repack_30 : decode cX8_repack 30 = .ok (.ifCond .ne 6, 3) := by decide +kernel
theorem dX8_repack_33 : decode cX8_repack 33 = .ok (.bipush (-2), 2) := by decide +kernel
theorem dX8_repack_35 : decode cX8_repack 35 = .ok (.ireturn, 1) := by decide +kernel
theorem dX8_repack_36 : decode cX8_repack 36 = .ok (.iload_n 2, 1) := by decide +kernel
theorem dX8_repack_37 : decode cX8_repack 37 = .ok (.lookupswitch 65 #[(0, 35), (1, 46), (5, 57)], 35) := by decide +kernel
theorem dX8_repack_72 : decode cX8_repack 72 = .ok (.aload_n 0, 1) := by decide +kernel
theorem dX8_repack_73 : decode cX8_repack 73 = .ok (.getfield 50, 3) := by decide +kernel
theorem dX8_repack_76 : decode cX8_repack 76 = .ok (.getfield 388, 3) := by decide +kernel
theorem dX8_repack_79 : decode cX8_repack 79 = .ok (.invokevirtual 245, 3) := by decide +kernel
theorem dX8_repack_82 : decode cX8_repack 82 = .ok (.ireturn, 1) := by decide +kernel
theorem dX8_repack_83 : decode cX8_repack 83 = .ok (.aload_n 0, 1) := by decide +kernel
theorem dX8_repack_84 : decode cX8_repack 84 = .ok (.getfield 50, 3) := by decide +kernel
theorem dX8_repack_87 : decode cX8_repack 87 = .ok (.getfield 391, 3) := by decide +kernel
theorem dX8_repack_90 : decode cX8_repack 90 = .ok (.invokestatic 295, 3) := by decide +kernel
theorem dX8_repack_93 : decode cX8_repack 93 = .ok (.ireturn, 1) := by decide +kernel
theorem dX8_repack_94 : decode cX8_repack 94 = .ok (.aload_n 0, 1) := by decide +kernel
theorem dX8_repack_95 : decode cX8_repack 95 = .ok (.getfield 50, 3) := by decide +kernel
theorem dX8_repack_98 : decode cX8_repack 98 = .ok (.invokevirtual 395, 3) := by decide +kernel
theorem dX8_repack_101 : decode cX8_repack 101 = .ok (.ireturn, 1) := by decide +kernel
theorem dX8_repack_102 : decode cX8_repack 102 = .ok (.aload_n 0, 1) := by decide +kernel
theorem dX8_repack_103 : decode cX8_repack 103 = .ok (.getfield 50, 3) := by decide +kernel
theorem dX8_repack_106 : decode cX8_repack 106 = .ok (.invokevirtual 382, 3) := by decide +kernel
theorem dX8_repack_109 : decode cX8_repack 109 = .ok (.iload_n 2, 1) := by decide +kernel
theorem dX8_repack_110 : decode cX8_repack 110 = .ok (.iconst 2, 1) := by decide +kernel
theorem dX8_repack_111 : decode cX8_repack 111 = .ok (.if_icmp .ne 11, 3) := by decide +kernel
theorem dX8_repack_114 : decode cX8_repack 114 = .ok (.aload_n 0, 1) := by decide +kernel
theorem dX8_repack_115 : decode cX8_repack 115 = .ok (.getfield 50, 3) := by decide +kernel
theorem dX8_repack_118 : decode cX8_repack 118 = .ok (.getfield 385, 3) := by decide +kernel
theorem dX8_repack_121 : decode cX8_repack 121 = .ok (.ireturn, 1) := by decide +kernel
theorem dX8_repack_122 : decode cX8_repack 122 = .ok (.iload_n 2, 1) := by decide +kernel
theorem dX8_repack_123 : decode cX8_repack 123 = .ok (.iconst 3, 1) := by decide +kernel
theorem dX8_repack_124 : decode cX8_repack 124 = .ok (.if_icmp .ne 16, 3) := by decide +kernel
theorem dX8_repack_127 : decode cX8_repack 127 = .ok (.aload_n 0, 1) := by decide +kernel
theorem dX8_repack_128 : decode cX8_repack 128 = .ok (.getfield 50, 3) := by decide +kernel
theorem dX8_repack_131 : decode cX8_repack 131 = .ok (.getfield 391, 3) := by decide +kernel
theorem dX8_repack_134 : decode cX8_repack 134 = .ok (.invokestatic 295, 3) := by decide +kernel
theorem dX8_repack_137 : decode cX8_repack 137 = .ok (.goto 10, 3) := by decide +kernel
theorem dX8_repack_140 : decode cX8_repack 140 = .ok (.aload_n 0, 1) := by decide +kernel
theorem dX8_repack_141 : decode cX8_repack 141 = .ok (.getfield 42, 3) := by decide +kernel
theorem dX8_repack_144 : decode cX8_repack 144 = .ok (.invokevirtual 245, 3) := by decide +kernel
theorem dX8_repack_147 : decode cX8_repack 147 = .ok (.ireturn, 1) := by decide +kernel
theorem dX8_planned_0 : decode cX8_planned 0 = .ok (.iload_n 1, 1) := by decide +kernel
theorem dX8_planned_1 : decode cX8_planned 1 = .ok (.invokestatic 142, 3) := by decide +kernel
theorem dX8_planned_4 : decode cX8_planned 4 = .ok (.ifCond .eq 16, 3) := by decide +kernel
theorem dX8_planned_7 : decode cX8_planned 7 = .ok (.iload_n 2, 1) := by decide +kernel
theorem dX8_planned_8 : decode cX8_planned 8 = .ok (.ifCond .lt 12, 3) := by decide +kernel
theorem dX8_planned_11 : decode cX8_planned 11 = .ok (.iload_n 3, 1) := by decide +kernel
theorem dX8_planned_12 : decode cX8_planned 12 = .ok (.ifCond .lt 8, 3) := by decide +kernel
theorem dX8_planned_15 : decode cX8_planned 15 = .ok (.iload_n 3, 1) := by decide +kernel
theorem dX8_planned_16 : decode cX8_planned 16 = .ok (.iconst 2, 1) := by decide +kernel
theorem dX8_planned_17 : decode cX8_planned 17 = .ok (.if_icmp .le 5, 3) := by decide +kernel
theorem dX8_planned_20 : decode cX8_planned 20 = .ok (.iconst (-1), 1) := by decide +kernel
theorem dX8_planned_21 : decode cX8_planned 21 = .ok (.ireturn, 1) := by decide +kernel
theorem dX8_planned_22 : decode cX8_planned 22 = .ok (.aload_n 0, 1) := by decide +kernel
theorem dX8_planned_23 : decode cX8_planned 23 = .ok (.getfield 50, 3) := by decide +kernel
theorem dX8_planned_26 : decode cX8_planned 26 = .ok (.aload_n 0, 1) := by decide +kernel
theorem dX8_planned_27 : decode cX8_planned 27 = .ok (.getfield 35, 3) := by decide +kernel
theorem dX8_planned_30 : decode cX8_planned 30 = .ok (.iload_n 1, 1) := by decide +kernel
theorem dX8_planned_31 : decode cX8_planned 31 = .ok (.invokevirtual 378, 3) := by decide +kernel
theorem dX8_planned_34 : decode cX8_planned 34 = .ok (.ifCond .ne 6, 3) := by decide +kernel
theorem dX8_planned_37 : decode cX8_planned 37 = .ok (.bipush (-2), 2) := by decide +kernel
theorem dX8_planned_39 : decode cX8_planned 39 = .ok (.ireturn, 1) := by decide +kernel
theorem dX8_planned_40 : decode cX8_planned 40 = .ok (.aload_n 0, 1) := by decide +kernel
theorem dX8_planned_41 : decode cX8_planned 41 = .ok (.getfield 50, 3) := by decide +kernel
theorem dX8_planned_44 : decode cX8_planned 44 = .ok (.invokevirtual 382, 3) := by decide +kernel
theorem dX8_planned_47 : decode cX8_planned 47 = .ok (.iload_n 2, 1) := by decide +kernel
theorem dX8_planned_48 : decode cX8_planned 48 = .ok (.aload_n 0, 1) := by decide +kernel
theorem dX8_planned_49 : decode cX8_planned 49 = .ok (.getfield 50, 3) := by decide +kernel
theorem dX8_planned_52 : decode cX8_planned 52 = .ok (.getfield 385, 3) := by decide +kernel
theorem dX8_planned_55 : decode cX8_planned 55 = .ok (.if_icmp .lt 6, 3) := by decide +kernel
theorem dX8_planned_58 : decode cX8_planned 58 = .ok (.bipush (-4), 2) := by decide +kernel
theorem dX8_planned_60 : decode cX8_planned 60 = .ok (.ireturn, 1) := by decide +kernel
theorem dX8_planned_61 : decode cX8_planned 61 = .ok (.aload_n 0, 1) := by decide +kernel
theorem dX8_planned_62 : decode cX8_planned 62 = .ok (.getfield 50, 3) := by decide +kernel
theorem dX8_planned_65 : decode cX8_planned 65 = .ok (.getfield 398, 3) := by decide +kernel
theorem dX8_planned_68 : decode cX8_planned 68 = .ok (.iload_n 2, 1) := by decide +kernel
theorem dX8_planned_69 : decode cX8_planned 69 = .ok (.iaload, 1) := by decide +kernel
theorem dX8_planned_70 : decode cX8_planned 70 = .ok (.istore 4, 2) := by decide +kernel
theorem dX8_planned_72 : decode cX8_planned 72 = .ok (.iload_n 3, 1) := by decide +kernel
theorem dX8_planned_73 : decode cX8_planned 73 = .ok (.ifCond .ne 6, 3) := by decide +kernel
theorem dX8_planned_76 : decode cX8_planned 76 = .ok (.iload 4, 2) := by decide +kernel
theorem dX8_planned_78 : decode cX8_planned 78 = .ok (.ireturn, 1) := by decide +kernel
theorem dX8_planned_79 : decode cX8_planned 79 = .ok (.iload_n 3, 1) := by decide +kernel
theorem dX8_planned_80 : decode cX8_planned 80 = .ok (.iconst 1, 1) := by decide +kernel
theorem dX8_planned_81 : decode cX8_planned 81 = .ok (.if_icmp .ne 19, 3) := by decide +kernel
theorem dX8_planned_84 : decode cX8_planned 84 = .ok (.aload_n 0, 1) := by decide +kernel
theorem dX8_planned_85 : decode cX8_planned 85 = .ok (.getfield 50, 3) := by decide +kernel
theorem dX8_planned_88 : decode cX8_planned 88 = .ok (.getfield 388, 3) := by decide +kernel
theorem dX8_planned_91 : decode cX8_planned 91 = .ok (.getfield 191, 3) := by decide +kernel
theorem dX8_planned_94 : decode cX8_planned 94 = .ok (.iload 4, 2) := by decide +kernel
theorem dX8_planned_96 : decode cX8_planned 96 = .ok (.iaload, 1) := by decide +kernel
theorem dX8_planned_97 : decode cX8_planned 97 = .ok (.goto 16, 3) := by decide +kernel
theorem dX8_planned_100 : decode cX8_planned 100 = .ok (.aload_n 0, 1) := by decide +kernel
theorem dX8_planned_101 : decode cX8_planned 101 = .ok (.getfield 50, 3) := by decide +kernel
theorem dX8_planned_104 : decode cX8_planned 104 = .ok (.getfield 388, 3) := by decide +kernel
theorem dX8_planned_107 : decode cX8_planned 107 = .ok (.getfield 189, 3) := by decide +kernel
theorem dX8_planned_110 : decode cX8_planned 110 = .ok (.iload 4, 2) := by decide +kernel
theorem dX8_planned_112 : decode cX8_planned 112 = .ok (.iaload, 1) := by decide +kernel
theorem dX8_planned_113 : decode cX8_planned 113 = .ok (.ireturn, 1) := by decide +kernel
theorem dX8_waits_0 : decode cX8_waits 0 = .ok (.iload_n 1, 1) := by decide +kernel
theorem dX8_waits_1 : decode cX8_waits 1 = .ok (.invokestatic 142, 3) := by decide +kernel
theorem dX8_waits_4 : decode cX8_waits 4 = .ok (.ifCond .eq 14, 3) := by decide +kernel
theorem dX8_waits_7 : decode cX8_waits 7 = .ok (.aload_n 0, 1) := by decide +kernel
theorem dX8_waits_8 : decode cX8_waits 8 = .ok (.getfield 35, 3) := by decide +kernel
theorem dX8_waits_11 : decode cX8_waits 11 = .ok (.iload_n 2, 1) := by decide +kernel
theorem dX8_waits_12 : decode cX8_waits 12 = .ok (.invokevirtual 169, 3) := by decide +kernel
theorem dX8_waits_15 : decode cX8_waits 15 = .ok (.ifCond .ne 5, 3) := by decide +kernel
theorem dX8_waits_18 : decode cX8_waits 18 = .ok (.iconst (-1), 1) := by decide +kernel
theorem dX8_waits_19 : decode cX8_waits 19 = .ok (.ireturn, 1) := by decide +kernel
theorem dX8_waits_20 : decode cX8_waits 20 = .ok (.aload_n 0, 1) := by decide +kernel
theorem dX8_waits_21 : decode cX8_waits 21 = .ok (.getfield 50, 3) := by decide +kernel
theorem dX8_waits_24 : decode cX8_waits 24 = .ok (.aload_n 0, 1) := by decide +kernel
theorem dX8_waits_25 : decode cX8_waits 25 = .ok (.getfield 35, 3) := by decide +kernel
theorem dX8_waits_28 : decode cX8_waits 28 = .ok (.iload_n 1, 1) := by decide +kernel
theorem dX8_waits_29 : decode cX8_waits 29 = .ok (.invokevirtual 378, 3) := by decide +kernel
theorem dX8_waits_32 : decode cX8_waits 32 = .ok (.ifCond .ne 6, 3) := by decide +kernel
theorem dX8_waits_35 : decode cX8_waits 35 = .ok (.bipush (-2), 2) := by decide +kernel
theorem dX8_waits_37 : decode cX8_waits 37 = .ok (.ireturn, 1) := by decide +kernel
theorem dX8_waits_38 : decode cX8_waits 38 = .ok (.aload_n 0, 1) := by decide +kernel
theorem dX8_waits_39 : decode cX8_waits 39 = .ok (.getfield 50, 3) := by decide +kernel
theorem dX8_waits_42 : decode cX8_waits 42 = .ok (.getfield 391, 3) := by decide +kernel
theorem dX8_waits_45 : decode cX8_waits 45 = .ok (.iload_n 2, 1) := by decide +kernel
theorem dX8_waits_46 : decode cX8_waits 46 = .ok (.lushr, 1) := by decide +kernel
theorem dX8_waits_47 : decode cX8_waits 47 = .ok (.lconst 1, 1) := by decide +kernel
theorem dX8_waits_48 : decode cX8_waits 48 = .ok (.land, 1) := by decide +kernel
theorem dX8_waits_49 : decode cX8_waits 49 = .ok (.lconst 0, 1) := by decide +kernel
theorem dX8_waits_50 : decode cX8_waits 50 = .ok (.lcmp, 1) := by decide +kernel
theorem dX8_waits_51 : decode cX8_waits 51 = .ok (.ifCond .ne 6, 3) := by decide +kernel
theorem dX8_waits_54 : decode cX8_waits 54 = .ok (.bipush (-4), 2) := by decide +kernel
theorem dX8_waits_56 : decode cX8_waits 56 = .ok (.ireturn, 1) := by decide +kernel
theorem dX8_waits_57 : decode cX8_waits 57 = .ok (.aload_n 0, 1) := by decide +kernel
theorem dX8_waits_58 : decode cX8_waits 58 = .ok (.getfield 50, 3) := by decide +kernel
theorem dX8_waits_61 : decode cX8_waits 61 = .ok (.getfield 399, 3) := by decide +kernel
theorem dX8_waits_64 : decode cX8_waits 64 = .ok (.iload_n 2, 1) := by decide +kernel
theorem dX8_waits_65 : decode cX8_waits 65 = .ok (.laload, 1) := by decide +kernel
theorem dX8_waits_66 : decode cX8_waits 66 = .ok (.invokestatic 295, 3) := by decide +kernel
theorem dX8_waits_69 : decode cX8_waits 69 = .ok (.ireturn, 1) := by decide +kernel
theorem dX8_unravel_0 : decode cX8_unravel 0 = .ok (.iload_n 1, 1) := by decide +kernel
theorem dX8_unravel_1 : decode cX8_unravel 1 = .ok (.invokestatic 142, 3) := by decide +kernel
theorem dX8_unravel_4 : decode cX8_unravel 4 = .ok (.ifCond .eq 12, 3) := by decide +kernel
theorem dX8_unravel_7 : decode cX8_unravel 7 = .ok (.iload_n 2, 1) := by decide +kernel
theorem dX8_unravel_8 : decode cX8_unravel 8 = .ok (.ifCond .lt 8, 3) := by decide +kernel
theorem dX8_unravel_11 : decode cX8_unravel 11 = .ok (.iload_n 2, 1) := by decide +kernel
theorem dX8_unravel_12 : decode cX8_unravel 12 = .ok (.iconst 3, 1) := by decide +kernel
theorem dX8_unravel_13 : decode cX8_unravel 13 = .ok (.if_icmp .le 5, 3) := by decide +kernel
theorem dX8_unravel_16 : decode cX8_unravel 16 = .ok (.iconst (-1), 1) := by decide +kernel
theorem dX8_unravel_17 : decode cX8_unravel 17 = .ok (.ireturn, 1) := by decide +kernel
theorem dX8_unravel_18 : decode cX8_unravel 18 = .ok (.aload_n 0, 1) := by decide +kernel
theorem dX8_unravel_19 : decode cX8_unravel 19 = .ok (.getfield 50, 3) := by decide +kernel
theorem dX8_unravel_22 : decode cX8_unravel 22 = .ok (.aload_n 0, 1) := by decide +kernel
theorem dX8_unravel_23 : decode cX8_unravel 23 = .ok (.getfield 35, 3) := by decide +kernel
theorem dX8_unravel_26 : decode cX8_unravel 26 = .ok (.iload_n 1, 1) := by decide +kernel
theorem dX8_unravel_27 : decode cX8_unravel 27 = .ok (.invokevirtual 378, 3) := by decide +kernel
theorem dX8_unravel_30 : decode cX8_unravel 30 = .ok (.ifCond .ne 6, 3) := by decide +kernel
theorem dX8_unravel_33 : decode cX8_unravel 33 = .ok (.bipush (-2), 2) := by decide +kernel
theorem dX8_unravel_35 : decode cX8_unravel 35 = .ok (.ireturn, 1) := by decide +kernel
theorem dX8_unravel_36 : decode cX8_unravel 36 = .ok (.aload_n 0, 1) := by decide +kernel
theorem dX8_unravel_37 : decode cX8_unravel 37 = .ok (.getfield 50, 3) := by decide +kernel
theorem dX8_unravel_40 : decode cX8_unravel 40 = .ok (.invokevirtual 402, 3) := by decide +kernel
theorem dX8_unravel_43 : decode cX8_unravel 43 = .ok (.iload_n 2, 1) := by decide +kernel
theorem dX8_unravel_44 : decode cX8_unravel 44 = .ok (.tableswitch 58 0 2 #[28, 39, 47], 28) := by decide +kernel
theorem dX8_unravel_72 : decode cX8_unravel 72 = .ok (.aload_n 0, 1) := by decide +kernel
theorem dX8_unravel_73 : decode cX8_unravel 73 = .ok (.getfield 50, 3) := by decide +kernel
theorem dX8_unravel_76 : decode cX8_unravel 76 = .ok (.getfield 405, 3) := by decide +kernel
theorem dX8_unravel_79 : decode cX8_unravel 79 = .ok (.invokestatic 295, 3) := by decide +kernel
theorem dX8_unravel_82 : decode cX8_unravel 82 = .ok (.ireturn, 1) := by decide +kernel
theorem dX8_unravel_83 : decode cX8_unravel 83 = .ok (.aload_n 0, 1) := by decide +kernel
theorem dX8_unravel_84 : decode cX8_unravel 84 = .ok (.getfield 50, 3) := by decide +kernel
theorem dX8_unravel_87 : decode cX8_unravel 87 = .ok (.getfield 385, 3) := by decide +kernel
theorem dX8_unravel_90 : decode cX8_unravel 90 = .ok (.ireturn, 1) := by decide +kernel
theorem dX8_unravel_91 : decode cX8_unravel 91 = .ok (.aload_n 0, 1) := by decide +kernel
theorem dX8_unravel_92 : decode cX8_unravel 92 = .ok (.getfield 50, 3) := by decide +kernel
theorem dX8_unravel_95 : decode cX8_unravel 95 = .ok (.getfield 391, 3) := by decide +kernel
theorem dX8_unravel_98 : decode cX8_unravel 98 = .ok (.invokestatic 295, 3) := by decide +kernel
theorem dX8_unravel_101 : decode cX8_unravel 101 = .ok (.ireturn, 1) := by decide +kernel
theorem dX8_unravel_102 : decode cX8_unravel 102 = .ok (.aload_n 0, 1) := by decide +kernel
theorem dX8_unravel_103 : decode cX8_unravel 103 = .ok (.getfield 42, 3) := by decide +kernel
theorem dX8_unravel_106 : decode cX8_unravel 106 = .ok (.invokevirtual 245, 3) := by decide +kernel
theorem dX8_unravel_109 : decode cX8_unravel 109 = .ok (.ireturn, 1) := by decide +kernel
theorem dX8_trial_0 : decode cX8_trial 0 = .ok (.iload_n 1, 1) := by decide +kernel
theorem dX8_trial_1 : decode cX8_trial 1 = .ok (.iload_n 2, 1) := by decide +kernel
theorem dX8_trial_2 : decode cX8_trial 2 = .ok (.invokestatic 408, 3) := by decide +kernel
theorem dX8_trial_5 : decode cX8_trial 5 = .ok (.ifCond .eq 21, 3) := by decide +kernel
theorem dX8_trial_8 : decode cX8_trial 8 = .ok (.iload_n 3, 1) := by decide +kernel
theorem dX8_trial_9 : decode cX8_trial 9 = .ok (.invokestatic 142, 3) := by decide +kernel
theorem dX8_trial_12 : decode cX8_trial 12 = .ok (.ifCond .eq 14, 3) := by decide +kernel
theorem dX8_trial_15 : decode cX8_trial 15 = .ok (.iload 4, 2) := by decide +kernel
theorem dX8_trial_17 : decode cX8_trial 17 = .ok (.ifCond .lt 9, 3) := by decide +kernel
theorem dX8_trial_20 : decode cX8_trial 20 = .ok (.iload 4, 2) := by decide +kernel
theorem dX8_trial_22 : decode cX8_trial 22 = .ok (.iconst 3, 1) := by decide +kernel
theorem dX8_trial_23 : decode cX8_trial 23 = .ok (.if_icmp .le 6, 3) := by decide +kernel
theorem dX8_trial_26 : decode cX8_trial 26 = .ok (.bipush (-2), 2) := by decide +kernel
theorem dX8_trial_28 : decode cX8_trial 28 = .ok (.ireturn, 1) := by decide +kernel
theorem dX8_trial_29 : decode cX8_trial 29 = .ok (.aload_n 0, 1) := by decide +kernel
theorem dX8_trial_30 : decode cX8_trial 30 = .ok (.getfield 57, 3) := by decide +kernel
theorem dX8_trial_33 : decode cX8_trial 33 = .ok (.aload_n 0, 1) := by decide +kernel
theorem dX8_trial_34 : decode cX8_trial 34 = .ok (.getfield 35, 3) := by decide +kernel
theorem dX8_trial_37 : decode cX8_trial 37 = .ok (.iload_n 1, 1) := by decide +kernel
theorem dX8_trial_38 : decode cX8_trial 38 = .ok (.iload_n 2, 1) := by decide +kernel
theorem dX8_trial_39 : decode cX8_trial 39 = .ok (.iload_n 3, 1) := by decide +kernel
theorem dX8_trial_40 : decode cX8_trial 40 = .ok (.invokevirtual 411, 3) := by decide +kernel
theorem dX8_trial_43 : decode cX8_trial 43 = .ok (.iload 4, 2) := by decide +kernel
theorem dX8_trial_45 : decode cX8_trial 45 = .ok (.tableswitch 51 0 2 #[27, 35, 43], 27) := by decide +kernel
theorem dX8_trial_72 : decode cX8_trial 72 = .ok (.aload_n 0, 1) := by decide +kernel
theorem dX8_trial_73 : decode cX8_trial 73 = .ok (.getfield 57, 3) := by decide +kernel
theorem dX8_trial_76 : decode cX8_trial 76 = .ok (.getfield 415, 3) := by decide +kernel
theorem dX8_trial_79 : decode cX8_trial 79 = .ok (.ireturn, 1) := by decide +kernel
theorem dX8_trial_80 : decode cX8_trial 80 = .ok (.aload_n 0, 1) := by decide +kernel
theorem dX8_trial_81 : decode cX8_trial 81 = .ok (.getfield 57, 3) := by decide +kernel
theorem dX8_trial_84 : decode cX8_trial 84 = .ok (.getfield 418, 3) := by decide +kernel
theorem dX8_trial_87 : decode cX8_trial 87 = .ok (.ireturn, 1) := by decide +kernel
theorem dX8_trial_88 : decode cX8_trial 88 = .ok (.aload_n 0, 1) := by decide +kernel
theorem dX8_trial_89 : decode cX8_trial 89 = .ok (.getfield 57, 3) := by decide +kernel
theorem dX8_trial_92 : decode cX8_trial 92 = .ok (.getfield 421, 3) := by decide +kernel
theorem dX8_trial_95 : decode cX8_trial 95 = .ok (.ireturn, 1) := by decide +kernel
theorem dX8_trial_96 : decode cX8_trial 96 = .ok (.aload_n 0, 1) := by decide +kernel
theorem dX8_trial_97 : decode cX8_trial 97 = .ok (.getfield 57, 3) := by decide +kernel
theorem dX8_trial_100 : decode cX8_trial 100 = .ok (.getfield 424, 3) := by decide +kernel
theorem dX8_trial_103 : decode cX8_trial 103 = .ok (.ireturn, 1) := by decide +kernel
theorem dX8_bestRule_0 : decode cX8_bestRule 0 = .ok (.iload_n 1, 1) := by decide +kernel
theorem dX8_bestRule_1 : decode cX8_bestRule 1 = .ok (.iload_n 2, 1) := by decide +kernel
theorem dX8_bestRule_2 : decode cX8_bestRule 2 = .ok (.invokestatic 408, 3) := by decide +kernel
theorem dX8_bestRule_5 : decode cX8_bestRule 5 = .ok (.ifCond .ne 6, 3) := by decide +kernel
theorem dX8_bestRule_8 : decode cX8_bestRule 8 = .ok (.bipush (-2), 2) := by decide +kernel
theorem dX8_bestRule_10 : decode cX8_bestRule 10 = .ok (.ireturn, 1) := by decide +kernel
theorem dX8_bestRule_11 : decode cX8_bestRule 11 = .ok (.iconst 0, 1) := by decide +kernel
theorem dX8_bestRule_12 : decode cX8_bestRule 12 = .ok (.istore_n 3, 1) := by decide +kernel
theorem dX8_bestRule_13 : decode cX8_bestRule 13 = .ok (.iload_n 1, 1) := by decide +kernel
theorem dX8_bestRule_14 : decode cX8_bestRule 14 = .ok (.iconst 1, 1) := by decide +kernel
theorem dX8_bestRule_15 : decode cX8_bestRule 15 = .ok (.iadd, 1) := by decide +kernel
theorem dX8_bestRule_16 : decode cX8_bestRule 16 = .ok (.istore 4, 2) := by decide +kernel
theorem dX8_bestRule_18 : decode cX8_bestRule 18 = .ok (.iconst 0, 1) := by decide +kernel
theorem dX8_bestRule_19 : decode cX8_bestRule 19 = .ok (.istore 5, 2) := by decide +kernel
theorem dX8_bestRule_21 : decode cX8_bestRule 21 = .ok (.iload 5, 2) := by decide +kernel
theorem dX8_bestRule_23 : decode cX8_bestRule 23 = .ok (.iconst 3, 1) := by decide +kernel
theorem dX8_bestRule_24 : decode cX8_bestRule 24 = .ok (.if_icmp .gt 48, 3) := by decide +kernel
theorem dX8_bestRule_27 : decode cX8_bestRule 27 = .ok (.aload_n 0, 1) := by decide +kernel
theorem dX8_bestRule_28 : decode cX8_bestRule 28 = .ok (.getfield 57, 3) := by decide +kernel
theorem dX8_bestRule_31 : decode cX8_bestRule 31 = .ok (.aload_n 0, 1) := by decide +kernel
theorem dX8_bestRule_32 : decode cX8_bestRule 32 = .ok (.getfield 35, 3) := by decide +kernel
theorem dX8_bestRule_35 : decode cX8_bestRule 35 = .ok (.iload_n 1, 1) := by decide +kernel
theorem dX8_bestRule_36 : decode cX8_bestRule 36 = .ok (.iload_n 2, 1) := by decide +kernel
theorem dX8_bestRule_37 : decode cX8_bestRule 37 = .ok (.iload 5, 2) := by decide +kernel
theorem dX8_bestRule_39 : decode cX8_bestRule 39 = .ok (.invokevirtual 411, 3) := by decide +kernel
theorem dX8_bestRule_42 : decode cX8_bestRule 42 = .ok (.aload_n 0, 1) := by decide +kernel
theorem dX8_bestRule_43 : decode cX8_bestRule 43 = .ok (.getfield 57, 3) := by decide +kernel
theorem dX8_bestRule_46 : decode cX8_bestRule 46 = .ok (.getfield 415, 3) := by decide +kernel
theorem dX8_bestRule_49 : decode cX8_bestRule 49 = .ok (.iload 4, 2) := by decide +kernel
theorem dX8_bestRule_51 : decode cX8_bestRule 51 = .ok (.if_icmp .ge 15, 3) := by decide +kernel
theorem dX8_bestRule_54 : decode cX8_bestRule 54 = .ok (.aload_n 0, 1) := by decide +kernel
theorem dX8_bestRule_55 : decode cX8_bestRule 55 = .ok (.getfield 57, 3) := by decide +kernel
theorem dX8_bestRule_58 : decode cX8_bestRule 58 = .ok (.getfield 415, 3) := by decide +kernel
theorem dX8_bestRule_61 : decode cX8_bestRule 61 = .ok (.istore 4, 2) := by decide +kernel
theorem dX8_bestRule_63 : decode cX8_bestRule 63 = .ok (.iload 5, 2) := by decide +kernel
theorem dX8_bestRule_65 : decode cX8_bestRule 65 = .ok (.istore_n 3, 1) := by decide +kernel
theorem dX8_bestRule_66 : decode cX8_bestRule 66 = .ok (.iinc 5 1, 3) := by decide +kernel
theorem dX8_bestRule_69 : decode cX8_bestRule 69 = .ok (.goto (-48), 3) := by decide +kernel
theorem dX8_bestRule_72 : decode cX8_bestRule 72 = .ok (.iload_n 3, 1) := by decide +kernel
theorem dX8_bestRule_73 : decode cX8_bestRule 73 = .ok (.ireturn, 1) := by decide +kernel
theorem dX8_isTrial_0 : decode cX8_isTrial 0 = .ok (.iload_n 0, 1) := by decide +kernel
theorem dX8_isTrial_1 : decode cX8_isTrial 1 = .ok (.iconst 1, 1) := by decide +kernel
theorem dX8_isTrial_2 : decode cX8_isTrial 2 = .ok (.if_icmp .lt 25, 3) := by decide +kernel
theorem dX8_isTrial_5 : decode cX8_isTrial 5 = .ok (.iload_n 0, 1) := by decide +kernel
theorem dX8_isTrial_6 : decode cX8_isTrial 6 = .ok (.sipush 200, 3) := by decide +kernel
theorem dX8_isTrial_9 : decode cX8_isTrial 9 = .ok (.if_icmp .gt 18, 3) := by decide +kernel
theorem dX8_isTrial_12 : decode cX8_isTrial 12 = .ok (.iload_n 1, 1) := by decide +kernel
theorem dX8_isTrial_13 : decode cX8_isTrial 13 = .ok (.iconst 1, 1) := by decide +kernel
theorem dX8_isTrial_14 : decode cX8_isTrial 14 = .ok (.if_icmp .lt 13, 3) := by decide +kernel
theorem dX8_isTrial_17 : decode cX8_isTrial 17 = .ok (.iload_n 1, 1) := by decide +kernel
theorem dX8_isTrial_18 : decode cX8_isTrial 18 = .ok (.bipush 64, 2) := by decide +kernel
theorem dX8_isTrial_20 : decode cX8_isTrial 20 = .ok (.if_icmp .gt 7, 3) := by decide +kernel
theorem dX8_isTrial_23 : decode cX8_isTrial 23 = .ok (.iconst 1, 1) := by decide +kernel
theorem dX8_isTrial_24 : decode cX8_isTrial 24 = .ok (.goto 4, 3) := by decide +kernel
theorem dX8_isTrial_27 : decode cX8_isTrial 27 = .ok (.iconst 0, 1) := by decide +kernel
theorem dX8_isTrial_28 : decode cX8_isTrial 28 = .ok (.ireturn, 1) := by decide +kernel
theorem dX8_parts_0 : decode cX8_parts 0 = .ok (.aload_n 0, 1) := by decide +kernel
theorem dX8_parts_1 : decode cX8_parts 1 = .ok (.iload_n 1, 1) := by decide +kernel
theorem dX8_parts_2 : decode cX8_parts 2 = .ok (.iload_n 2, 1) := by decide +kernel
theorem dX8_parts_3 : decode cX8_parts 3 = .ok (.iload_n 3, 1) := by decide +kernel
theorem dX8_parts_4 : decode cX8_parts 4 = .ok (.invokevirtual 138, 3) := by decide +kernel
theorem dX8_parts_7 : decode cX8_parts 7 = .ok (.ifCond .eq 11, 3) := by decide +kernel
theorem dX8_parts_10 : decode cX8_parts 10 = .ok (.iload 4, 2) := by decide +kernel
theorem dX8_parts_12 : decode cX8_parts 12 = .ok (.invokestatic 142, 3) := by decide +kernel
theorem dX8_parts_15 : decode cX8_parts 15 = .ok (.ifCond .ne 5, 3) := by decide +kernel
theorem dX8_parts_18 : decode cX8_parts 18 = .ok (.iconst (-1), 1) := by decide +kernel
theorem dX8_parts_19 : decode cX8_parts 19 = .ok (.ireturn, 1) := by decide +kernel
theorem dX8_parts_20 : decode cX8_parts 20 = .ok (.aload_n 0, 1) := by decide +kernel
theorem dX8_parts_21 : decode cX8_parts 21 = .ok (.getfield 42, 3) := by decide +kernel
theorem dX8_parts_24 : decode cX8_parts 24 = .ok (.aload_n 0, 1) := by decide +kernel
theorem dX8_parts_25 : decode cX8_parts 25 = .ok (.getfield 35, 3) := by decide +kernel
theorem dX8_parts_28 : decode cX8_parts 28 = .ok (.invokevirtual 241, 3) := by decide +kernel
theorem dX8_parts_31 : decode cX8_parts 31 = .ok (.iload_n 3, 1) := by decide +kernel
theorem dX8_parts_32 : decode cX8_parts 32 = .ok (.istore 5, 2) := by decide +kernel
theorem dX8_parts_34 : decode cX8_parts 34 = .ok (.iload_n 3, 1) := by decide +kernel
theorem dX8_parts_35 : decode cX8_parts 35 = .ok (.istore 6, 2) := by decide +kernel
theorem dX8_parts_37 : decode cX8_parts 37 = .ok (.iconst 0, 1) := by decide +kernel
theorem dX8_parts_38 : decode cX8_parts 38 = .ok (.istore 7, 2) := by decide +kernel
theorem dX8_parts_40 : decode cX8_parts 40 = .ok (.iload 5, 2) := by decide +kernel
theorem dX8_parts_42 : decode cX8_parts 42 = .ok (.ifCond .le 87, 3) := by decide +kernel
theorem dX8_parts_45 : decode cX8_parts 45 = .ok (.iload 7, 2) := by decide +kernel
theorem dX8_parts_47 : decode cX8_parts 47 = .ok (.bipush 20, 2) := by decide +kernel
theorem dX8_parts_49 : decode cX8_parts 49 = .ok (.if_icmp .ge 80, 3) := by decide +kernel
theorem dX8_parts_52 : decode cX8_parts 52 = .ok (.aload_n 0, 1) := by decide +kernel
theorem dX8_parts_53 : decode cX8_parts 53 = .ok (.iload_n 1, 1) := by decide +kernel
theorem dX8_parts_54 : decode cX8_parts 54 = .ok (.iload_n 2, 1) := by decide +kernel
theorem dX8_parts_55 : decode cX8_parts 55 = .ok (.iload 6, 2) := by decide +kernel
theorem dX8_parts_57 : decode cX8_parts 57 = .ok (.iload 5, 2) := by decide +kernel
theorem dX8_parts_59 : decode cX8_parts 59 = .ok (.invokestatic 427, 3) := by decide +kernel
theorem dX8_parts_62 : decode cX8_parts 62 = .ok (.iload 4, 2) := by decide +kernel
theorem dX8_parts_64 : decode cX8_parts 64 = .ok (.invokevirtual 430, 3) := by decide +kernel
theorem dX8_parts_67 : decode cX8_parts 67 = .ok (.istore 6, 2) := by decide +kernel
theorem dX8_parts_69 : decode cX8_parts 69 = .ok (.iload 6, 2) := by decide +kernel
theorem dX8_parts_71 : decode cX8_parts 71 = .ok (.ifCond .ne 6, 3) := by decide +kernel
theorem dX8_parts_74 : decode cX8_parts 74 = .ok (.bipush (-2), 2) := by decide +kernel
theorem dX8_parts_76 : decode cX8_parts 76 = .ok (.ireturn, 1) := by decide +kernel
theorem dX8_parts_77 : decode cX8_parts 77 = .ok (.aload_n 0, 1) := by decide +kernel
theorem dX8_parts_78 : decode cX8_parts 78 = .ok (.getfield 42, 3) := by decide +kernel
theorem dX8_parts_81 : decode cX8_parts 81 = .ok (.aload_n 0, 1) := by decide +kernel
theorem dX8_parts_82 : decode cX8_parts 82 = .ok (.getfield 28, 3) := by decide +kernel
theorem dX8_parts_85 : decode cX8_parts 85 = .ok (.getfield 156, 3) := by decide +kernel
theorem dX8_parts_88 : decode cX8_parts 88 = .ok (.aload_n 0, 1) := by decide +kernel
theorem dX8_parts_89 : decode cX8_parts 89 = .ok (.getfield 28, 3) := by decide +kernel
theorem dX8_parts_92 : decode cX8_parts 92 = .ok (.getfield 159, 3) := by decide +kernel
theorem dX8_parts_95 : decode cX8_parts 95 = .ok (.aload_n 0, 1) := by decide +kernel
theorem dX8_parts_96 : decode cX8_parts 96 = .ok (.getfield 28, 3) := by decide +kernel
theorem dX8_parts_99 : decode cX8_parts 99 = .ok (.getfield 159, 3) := by decide +kernel
theorem dX8_parts_102 : decode cX8_parts 102 = .ok (.aload_n 0, 1) := by decide +kernel
theorem dX8_parts_103 : decode cX8_parts 103 = .ok (.getfield 28, 3) := by decide +kernel
theorem dX8_parts_106 : decode cX8_parts 106 = .ok (.getfield 162, 3) := by decide +kernel
theorem dX8_parts_109 : decode cX8_parts 109 = .ok (.iadd, 1) := by decide +kernel
theorem dX8_parts_110 : decode cX8_parts 110 = .ok (.invokestatic 433, 3) := by decide +kernel
theorem dX8_parts_113 : decode cX8_parts 113 = .ok (.invokevirtual 436, 3) := by decide +kernel
theorem dX8_parts_116 : decode cX8_parts 116 = .ok (.iload 5, 2) := by decide +kernel
theorem dX8_parts_118 : decode cX8_parts 118 = .ok (.iload 6, 2) := by decide +kernel
theorem dX8_parts_120 : decode cX8_parts 120 = .ok (.isub, 1) := by decide +kernel
theorem dX8_parts_121 : decode cX8_parts 121 = .ok (.istore 5, 2) := by decide +kernel
theorem dX8_parts_123 : decode cX8_parts 123 = .ok (.iinc 7 1, 3) := by decide +kernel
theorem dX8_parts_126 : decode cX8_parts 126 = .ok (.goto (-86), 3) := by decide +kernel
theorem dX8_parts_129 : decode cX8_parts 129 = .ok (.iload 5, 2) := by decide +kernel
theorem dX8_parts_131 : decode cX8_parts 131 = .ok (.ifCond .le 8, 3) := by decide +kernel
theorem dX8_parts_134 : decode cX8_parts 134 = .ok (.bipush (-2), 2) := by decide +kernel
theorem dX8_parts_136 : decode cX8_parts 136 = .ok (.goto 5, 3) := by decide +kernel
theorem dX8_parts_139 : decode cX8_parts 139 = .ok (.iload 7, 2) := by decide +kernel
theorem dX8_parts_141 : decode cX8_parts 141 = .ok (.ireturn, 1) := by decide +kernel
theorem dX8_greatestFitting_0 : decode cX8_greatestFitting 0 = .ok (.iload_n 3, 1) := by decide +kernel
theorem dX8_greatestFitting_1 : decode cX8_greatestFitting 1 = .ok (.istore 5, 2) := by decide +kernel
theorem dX8_greatestFitting_3 : decode cX8_greatestFitting 3 = .ok (.iload 5, 2) := by decide +kernel
theorem dX8_greatestFitting_5 : decode cX8_greatestFitting 5 = .ok (.ifCond .le 32, 3) := by decide +kernel
theorem dX8_greatestFitting_8 : decode cX8_greatestFitting 8 = .ok (.aload_n 0, 1) := by decide +kernel
theorem dX8_greatestFitting_9 : decode cX8_greatestFitting 9 = .ok (.getfield 28, 3) := by decide +kernel
theorem dX8_greatestFitting_12 : decode cX8_greatestFitting 12 = .ok (.aload_n 0, 1) := by decide +kernel
theorem dX8_greatestFitting_13 : decode cX8_greatestFitting 13 = .ok (.getfield 42, 3) := by decide +kernel
theorem dX8_greatestFitting_16 : decode cX8_greatestFitting 16 = .ok (.iload_n 1, 1) := by decide +kernel
theorem dX8_greatestFitting_17 : decode cX8_greatestFitting 17 = .ok (.iload_n 2, 1) := by decide +kernel
theorem dX8_greatestFitting_18 : decode cX8_greatestFitting 18 = .ok (.iload 5, 2) := by decide +kernel
theorem dX8_greatestFitting_20 : decode cX8_greatestFitting 20 = .ok (.iload 4, 2) := by decide +kernel
theorem dX8_greatestFitting_22 : decode cX8_greatestFitting 22 = .ok (.invokevirtual 152, 3) := by decide +kernel
theorem dX8_greatestFitting_25 : decode cX8_greatestFitting 25 = .ok (.ifCond .eq 6, 3) := by decide +kernel
theorem dX8_greatestFitting_28 : decode cX8_greatestFitting 28 = .ok (.iload 5, 2) := by decide +kernel
theorem dX8_greatestFitting_30 : decode cX8_greatestFitting 30 = .ok (.ireturn, 1) := by decide +kernel
theorem dX8_greatestFitting_31 : decode cX8_greatestFitting 31 = .ok (.iinc 5 (-1), 3) := by decide +kernel
theorem dX8_greatestFitting_34 : decode cX8_greatestFitting 34 = .ok (.goto (-31), 3) := by decide +kernel
theorem dX8_greatestFitting_37 : decode cX8_greatestFitting 37 = .ok (.iconst 0, 1) := by decide +kernel
theorem dX8_greatestFitting_38 : decode cX8_greatestFitting 38 = .ok (.ireturn, 1) := by decide +kernel
theorem dX8_more_0 : decode cX8_more 0 = .ok (.aload_n 0, 1) := by decide +kernel
theorem dX8_more_1 : decode cX8_more 1 = .ok (.iload_n 1, 1) := by decide +kernel
theorem dX8_more_2 : decode cX8_more 2 = .ok (.iload_n 2, 1) := by decide +kernel
theorem dX8_more_3 : decode cX8_more 3 = .ok (.iload_n 3, 1) := by decide +kernel
theorem dX8_more_4 : decode cX8_more 4 = .ok (.invokevirtual 138, 3) := by decide +kernel
theorem dX8_more_7 : decode cX8_more 7 = .ok (.ifCond .eq 11, 3) := by decide +kernel
theorem dX8_more_10 : decode cX8_more 10 = .ok (.iload 4, 2) := by decide +kernel
theorem dX8_more_12 : decode cX8_more 12 = .ok (.invokestatic 142, 3) := by decide +kernel
theorem dX8_more_15 : decode cX8_more 15 = .ok (.ifCond .ne 5, 3) := by decide +kernel
theorem dX8_more_18 : decode cX8_more 18 = .ok (.iconst (-1), 1) := by decide +kernel
theorem dX8_more_19 : decode cX8_more 19 = .ok (.ireturn, 1) := by decide +kernel
theorem dX8_more_20 : decode cX8_more 20 = .ok (.aload_n 0, 1) := by decide +kernel
theorem dX8_more_21 : decode cX8_more 21 = .ok (.getfield 42, 3) := by decide +kernel
theorem dX8_more_24 : decode cX8_more 24 = .ok (.aload_n 0, 1) := by decide +kernel
theorem dX8_more_25 : decode cX8_more 25 = .ok (.getfield 35, 3) := by decide +kernel
theorem dX8_more_28 : decode cX8_more 28 = .ok (.invokevirtual 241, 3) := by decide +kernel
theorem dX8_more_31 : decode cX8_more 31 = .ok (.sipush 840, 3) := by decide +kernel
theorem dX8_more_34 : decode cX8_more 34 = .ok (.istore 5, 2) := by decide +kernel
theorem dX8_more_36 : decode cX8_more 36 = .ok (.iconst 0, 1) := by decide +kernel
theorem dX8_more_37 : decode cX8_more 37 = .ok (.istore 6, 2) := by decide +kernel
theorem dX8_more_39 : decode cX8_more 39 = .ok (.iload 6, 2) := by decide +kernel
theorem dX8_more_41 : decode cX8_more 41 = .ok (.iload 5, 2) := by decide +kernel
theorem dX8_more_43 : decode cX8_more 43 = .ok (.if_icmp .ge 67, 3) := by decide +kernel
theorem dX8_more_46 : decode cX8_more 46 = .ok (.aload_n 0, 1) := by decide +kernel
theorem dX8_more_47 : decode cX8_more 47 = .ok (.getfield 28, 3) := by decide +kernel
theorem dX8_more_50 : decode cX8_more 50 = .ok (.aload_n 0, 1) := by decide +kernel
theorem dX8_more_51 : decode cX8_more 51 = .ok (.getfield 42, 3) := by decide +kernel
theorem dX8_more_54 : decode cX8_more 54 = .ok (.iload_n 1, 1) := by decide +kernel
theorem dX8_more_55 : decode cX8_more 55 = .ok (.iload_n 2, 1) := by decide +kernel
theorem dX8_more_56 : decode cX8_more 56 = .ok (.iload_n 3, 1) := by decide +kernel
theorem dX8_more_57 : decode cX8_more 57 = .ok (.iload 4, 2) := by decide +kernel
theorem dX8_more_59 : decode cX8_more 59 = .ok (.invokevirtual 152, 3) := by decide +kernel
theorem dX8_more_62 : decode cX8_more 62 = .ok (.ifCond .eq 48, 3) := by decide +kernel
theorem dX8_more_65 : decode cX8_more 65 = .ok (.aload_n 0, 1) := by decide +kernel
theorem dX8_more_66 : decode cX8_more 66 = .ok (.getfield 42, 3) := by decide +kernel
theorem dX8_more_69 : decode cX8_more 69 = .ok (.aload_n 0, 1) := by decide +kernel
theorem dX8_more_70 : decode cX8_more 70 = .ok (.getfield 28, 3) := by decide +kernel
theorem dX8_more_73 : decode cX8_more 73 = .ok (.getfield 156, 3) := by decide +kernel
theorem dX8_more_76 : decode cX8_more 76 = .ok (.aload_n 0, 1) := by decide +kernel
theorem dX8_more_77 : decode cX8_more 77 = .ok (.getfield 28, 3) := by decide +kernel
theorem dX8_more_80 : decode cX8_more 80 = .ok (.getfield 159, 3) := by decide +kernel
theorem dX8_more_83 : decode cX8_more 83 = .ok (.aload_n 0, 1) := by decide +kernel
theorem dX8_more_84 : decode cX8_more 84 = .ok (.getfield 28, 3) := by decide +kernel
theorem dX8_more_87 : decode cX8_more 87 = .ok (.getfield 159, 3) := by decide +kernel
theorem dX8_more_90 : decode cX8_more 90 = .ok (.aload_n 0, 1) := by decide +kernel
theorem dX8_more_91 : decode cX8_more 91 = .ok (.getfield 28, 3) := by decide +kernel
theorem dX8_more_94 : decode cX8_more 94 = .ok (.getfield 162, 3) := by decide +kernel
theorem dX8_more_97 : decode cX8_more 97 = .ok (.iadd, 1) := by decide +kernel
theorem dX8_more_98 : decode cX8_more 98 = .ok (.invokestatic 433, 3) := by decide +kernel
theorem dX8_more_101 : decode cX8_more 101 = .ok (.invokevirtual 436, 3) := by decide +kernel
theorem dX8_more_104 : decode cX8_more 104 = .ok (.iinc 6 1, 3) := by decide +kernel
theorem dX8_more_107 : decode cX8_more 107 = .ok (.goto (-68), 3) := by decide +kernel
theorem dX8_more_110 : decode cX8_more 110 = .ok (.iload 6, 2) := by decide +kernel
theorem dX8_more_112 : decode cX8_more 112 = .ok (.ireturn, 1) := by decide +kernel
theorem dX8_keep_0 : decode cX8_keep 0 = .ok (.aload_n 0, 1) := by decide +kernel
theorem dX8_keep_1 : decode cX8_keep 1 = .ok (.getfield 39, 3) := by decide +kernel
theorem dX8_keep_4 : decode cX8_keep 4 = .ok (.aload_n 0, 1) := by decide +kernel
theorem dX8_keep_5 : decode cX8_keep 5 = .ok (.getfield 35, 3) := by decide +kernel
theorem dX8_keep_8 : decode cX8_keep 8 = .ok (.invokevirtual 241, 3) := by decide +kernel
theorem dX8_keep_11 : decode cX8_keep 11 = .ok (.aload_n 0, 1) := by decide +kernel
theorem dX8_keep_12 : decode cX8_keep 12 = .ok (.iconst 1, 1) := by decide +kernel
theorem dX8_keep_13 : decode cX8_keep 13 = .ok (.putfield 61, 3) := by decide +kernel
theorem dX8_keep_16 : decode cX8_keep 16 = .ok (.aload_n 0, 1) := by decide +kernel
theorem dX8_keep_17 : decode cX8_keep 17 = .ok (.getfield 39, 3) := by decide +kernel
theorem dX8_keep_20 : decode cX8_keep 20 = .ok (.getfield 145, 3) := by decide +kernel
theorem dX8_keep_23 : decode cX8_keep 23 = .ok (.ireturn, 1) := by decide +kernel
theorem dX8_undo_0 : decode cX8_undo 0 = .ok (.aload_n 0, 1) := by decide +kernel
theorem dX8_undo_1 : decode cX8_undo 1 = .ok (.getfield 61, 3) := by decide +kernel
theorem dX8_undo_4 : decode cX8_undo 4 = .ok (.ifCond .ne 5, 3) := by decide +kernel
theorem dX8_undo_7 : decode cX8_undo 7 = .ok (.iconst 0, 1) := by decide +kernel
theorem dX8_undo_8 : decode cX8_undo 8 = .ok (.ireturn, 1) := by decide +kernel
theorem dX8_undo_9 : decode cX8_undo 9 = .ok (.aload_n 0, 1) := by decide +kernel
theorem dX8_undo_10 : decode cX8_undo 10 = .ok (.getfield 35, 3) := by decide +kernel
theorem dX8_undo_13 : decode cX8_undo 13 = .ok (.aload_n 0, 1) := by decide +kernel
theorem dX8_undo_14 : decode cX8_undo 14 = .ok (.getfield 39, 3) := by decide +kernel
theorem dX8_undo_17 : decode cX8_undo 17 = .ok (.invokevirtual 241, 3) := by decide +kernel
theorem dX8_undo_20 : decode cX8_undo 20 = .ok (.aload_n 0, 1) := by decide +kernel
theorem dX8_undo_21 : decode cX8_undo 21 = .ok (.getfield 28, 3) := by decide +kernel
theorem dX8_undo_24 : decode cX8_undo 24 = .ok (.invokevirtual 89, 3) := by decide +kernel
theorem dX8_undo_27 : decode cX8_undo 27 = .ok (.iconst 1, 1) := by decide +kernel
theorem dX8_undo_28 : decode cX8_undo 28 = .ok (.ireturn, 1) := by decide +kernel
theorem dX8_check_0 : decode cX8_check 0 = .ok (.iload_n 1, 1) := by decide +kernel
theorem dX8_check_1 : decode cX8_check 1 = .ok (.ifCond .lt 20, 3) := by decide +kernel
theorem dX8_check_4 : decode cX8_check 4 = .ok (.iload_n 1, 1) := by decide +kernel
theorem dX8_check_5 : decode cX8_check 5 = .ok (.bipush 40, 2) := by decide +kernel
theorem dX8_check_7 : decode cX8_check 7 = .ok (.if_icmp .gt 14, 3) := by decide +kernel
theorem dX8_check_10 : decode cX8_check 10 = .ok (.iload_n 1, 1) := by decide +kernel
theorem dX8_check_11 : decode cX8_check 11 = .ok (.aload_n 0, 1) := by decide +kernel
theorem dX8_check_12 : decode cX8_check 12 = .ok (.getfield 10, 3) := by decide +kernel
theorem dX8_check_15 : decode cX8_check 15 = .ok (.getfield 65, 3) := by decide +kernel
theorem dX8_check_18 : decode cX8_check 18 = .ok (.if_icmp .le 6, 3) := by decide +kernel
theorem dX8_check_21 : decode cX8_check 21 = .ok (.bipush (-2), 2) := by decide +kernel
theorem dX8_check_23 : decode cX8_check 23 = .ok (.ireturn, 1) := by decide +kernel
theorem dX8_check_24 : decode cX8_check 24 = .ok (.aload_n 0, 1) := by decide +kernel
theorem dX8_check_25 : decode cX8_check 25 = .ok (.getfield 10, 3) := by decide +kernel
theorem dX8_check_28 : decode cX8_check 28 = .ok (.iconst 0, 1) := by decide +kernel
theorem dX8_check_29 : decode cX8_check 29 = .ok (.putfield 65, 3) := by decide +kernel
theorem dX8_check_32 : decode cX8_check 32 = .ok (.iconst 0, 1) := by decide +kernel
theorem dX8_check_33 : decode cX8_check 33 = .ok (.istore_n 2, 1) := by decide +kernel
theorem dX8_check_34 : decode cX8_check 34 = .ok (.iload_n 2, 1) := by decide +kernel
theorem dX8_check_35 : decode cX8_check 35 = .ok (.iload_n 1, 1) := by decide +kernel
theorem dX8_check_36 : decode cX8_check 36 = .ok (.if_icmp .ge 39, 3) := by decide +kernel
theorem dX8_check_39 : decode cX8_check 39 = .ok (.iload_n 2, 1) := by decide +kernel
theorem dX8_check_40 : decode cX8_check 40 = .ok (.aload_n 0, 1) := by decide +kernel
theorem dX8_check_41 : decode cX8_check 41 = .ok (.getfield 35, 3) := by decide +kernel
theorem dX8_check_44 : decode cX8_check 44 = .ok (.getfield 145, 3) := by decide +kernel
theorem dX8_check_47 : decode cX8_check 47 = .ok (.if_icmp .ge 20, 3) := by decide +kernel
theorem dX8_check_50 : decode cX8_check 50 = .ok (.aload_n 0, 1) := by decide +kernel
theorem dX8_check_51 : decode cX8_check 51 = .ok (.getfield 10, 3) := by decide +kernel
theorem dX8_check_54 : decode cX8_check 54 = .ok (.getfield 440, 3) := by decide +kernel
theorem dX8_check_57 : decode cX8_check 57 = .ok (.iload_n 2, 1) := by decide +kernel
theorem dX8_check_58 : decode cX8_check 58 = .ok (.iaload, 1) := by decide +kernel
theorem dX8_check_59 : decode cX8_check 59 = .ok (.aload_n 0, 1) := by decide +kernel
theorem dX8_check_60 : decode cX8_check 60 = .ok (.iload_n 2, 1) := by decide +kernel
theorem dX8_check_61 : decode cX8_check 61 = .ok (.invokevirtual 443, 3) := by decide +kernel
theorem dX8_check_64 : decode cX8_check 64 = .ok (.if_icmp .eq 5, 3) := by decide +kernel
theorem dX8_check_67 : decode cX8_check 67 = .ok (.iload_n 2, 1) := by decide +kernel
theorem dX8_check_68 : decode cX8_check 68 = .ok (.ireturn, 1) := by decide +kernel
theorem dX8_check_69 : decode cX8_check 69 = .ok (.iinc 2 1, 3) := by decide +kernel
theorem dX8_check_72 : decode cX8_check 72 = .ok (.goto (-38), 3) := by decide +kernel
theorem dX8_check_75 : decode cX8_check 75 = .ok (.iconst (-1), 1) := by decide +kernel
theorem dX8_check_76 : decode cX8_check 76 = .ok (.ireturn, 1) := by decide +kernel
theorem dX8_firstByte_0 : decode cX8_firstByte 0 = .ok (.aload_n 0, 1) := by decide +kernel
theorem dX8_firstByte_1 : decode cX8_firstByte 1 = .ok (.getfield 35, 3) := by decide +kernel
theorem dX8_firstByte_4 : decode cX8_firstByte 4 = .ok (.iload_n 1, 1) := by decide +kernel
theorem dX8_firstByte_5 : decode cX8_firstByte 5 = .ok (.invokevirtual 180, 3) := by decide +kernel
theorem dX8_firstByte_8 : decode cX8_firstByte 8 = .ok (.ifCond .eq 15, 3) := by decide +kernel
theorem dX8_firstByte_11 : decode cX8_firstByte 11 = .ok (.aload_n 0, 1) := by decide +kernel
theorem dX8_firstByte_12 : decode cX8_firstByte 12 = .ok (.getfield 35, 3) := by decide +kernel
theorem dX8_firstByte_15 : decode cX8_firstByte 15 = .ok (.getfield 191, 3) := by decide +kernel
theorem dX8_firstByte_18 : decode cX8_firstByte 18 = .ok (.iload_n 1, 1) := by decide +kernel
theorem dX8_firstByte_19 : decode cX8_firstByte 19 = .ok (.iaload, 1) := by decide +kernel
theorem dX8_firstByte_20 : decode cX8_firstByte 20 = .ok (.goto 6, 3) := by decide +kernel
theorem dX8_firstByte_23 : decode cX8_firstByte 23 = .ok (.sipush 255, 3) := by decide +kernel
theorem dX8_firstByte_26 : decode cX8_firstByte 26 = .ok (.ireturn, 1) := by decide +kernel
theorem dX8_count_0 : decode cX8_count 0 = .ok (.iload_n 1, 1) := by decide +kernel
theorem dX8_count_1 : decode cX8_count 1 = .ok (.tableswitch 54 0 2 #[27, 35, 43], 27) := by decide +kernel
theorem dX8_count_28 : decode cX8_count 28 = .ok (.aload_n 0, 1) := by decide +kernel
theorem dX8_count_29 : decode cX8_count 29 = .ok (.getfield 35, 3) := by decide +kernel
theorem dX8_count_32 : decode cX8_count 32 = .ok (.getfield 145, 3) := by decide +kernel
theorem dX8_count_35 : decode cX8_count 35 = .ok (.ireturn, 1) := by decide +kernel
theorem dX8_count_36 : decode cX8_count 36 = .ok (.aload_n 0, 1) := by decide +kernel
theorem dX8_count_37 : decode cX8_count 37 = .ok (.getfield 10, 3) := by decide +kernel
theorem dX8_count_40 : decode cX8_count 40 = .ok (.getfield 65, 3) := by decide +kernel
theorem dX8_count_43 : decode cX8_count 43 = .ok (.ireturn, 1) := by decide +kernel
theorem dX8_count_44 : decode cX8_count 44 = .ok (.aload_n 0, 1) := by decide +kernel
theorem dX8_count_45 : decode cX8_count 45 = .ok (.getfield 35, 3) := by decide +kernel
theorem dX8_count_48 : decode cX8_count 48 = .ok (.getfield 204, 3) := by decide +kernel
theorem dX8_count_51 : decode cX8_count 51 = .ok (.getfield 446, 3) := by decide +kernel
theorem dX8_count_54 : decode cX8_count 54 = .ok (.ireturn, 1) := by decide +kernel
theorem dX8_count_55 : decode cX8_count 55 = .ok (.iconst (-1), 1) := by decide +kernel
theorem dX8_count_56 : decode cX8_count 56 = .ok (.ireturn, 1) := by decide +kernel
theorem dX8_arePlaces_0 : decode cX8_arePlaces 0 = .ok (.aload_n 0, 1) := by decide +kernel
theorem dX8_arePlaces_1 : decode cX8_arePlaces 1 = .ok (.getfield 35, 3) := by decide +kernel
theorem dX8_arePlaces_4 : decode cX8_arePlaces 4 = .ok (.getfield 204, 3) := by decide +kernel
theorem dX8_arePlaces_7 : decode cX8_arePlaces 7 = .ok (.getfield 268, 3) := by decide +kernel
theorem dX8_arePlaces_10 : decode cX8_arePlaces 10 = .ok (.istore_n 3, 1) := by decide +kernel
theorem dX8_arePlaces_11 : decode cX8_arePlaces 11 = .ok (.iload_n 1, 1) := by decide +kernel
theorem dX8_arePlaces_12 : decode cX8_arePlaces 12 = .ok (.ifCond .lt 26, 3) := by decide +kernel
theorem dX8_arePlaces_15 : decode cX8_arePlaces 15 = .ok (.iload_n 1, 1) := by decide +kernel
theorem dX8_arePlaces_16 : decode cX8_arePlaces 16 = .ok (.iload_n 3, 1) := by decide +kernel
theorem dX8_arePlaces_17 : decode cX8_arePlaces 17 = .ok (.if_icmp .ge 21, 3) := by decide +kernel
theorem dX8_arePlaces_20 : decode cX8_arePlaces 20 = .ok (.iload_n 2, 1) := by decide +kernel
theorem dX8_arePlaces_21 : decode cX8_arePlaces 21 = .ok (.ifCond .lt 17, 3) := by decide +kernel
theorem dX8_arePlaces_24 : decode cX8_arePlaces 24 = .ok (.iload_n 2, 1) := by decide +kernel
theorem dX8_arePlaces_25 : decode cX8_arePlaces 25 = .ok (.iload_n 3, 1) := by decide +kernel
theorem dX8_arePlaces_26 : decode cX8_arePlaces 26 = .ok (.if_icmp .ge 12, 3) := by decide +kernel
theorem dX8_arePlaces_29 : decode cX8_arePlaces 29 = .ok (.iload_n 1, 1) := by decide +kernel
theorem dX8_arePlaces_30 : decode cX8_arePlaces 30 = .ok (.iload_n 2, 1) := by decide +kernel
theorem dX8_arePlaces_31 : decode cX8_arePlaces 31 = .ok (.if_icmp .eq 7, 3) := by decide +kernel
theorem dX8_arePlaces_34 : decode cX8_arePlaces 34 = .ok (.iconst 1, 1) := by decide +kernel
theorem dX8_arePlaces_35 : decode cX8_arePlaces 35 = .ok (.goto 4, 3) := by decide +kernel
theorem dX8_arePlaces_38 : decode cX8_arePlaces 38 = .ok (.iconst 0, 1) := by decide +kernel
theorem dX8_arePlaces_39 : decode cX8_arePlaces 39 = .ok (.ireturn, 1) := by decide +kernel
theorem dX8_isWish_0 : decode cX8_isWish 0 = .ok (.aload_n 0, 1) := by decide +kernel
theorem dX8_isWish_1 : decode cX8_isWish 1 = .ok (.iload_n 1, 1) := by decide +kernel
theorem dX8_isWish_2 : decode cX8_isWish 2 = .ok (.iload_n 2, 1) := by decide +kernel
theorem dX8_isWish_3 : decode cX8_isWish 3 = .ok (.invokevirtual 343, 3) := by decide +kernel
theorem dX8_isWish_6 : decode cX8_isWish 6 = .ok (.ifCond .eq 18, 3) := by decide +kernel
theorem dX8_isWish_9 : decode cX8_isWish 9 = .ok (.iload_n 3, 1) := by decide +kernel
theorem dX8_isWish_10 : decode cX8_isWish 10 = .ok (.iconst 1, 1) := by decide +kernel
theorem dX8_isWish_11 : decode cX8_isWish 11 = .ok (.if_icmp .lt 13, 3) := by decide +kernel
theorem dX8_isWish_14 : decode cX8_isWish 14 = .ok (.iload_n 3, 1) := by decide +kernel
theorem dX8_isWish_15 : decode cX8_isWish 15 = .ok (.bipush 64, 2) := by decide +kernel
theorem dX8_isWish_17 : decode cX8_isWish 17 = .ok (.if_icmp .gt 7, 3) := by decide +kernel
theorem dX8_isWish_20 : decode cX8_isWish 20 = .ok (.iconst 1, 1) := by decide +kernel
theorem dX8_isWish_21 : decode cX8_isWish 21 = .ok (.goto 4, 3) := by decide +kernel
theorem dX8_isWish_24 : decode cX8_isWish 24 = .ok (.iconst 0, 1) := by decide +kernel
theorem dX8_isWish_25 : decode cX8_isWish 25 = .ok (.ireturn, 1) := by decide +kernel
theorem dX8_isRule_0 : decode cX8_isRule 0 = .ok (.iload_n 0, 1) := by decide +kernel
theorem dX8_isRule_1 : decode cX8_isRule 1 = .ok (.ifCond .lt 12, 3) := by decide +kernel
theorem dX8_isRule_4 : decode cX8_isRule 4 = .ok (.iload_n 0, 1) := by decide +kernel
theorem dX8_isRule_5 : decode cX8_isRule 5 = .ok (.iconst 3, 1) := by decide +kernel
theorem dX8_isRule_6 : decode cX8_isRule 6 = .ok (.if_icmp .gt 7, 3) := by decide +kernel
theorem dX8_isRule_9 : decode cX8_isRule 9 = .ok (.iconst 1, 1) := by decide +kernel
theorem dX8_isRule_10 : decode cX8_isRule 10 = .ok (.goto 4, 3) := by decide +kernel
theorem dX8_isRule_13 : decode cX8_isRule 13 = .ok (.iconst 0, 1) := by decide +kernel
theorem dX8_isRule_14 : decode cX8_isRule 14 = .ok (.ireturn, 1) := by decide +kernel
theorem dX8_lowest_0 : decode cX8_lowest 0 = .ok (.lload_n 0, 1) := by decide +kernel
theorem dX8_lowest_1 : decode cX8_lowest 1 = .ok (.lload_n 0, 1) := by decide +kernel
theorem dX8_lowest_2 : decode cX8_lowest 2 = .ok (.lneg, 1) := by decide +kernel
theorem dX8_lowest_3 : decode cX8_lowest 3 = .ok (.land, 1) := by decide +kernel
theorem dX8_lowest_4 : decode cX8_lowest 4 = .ok (.lconst 1, 1) := by decide +kernel
theorem dX8_lowest_5 : decode cX8_lowest 5 = .ok (.lsub, 1) := by decide +kernel
theorem dX8_lowest_6 : decode cX8_lowest 6 = .ok (.invokestatic 295, 3) := by decide +kernel
theorem dX8_lowest_9 : decode cX8_lowest 9 = .ok (.ireturn, 1) := by decide +kernel
theorem dX8_highest_0 : decode cX8_highest 0 = .ok (.lload_n 0, 1) := by decide +kernel
theorem dX8_highest_1 : decode cX8_highest 1 = .ok (.lstore_n 2, 1) := by decide +kernel
theorem dX8_highest_2 : decode cX8_highest 2 = .ok (.iconst 1, 1) := by decide +kernel
theorem dX8_highest_3 : decode cX8_highest 3 = .ok (.istore 4, 2) := by decide +kernel
theorem dX8_highest_5 : decode cX8_highest 5 = .ok (.iload 4, 2) := by decide +kernel
theorem dX8_highest_7 : decode cX8_highest 7 = .ok (.bipush 64, 2) := by decide +kernel
theorem dX8_highest_9 : decode cX8_highest 9 = .ok (.if_icmp .ge 19, 3) := by decide +kernel
theorem dX8_highest_12 : decode cX8_highest 12 = .ok (.lload_n 2, 1) := by decide +kernel
theorem dX8_highest_13 : decode cX8_highest 13 = .ok (.lload_n 2, 1) := by decide +kernel
theorem dX8_highest_14 : decode cX8_highest 14 = .ok (.iload 4, 2) := by decide +kernel
theorem dX8_highest_16 : decode cX8_highest 16 = .ok (.lushr, 1) := by decide +kernel
theorem dX8_highest_17 : decode cX8_highest 17 = .ok (.lor, 1) := by decide +kernel
theorem dX8_highest_18 : decode cX8_highest 18 = .ok (.lstore_n 2, 1) := by decide +kernel
theorem dX8_highest_19 : decode cX8_highest 19 = .ok (.iload 4, 2) := by decide +kernel
theorem dX8_highest_21 : decode cX8_highest 21 = .ok (.iconst 2, 1) := by decide +kernel
theorem dX8_highest_22 : decode cX8_highest 22 = .ok (.imul, 1) := by decide +kernel
theorem dX8_highest_23 : decode cX8_highest 23 = .ok (.istore 4, 2) := by decide +kernel
theorem dX8_highest_25 : decode cX8_highest 25 = .ok (.goto (-20), 3) := by decide +kernel
theorem dX8_highest_28 : decode cX8_highest 28 = .ok (.lload_n 2, 1) := by decide +kernel
theorem dX8_highest_29 : decode cX8_highest 29 = .ok (.invokestatic 295, 3) := by decide +kernel
theorem dX8_highest_32 : decode cX8_highest 32 = .ok (.iconst 1, 1) := by decide +kernel
theorem dX8_highest_33 : decode cX8_highest 33 = .ok (.isub, 1) := by decide +kernel
theorem dX8_highest_34 : decode cX8_highest 34 = .ok (.ireturn, 1) := by decide +kernel
theorem dX8_rowStarts_0 : decode cX8_rowStarts 0 = .ok (.lload_n 0, 1) := by decide +kernel
theorem dX8_rowStarts_1 : decode cX8_rowStarts 1 = .ok (.lstore_n 3, 1) := by decide +kernel
theorem dX8_rowStarts_2 : decode cX8_rowStarts 2 = .ok (.iconst 1, 1) := by decide +kernel
theorem dX8_rowStarts_3 : decode cX8_rowStarts 3 = .ok (.istore 5, 2) := by decide +kernel
theorem dX8_rowStarts_5 : decode cX8_rowStarts 5 = .ok (.iload 5, 2) := by decide +kernel
theorem dX8_rowStarts_7 : decode cX8_rowStarts 7 = .ok (.iload_n 2, 1) := by decide +kernel
theorem dX8_rowStarts_8 : decode cX8_rowStarts 8 = .ok (.if_icmp .ge 16, 3) := by decide +kernel
theorem dX8_rowStarts_11 : decode cX8_rowStarts 11 = .ok (.lload_n 3, 1) := by decide +kernel
theorem dX8_rowStarts_12 : decode cX8_rowStarts 12 = .ok (.lload_n 0, 1) := by decide +kernel
theorem dX8_rowStarts_13 : decode cX8_rowStarts 13 = .ok (.iload 5, 2) := by decide +kernel
theorem dX8_rowStarts_15 : decode cX8_rowStarts 15 = .ok (.lushr, 1) := by decide +kernel
theorem dX8_rowStarts_16 : decode cX8_rowStarts 16 = .ok (.land, 1) := by decide +kernel
theorem dX8_rowStarts_17 : decode cX8_rowStarts 17 = .ok (.lstore_n 3, 1) := by decide +kernel
theorem dX8_rowStarts_18 : decode cX8_rowStarts 18 = .ok (.iinc 5 1, 3) := by decide +kernel
theorem dX8_rowStarts_21 : decode cX8_rowStarts 21 = .ok (.goto (-16), 3) := by decide +kernel
theorem dX8_rowStarts_24 : decode cX8_rowStarts 24 = .ok (.lload_n 3, 1) := by decide +kernel
theorem dX8_rowStarts_25 : decode cX8_rowStarts 25 = .ok (.lreturn, 1) := by decide +kernel
theorem dX8_span_0 : decode cX8_span 0 = .ok (.lconst 1, 1) := by decide +kernel
theorem dX8_span_1 : decode cX8_span 1 = .ok (.iload_n 1, 1) := by decide +kernel
theorem dX8_span_2 : decode cX8_span 2 = .ok (.lshl, 1) := by decide +kernel
theorem dX8_span_3 : decode cX8_span 3 = .ok (.lconst 1, 1) := by decide +kernel
theorem dX8_span_4 : decode cX8_span 4 = .ok (.iload_n 0, 1) := by decide +kernel
theorem dX8_span_5 : decode cX8_span 5 = .ok (.lshl, 1) := by decide +kernel
theorem dX8_span_6 : decode cX8_span 6 = .ok (.lsub, 1) := by decide +kernel
theorem dX8_span_7 : decode cX8_span 7 = .ok (.lreturn, 1) := by decide +kernel
