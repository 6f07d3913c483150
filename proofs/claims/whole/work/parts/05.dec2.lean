theorem dX6_renames_0 : decode cX6_renames 0 = .ok (.aload_n 0, 1) := by decide +kernel
theorem dX6_renames_1 : decode cX6_renames 1 = .ok (.aload_n 0, 1) := by decide +kernel
theorem dX6_renames_2 : decode cX6_renames 2 = .ok (.invokevirtual 44, 3) := by decide +kernel
theorem dX6_renames_5 : decode cX6_renames 5 = .ok (.iload_n 1, 1) := by decide +kernel
theorem dX6_renames_6 : decode cX6_renames 6 = .ok (.invokevirtual 48, 3) := by decide +kernel
theorem dX6_renames_9 : decode cX6_renames 9 = .ok (.istore_n 3, 1) := by decide +kernel
theorem dX6_renames_10 : decode cX6_renames 10 = .ok (.aload_n 0, 1) := by decide +kernel
theorem dX6_renames_11 : decode cX6_renames 11 = .ok (.iconst 5, 1) := by decide +kernel
theorem dX6_renames_12 : decode cX6_renames 12 = .ok (.iload_n 3, 1) := by decide +kernel
theorem dX6_renames_13 : decode cX6_renames 13 = .ok (.iconst 0, 1) := by decide +kernel
theorem dX6_renames_14 : decode cX6_renames 14 = .ok (.invokevirtual 62, 3) := by decide +kernel
theorem dX6_renames_17 : decode cX6_renames 17 = .ok (.aload_n 0, 1) := by decide +kernel
theorem dX6_renames_18 : decode cX6_renames 18 = .ok (.aload_n 0, 1) := by decide +kernel
theorem dX6_renames_19 : decode cX6_renames 19 = .ok (.invokevirtual 44, 3) := by decide +kernel
theorem dX6_renames_22 : decode cX6_renames 22 = .ok (.bipush 9, 2) := by decide +kernel
theorem dX6_renames_24 : decode cX6_renames 24 = .ok (.iload_n 3, 1) := by decide +kernel
theorem dX6_renames_25 : decode cX6_renames 25 = .ok (.iadd, 1) := by decide +kernel
theorem dX6_renames_26 : decode cX6_renames 26 = .ok (.iload_n 2, 1) := by decide +kernel
theorem dX6_renames_27 : decode cX6_renames 27 = .ok (.invokevirtual 40, 3) := by decide +kernel
theorem dX6_renames_30 : decode cX6_renames 30 = .ok (.return_, 1) := by decide +kernel
theorem dX6_addNumber_0 : decode cX6_addNumber 0 = .ok (.aload_n 0, 1) := by decide +kernel
theorem dX6_addNumber_1 : decode cX6_addNumber 1 = .ok (.aload_n 0, 1) := by decide +kernel
theorem dX6_addNumber_2 : decode cX6_addNumber 2 = .ok (.iload_n 1, 1) := by decide +kernel
theorem dX6_addNumber_3 : decode cX6_addNumber 3 = .ok (.iload_n 2, 1) := by decide +kernel
theorem dX6_addNumber_4 : decode cX6_addNumber 4 = .ok (.invokevirtual 69, 3) := by decide +kernel
theorem dX6_addNumber_7 : decode cX6_addNumber 7 = .ok (.putfield 25, 3) := by decide +kernel
theorem dX6_addNumber_10 : decode cX6_addNumber 10 = .ok (.aload_n 0, 1) := by decide +kernel
theorem dX6_addNumber_11 : decode cX6_addNumber 11 = .ok (.getfield 25, 3) := by decide +kernel
theorem dX6_addNumber_14 : decode cX6_addNumber 14 = .ok (.ifCond .eq 5, 3) := by decide +kernel
theorem dX6_addNumber_17 : decode cX6_addNumber 17 = .ok (.iconst 0, 1) := by decide +kernel
theorem dX6_addNumber_18 : decode cX6_addNumber 18 = .ok (.ireturn, 1) := by decide +kernel
theorem dX6_addNumber_19 : decode cX6_addNumber 19 = .ok (.aload_n 0, 1) := by decide +kernel
theorem dX6_addNumber_20 : decode cX6_addNumber 20 = .ok (.invokevirtual 72, 3) := by decide +kernel
theorem dX6_addNumber_23 : decode cX6_addNumber 23 = .ok (.aload_n 0, 1) := by decide +kernel
theorem dX6_addNumber_24 : decode cX6_addNumber 24 = .ok (.iload_n 1, 1) := by decide +kernel
theorem dX6_addNumber_25 : decode cX6_addNumber 25 = .ok (.iload_n 2, 1) := by decide +kernel
theorem dX6_addNumber_26 : decode cX6_addNumber 26 = .ok (.invokevirtual 75, 3) := by decide +kernel
theorem dX6_addNumber_29 : decode cX6_addNumber 29 = .ok (.aload_n 0, 1) := by decide +kernel
theorem dX6_addNumber_30 : decode cX6_addNumber 30 = .ok (.invokevirtual 44, 3) := by decide +kernel
theorem dX6_addNumber_33 : decode cX6_addNumber 33 = .ok (.ireturn, 1) := by decide +kernel
theorem dX6_addCopy_0 : decode cX6_addCopy 0 = .ok (.aload_n 0, 1) := by decide +kernel
theorem dX6_addCopy_1 : decode cX6_addCopy 1 = .ok (.aload_n 0, 1) := by decide +kernel
theorem dX6_addCopy_2 : decode cX6_addCopy 2 = .ok (.iload_n 1, 1) := by decide +kernel
theorem dX6_addCopy_3 : decode cX6_addCopy 3 = .ok (.iload_n 2, 1) := by decide +kernel
theorem dX6_addCopy_4 : decode cX6_addCopy 4 = .ok (.iload_n 3, 1) := by decide +kernel
theorem dX6_addCopy_5 : decode cX6_addCopy 5 = .ok (.invokevirtual 79, 3) := by decide +kernel
theorem dX6_addCopy_8 : decode cX6_addCopy 8 = .ok (.putfield 25, 3) := by decide +kernel
theorem dX6_addCopy_11 : decode cX6_addCopy 11 = .ok (.aload_n 0, 1) := by decide +kernel
theorem dX6_addCopy_12 : decode cX6_addCopy 12 = .ok (.getfield 25, 3) := by decide +kernel
theorem dX6_addCopy_15 : decode cX6_addCopy 15 = .ok (.ifCond .eq 5, 3) := by decide +kernel
theorem dX6_addCopy_18 : decode cX6_addCopy 18 = .ok (.iconst 0, 1) := by decide +kernel
theorem dX6_addCopy_19 : decode cX6_addCopy 19 = .ok (.ireturn, 1) := by decide +kernel
theorem dX6_addCopy_20 : decode cX6_addCopy 20 = .ok (.aload_n 0, 1) := by decide +kernel
theorem dX6_addCopy_21 : decode cX6_addCopy 21 = .ok (.invokevirtual 72, 3) := by decide +kernel
theorem dX6_addCopy_24 : decode cX6_addCopy 24 = .ok (.aload_n 0, 1) := by decide +kernel
theorem dX6_addCopy_25 : decode cX6_addCopy 25 = .ok (.iload_n 1, 1) := by decide +kernel
theorem dX6_addCopy_26 : decode cX6_addCopy 26 = .ok (.iload_n 2, 1) := by decide +kernel
theorem dX6_addCopy_27 : decode cX6_addCopy 27 = .ok (.iload_n 3, 1) := by decide +kernel
theorem dX6_addCopy_28 : decode cX6_addCopy 28 = .ok (.invokevirtual 83, 3) := by decide +kernel
theorem dX6_addCopy_31 : decode cX6_addCopy 31 = .ok (.aload_n 0, 1) := by decide +kernel
theorem dX6_addCopy_32 : decode cX6_addCopy 32 = .ok (.invokevirtual 44, 3) := by decide +kernel
theorem dX6_addCopy_35 : decode cX6_addCopy 35 = .ok (.ireturn, 1) := by decide +kernel
theorem dX6_drop_0 : decode cX6_drop 0 = .ok (.aload_n 0, 1) := by decide +kernel
theorem dX6_drop_1 : decode cX6_drop 1 = .ok (.aload_n 0, 1) := by decide +kernel
theorem dX6_drop_2 : decode cX6_drop 2 = .ok (.iload_n 1, 1) := by decide +kernel
theorem dX6_drop_3 : decode cX6_drop 3 = .ok (.iload_n 2, 1) := by decide +kernel
theorem dX6_drop_4 : decode cX6_drop 4 = .ok (.invokevirtual 86, 3) := by decide +kernel
theorem dX6_drop_7 : decode cX6_drop 7 = .ok (.putfield 25, 3) := by decide +kernel
theorem dX6_drop_10 : decode cX6_drop 10 = .ok (.aload_n 0, 1) := by decide +kernel
theorem dX6_drop_11 : decode cX6_drop 11 = .ok (.getfield 25, 3) := by decide +kernel
theorem dX6_drop_14 : decode cX6_drop 14 = .ok (.ifCond .eq 5, 3) := by decide +kernel
theorem dX6_drop_17 : decode cX6_drop 17 = .ok (.iconst 0, 1) := by decide +kernel
theorem dX6_drop_18 : decode cX6_drop 18 = .ok (.ireturn, 1) := by decide +kernel
theorem dX6_drop_19 : decode cX6_drop 19 = .ok (.aload_n 0, 1) := by decide +kernel
theorem dX6_drop_20 : decode cX6_drop 20 = .ok (.invokevirtual 72, 3) := by decide +kernel
theorem dX6_drop_23 : decode cX6_drop 23 = .ok (.aload_n 0, 1) := by decide +kernel
theorem dX6_drop_24 : decode cX6_drop 24 = .ok (.iload_n 1, 1) := by decide +kernel
theorem dX6_drop_25 : decode cX6_drop 25 = .ok (.iload_n 2, 1) := by decide +kernel
theorem dX6_drop_26 : decode cX6_drop 26 = .ok (.invokevirtual 89, 3) := by decide +kernel
theorem dX6_drop_29 : decode cX6_drop 29 = .ok (.aload_n 0, 1) := by decide +kernel
theorem dX6_drop_30 : decode cX6_drop 30 = .ok (.invokevirtual 44, 3) := by decide +kernel
theorem dX6_drop_33 : decode cX6_drop 33 = .ok (.ireturn, 1) := by decide +kernel
theorem dX6_rename_0 : decode cX6_rename 0 = .ok (.aload_n 0, 1) := by decide +kernel
theorem dX6_rename_1 : decode cX6_rename 1 = .ok (.aload_n 0, 1) := by decide +kernel
theorem dX6_rename_2 : decode cX6_rename 2 = .ok (.iload_n 1, 1) := by decide +kernel
theorem dX6_rename_3 : decode cX6_rename 3 = .ok (.iload_n 2, 1) := by decide +kernel
theorem dX6_rename_4 : decode cX6_rename 4 = .ok (.invokevirtual 92, 3) := by decide +kernel
theorem dX6_rename_7 : decode cX6_rename 7 = .ok (.putfield 25, 3) := by decide +kernel
theorem dX6_rename_10 : decode cX6_rename 10 = .ok (.aload_n 0, 1) := by decide +kernel
theorem dX6_rename_11 : decode cX6_rename 11 = .ok (.getfield 25, 3) := by decide +kernel
theorem dX6_rename_14 : decode cX6_rename 14 = .ok (.ifCond .eq 5, 3) := by decide +kernel
theorem dX6_rename_17 : decode cX6_rename 17 = .ok (.iconst 0, 1) := by decide +kernel
theorem dX6_rename_18 : decode cX6_rename 18 = .ok (.ireturn, 1) := by decide +kernel
theorem dX6_rename_19 : decode cX6_rename 19 = .ok (.aload_n 0, 1) := by decide +kernel
theorem dX6_rename_20 : decode cX6_rename 20 = .ok (.invokevirtual 72, 3) := by decide +kernel
theorem dX6_rename_23 : decode cX6_rename 23 = .ok (.aload_n 0, 1) := by decide +kernel
theorem dX6_rename_24 : decode cX6_rename 24 = .ok (.iload_n 1, 1) := by decide +kernel
theorem dX6_rename_25 : decode cX6_rename 25 = .ok (.iload_n 2, 1) := by decide +kernel
theorem dX6_rename_26 : decode cX6_rename 26 = .ok (.invokevirtual 95, 3) := by decide +kernel
theorem dX6_rename_29 : decode cX6_rename 29 = .ok (.aload_n 0, 1) := by decide +kernel
theorem dX6_rename_30 : decode cX6_rename 30 = .ok (.invokevirtual 44, 3) := by decide +kernel
theorem dX6_rename_33 : decode cX6_rename 33 = .ok (.ireturn, 1) := by decide +kernel
theorem dX6_rowOf_0 : decode cX6_rowOf 0 = .ok (.aload_n 0, 1) := by decide +kernel
theorem dX6_rowOf_1 : decode cX6_rowOf 1 = .ok (.getfield 7, 3) := by decide +kernel
theorem dX6_rowOf_4 : decode cX6_rowOf 4 = .ok (.sipush 250, 3) := by decide +kernel
theorem dX6_rowOf_7 : decode cX6_rowOf 7 = .ok (.bipush 10, 2) := by decide +kernel
theorem dX6_rowOf_9 : decode cX6_rowOf 9 = .ok (.iload_n 1, 1) := by decide +kernel
theorem dX6_rowOf_10 : decode cX6_rowOf 10 = .ok (.imul, 1) := by decide +kernel
theorem dX6_rowOf_11 : decode cX6_rowOf 11 = .ok (.iadd, 1) := by decide +kernel
theorem dX6_rowOf_12 : decode cX6_rowOf 12 = .ok (.iload_n 2, 1) := by decide +kernel
theorem dX6_rowOf_13 : decode cX6_rowOf 13 = .ok (.iadd, 1) := by decide +kernel
theorem dX6_rowOf_14 : decode cX6_rowOf 14 = .ok (.iaload, 1) := by decide +kernel
theorem dX6_rowOf_15 : decode cX6_rowOf 15 = .ok (.ireturn, 1) := by decide +kernel
theorem dX6_layRow_0 : decode cX6_layRow 0 = .ok (.aload_n 0, 1) := by decide +kernel
theorem dX6_layRow_1 : decode cX6_layRow 1 = .ok (.getfield 7, 3) := by decide +kernel
theorem dX6_layRow_4 : decode cX6_layRow 4 = .ok (.sipush 250, 3) := by decide +kernel
theorem dX6_layRow_7 : decode cX6_layRow 7 = .ok (.bipush 10, 2) := by decide +kernel
theorem dX6_layRow_9 : decode cX6_layRow 9 = .ok (.iload_n 1, 1) := by decide +kernel
theorem dX6_layRow_10 : decode cX6_layRow 10 = .ok (.imul, 1) := by decide +kernel
theorem dX6_layRow_11 : decode cX6_layRow 11 = .ok (.iadd, 1) := by decide +kernel
theorem dX6_layRow_12 : decode cX6_layRow 12 = .ok (.iload_n 2, 1) := by decide +kernel
theorem dX6_layRow_13 : decode cX6_layRow 13 = .ok (.iadd, 1) := by decide +kernel
theorem dX6_layRow_14 : decode cX6_layRow 14 = .ok (.iload_n 3, 1) := by decide +kernel
theorem dX6_layRow_15 : decode cX6_layRow 15 = .ok (.iastore, 1) := by decide +kernel
theorem dX6_layRow_16 : decode cX6_layRow 16 = .ok (.return_, 1) := by decide +kernel
theorem dX6_isRow_0 : decode cX6_isRow 0 = .ok (.iload_n 1, 1) := by decide +kernel
theorem dX6_isRow_1 : decode cX6_isRow 1 = .ok (.iconst 0, 1) := by decide +kernel
theorem dX6_isRow_2 : decode cX6_isRow 2 = .ok (.aload_n 0, 1) := by decide +kernel
theorem dX6_isRow_3 : decode cX6_isRow 3 = .ok (.getfield 7, 3) := by decide +kernel
theorem dX6_isRow_6 : decode cX6_isRow 6 = .ok (.iconst 2, 1) := by decide +kernel
theorem dX6_isRow_7 : decode cX6_isRow 7 = .ok (.iaload, 1) := by decide +kernel
theorem dX6_isRow_8 : decode cX6_isRow 8 = .ok (.iconst 1, 1) := by decide +kernel
theorem dX6_isRow_9 : decode cX6_isRow 9 = .ok (.isub, 1) := by decide +kernel
theorem dX6_isRow_10 : decode cX6_isRow 10 = .ok (.invokestatic 32, 3) := by decide +kernel
theorem dX6_isRow_13 : decode cX6_isRow 13 = .ok (.ireturn, 1) := by decide +kernel
theorem dX6_goesOver_0 : decode cX6_goesOver 0 = .ok (.aload_n 0, 1) := by decide +kernel
theorem dX6_goesOver_1 : decode cX6_goesOver 1 = .ok (.iload_n 1, 1) := by decide +kernel
theorem dX6_goesOver_2 : decode cX6_goesOver 2 = .ok (.bipush 18, 2) := by decide +kernel
theorem dX6_goesOver_4 : decode cX6_goesOver 4 = .ok (.invokevirtual 36, 3) := by decide +kernel
theorem dX6_goesOver_7 : decode cX6_goesOver 7 = .ok (.istore_n 2, 1) := by decide +kernel
theorem dX6_goesOver_8 : decode cX6_goesOver 8 = .ok (.aload_n 0, 1) := by decide +kernel
theorem dX6_goesOver_9 : decode cX6_goesOver 9 = .ok (.iload_n 1, 1) := by decide +kernel
theorem dX6_goesOver_10 : decode cX6_goesOver 10 = .ok (.bipush 19, 2) := by decide +kernel
theorem dX6_goesOver_12 : decode cX6_goesOver 12 = .ok (.invokevirtual 36, 3) := by decide +kernel
theorem dX6_goesOver_15 : decode cX6_goesOver 15 = .ok (.istore_n 3, 1) := by decide +kernel
theorem dX6_goesOver_16 : decode cX6_goesOver 16 = .ok (.aload_n 0, 1) := by decide +kernel
theorem dX6_goesOver_17 : decode cX6_goesOver 17 = .ok (.iload_n 1, 1) := by decide +kernel
theorem dX6_goesOver_18 : decode cX6_goesOver 18 = .ok (.bipush 17, 2) := by decide +kernel
theorem dX6_goesOver_20 : decode cX6_goesOver 20 = .ok (.invokevirtual 36, 3) := by decide +kernel
theorem dX6_goesOver_23 : decode cX6_goesOver 23 = .ok (.tableswitch 187 1 4 #[29, 52, 80, 138], 29) := by decide +kernel
theorem dX6_goesOver_52 : decode cX6_goesOver 52 = .ok (.aload_n 0, 1) := by decide +kernel
theorem dX6_goesOver_53 : decode cX6_goesOver 53 = .ok (.getfield 19, 3) := by decide +kernel
theorem dX6_goesOver_56 : decode cX6_goesOver 56 = .ok (.aload_n 0, 1) := by decide +kernel
theorem dX6_goesOver_57 : decode cX6_goesOver 57 = .ok (.getfield 98, 3) := by decide +kernel
theorem dX6_goesOver_60 : decode cX6_goesOver 60 = .ok (.iload_n 2, 1) := by decide +kernel
theorem dX6_goesOver_61 : decode cX6_goesOver 61 = .ok (.iastore, 1) := by decide +kernel
theorem dX6_goesOver_62 : decode cX6_goesOver 62 = .ok (.aload_n 0, 1) := by decide +kernel
theorem dX6_goesOver_63 : decode cX6_goesOver 63 = .ok (.dup, 1) := by decide +kernel
theorem dX6_goesOver_64 : decode cX6_goesOver 64 = .ok (.getfield 98, 3) := by decide +kernel
theorem dX6_goesOver_67 : decode cX6_goesOver 67 = .ok (.iconst 1, 1) := by decide +kernel
theorem dX6_goesOver_68 : decode cX6_goesOver 68 = .ok (.iadd, 1) := by decide +kernel
theorem dX6_goesOver_69 : decode cX6_goesOver 69 = .ok (.putfield 98, 3) := by decide +kernel
theorem dX6_goesOver_72 : decode cX6_goesOver 72 = .ok (.goto 138, 3) := by decide +kernel
theorem dX6_goesOver_75 : decode cX6_goesOver 75 = .ok (.aload_n 0, 1) := by decide +kernel
theorem dX6_goesOver_76 : decode cX6_goesOver 76 = .ok (.getfield 19, 3) := by decide +kernel
theorem dX6_goesOver_79 : decode cX6_goesOver 79 = .ok (.aload_n 0, 1) := by decide +kernel
theorem dX6_goesOver_80 : decode cX6_goesOver 80 = .ok (.getfield 98, 3) := by decide +kernel
theorem dX6_goesOver_83 : decode cX6_goesOver 83 = .ok (.aload_n 0, 1) := by decide +kernel
theorem dX6_goesOver_84 : decode cX6_goesOver 84 = .ok (.getfield 19, 3) := by decide +kernel
theorem dX6_goesOver_87 : decode cX6_goesOver 87 = .ok (.iload_n 2, 1) := by decide +kernel
theorem dX6_goesOver_88 : decode cX6_goesOver 88 = .ok (.iaload, 1) := by decide +kernel
theorem dX6_goesOver_89 : decode cX6_goesOver 89 = .ok (.iastore, 1) := by decide +kernel
theorem dX6_goesOver_90 : decode cX6_goesOver 90 = .ok (.aload_n 0, 1) := by decide +kernel
theorem dX6_goesOver_91 : decode cX6_goesOver 91 = .ok (.dup, 1) := by decide +kernel
theorem dX6_goesOver_92 : decode cX6_goesOver 92 = .ok (.getfield 98, 3) := by decide +kernel
theorem dX6_goesOver_95 : decode cX6_goesOver 95 = .ok (.iconst 1, 1) := by decide +kernel
theorem dX6_goesOver_96 : decode cX6_goesOver 96 = .ok (.iadd, 1) := by decide +kernel
theorem dX6_goesOver_97 : decode cX6_goesOver 97 = .ok (.putfield 98, 3) := by decide +kernel
theorem dX6_goesOver_100 : decode cX6_goesOver 100 = .ok (.goto 110, 3) := by decide +kernel
theorem dX6_goesOver_103 : decode cX6_goesOver 103 = .ok (.aload_n 0, 1) := by decide +kernel
theorem dX6_goesOver_104 : decode cX6_goesOver 104 = .ok (.getfield 19, 3) := by decide +kernel
theorem dX6_goesOver_107 : decode cX6_goesOver 107 = .ok (.aload_n 0, 1) := by decide +kernel
theorem dX6_goesOver_108 : decode cX6_goesOver 108 = .ok (.getfield 98, 3) := by decide +kernel
theorem dX6_goesOver_111 : decode cX6_goesOver 111 = .ok (.aload_n 0, 1) := by decide +kernel
theorem dX6_goesOver_112 : decode cX6_goesOver 112 = .ok (.getfield 19, 3) := by decide +kernel
theorem dX6_goesOver_115 : decode cX6_goesOver 115 = .ok (.iload_n 2, 1) := by decide +kernel
theorem dX6_goesOver_116 : decode cX6_goesOver 116 = .ok (.iaload, 1) := by decide +kernel
theorem dX6_goesOver_117 : decode cX6_goesOver 117 = .ok (.aload_n 0, 1) := by decide +kernel
theorem dX6_goesOver_118 : decode cX6_goesOver 118 = .ok (.getfield 19, 3) := by decide +kernel
theorem dX6_goesOver_121 : decode cX6_goesOver 121 = .ok (.iload_n 3, 1) := by decide +kernel
theorem dX6_goesOver_122 : decode cX6_goesOver 122 = .ok (.iaload, 1) := by decide +kernel
theorem dX6_goesOver_123 : decode cX6_goesOver 123 = .ok (.iadd, 1) := by decide +kernel
theorem dX6_goesOver_124 : decode cX6_goesOver 124 = .ok (.ldc 101, 2) := by decide +kernel
theorem dX6_goesOver_126 : decode cX6_goesOver 126 = .ok (.if_icmp .le 8, 3) := by decide +kernel
theorem dX6_goesOver_129 : decode cX6_goesOver 129 = .ok (.ldc 101, 2) := by decide +kernel
theorem dX6_goesOver_131 : decode cX6_goesOver 131 = .ok (.goto 16, 3) := by decide +kernel
theorem dX6_goesOver_134 : decode cX6_goesOver 134 = .ok (.aload_n 0, 1) := by decide +kernel
theorem dX6_goesOver_135 : decode cX6_goesOver 135 = .ok (.getfield 19, 3) := by decide +kernel
theorem dX6_goesOver_138 : decode cX6_goesOver 138 = .ok (.iload_n 2, 1) := by decide +kernel
theorem dX6_goesOver_139 : decode cX6_goesOver 139 = .ok (.iaload, 1) := by decide +kernel
theorem dX6_goesOver_140 : decode cX6_goesOver 140 = .ok (.aload_n 0, 1) := by decide +kernel
theorem dX6_goesOver_141 : decode cX6_goesOver 141 = .ok (.getfield 19, 3) := by decide +kernel
theorem dX6_goesOver_144 : decode cX6_goesOver 144 = .ok (.iload_n 3, 1) := by decide +kernel
theorem dX6_goesOver_145 : decode cX6_goesOver 145 = .ok (.iaload, 1) := by decide +kernel
theorem dX6_goesOver_146 : decode cX6_goesOver 146 = .ok (.iadd, 1) := by decide +kernel
theorem dX6_goesOver_147 : decode cX6_goesOver 147 = .ok (.iastore, 1) := by decide +kernel
theorem dX6_goesOver_148 : decode cX6_goesOver 148 = .ok (.aload_n 0, 1) := by decide +kernel
theorem dX6_goesOver_149 : decode cX6_goesOver 149 = .ok (.dup, 1) := by decide +kernel
theorem dX6_goesOver_150 : decode cX6_goesOver 150 = .ok (.getfield 98, 3) := by decide +kernel
theorem dX6_goesOver_153 : decode cX6_goesOver 153 = .ok (.iconst 1, 1) := by decide +kernel
theorem dX6_goesOver_154 : decode cX6_goesOver 154 = .ok (.iadd, 1) := by decide +kernel
theorem dX6_goesOver_155 : decode cX6_goesOver 155 = .ok (.putfield 98, 3) := by decide +kernel
theorem dX6_goesOver_158 : decode cX6_goesOver 158 = .ok (.goto 52, 3) := by decide +kernel
theorem dX6_goesOver_161 : decode cX6_goesOver 161 = .ok (.iload_n 2, 1) := by decide +kernel
theorem dX6_goesOver_162 : decode cX6_goesOver 162 = .ok (.istore 4, 2) := by decide +kernel
theorem dX6_goesOver_164 : decode cX6_goesOver 164 = .ok (.iload 4, 2) := by decide +kernel
theorem dX6_goesOver_166 : decode cX6_goesOver 166 = .ok (.aload_n 0, 1) := by decide +kernel
theorem dX6_goesOver_167 : decode cX6_goesOver 167 = .ok (.getfield 98, 3) := by decide +kernel
theorem dX6_goesOver_170 : decode cX6_goesOver 170 = .ok (.iconst 1, 1) := by decide +kernel
theorem dX6_goesOver_171 : decode cX6_goesOver 171 = .ok (.isub, 1) := by decide +kernel
theorem dX6_goesOver_172 : decode cX6_goesOver 172 = .ok (.if_icmp .ge 25, 3) := by decide +kernel
theorem dX6_goesOver_175 : decode cX6_goesOver 175 = .ok (.aload_n 0, 1) := by decide +kernel
theorem dX6_goesOver_176 : decode cX6_goesOver 176 = .ok (.getfield 19, 3) := by decide +kernel
theorem dX6_goesOver_179 : decode cX6_goesOver 179 = .ok (.iload 4, 2) := by decide +kernel
theorem dX6_goesOver_181 : decode cX6_goesOver 181 = .ok (.aload_n 0, 1) := by decide +kernel
theorem dX6_goesOver_182 : decode cX6_goesOver 182 = .ok (.getfield 19, 3) := by decide +kernel
theorem dX6_goesOver_185 : decode cX6_goesOver 185 = .ok (.iload 4, 2) := by decide +kernel
theorem dX6_goesOver_187 : decode cX6_goesOver 187 = .ok (.iconst 1, 1) := by decide +kernel
theorem dX6_goesOver_188 : decode cX6_goesOver 188 = .ok (.iadd, 1) := by decide +kernel
theorem dX6_goesOver_189 : decode cX6_goesOver 189 = .ok (.iaload, 1) := by decide +kernel
theorem dX6_goesOver_190 : decode cX6_goesOver 190 = .ok (.iastore, 1) := by decide +kernel
theorem dX6_goesOver_191 : decode cX6_goesOver 191 = .ok (.iinc 4 1, 3) := by decide +kernel
theorem dX6_goesOver_194 : decode cX6_goesOver 194 = .ok (.goto (-30), 3) := by decide +kernel
theorem dX6_goesOver_197 : decode cX6_goesOver 197 = .ok (.aload_n 0, 1) := by decide +kernel
theorem dX6_goesOver_198 : decode cX6_goesOver 198 = .ok (.dup, 1) := by decide +kernel
theorem dX6_goesOver_199 : decode cX6_goesOver 199 = .ok (.getfield 98, 3) := by decide +kernel
theorem dX6_goesOver_202 : decode cX6_goesOver 202 = .ok (.iconst 1, 1) := by decide +kernel
theorem dX6_goesOver_203 : decode cX6_goesOver 203 = .ok (.isub, 1) := by decide +kernel
theorem dX6_goesOver_204 : decode cX6_goesOver 204 = .ok (.putfield 98, 3) := by decide +kernel
theorem dX6_goesOver_207 : decode cX6_goesOver 207 = .ok (.goto 3, 3) := by decide +kernel
theorem dX6_goesOver_210 : decode cX6_goesOver 210 = .ok (.return_, 1) := by decide +kernel
theorem dX6_goesBack_0 : decode cX6_goesBack 0 = .ok (.aload_n 0, 1) := by decide +kernel
theorem dX6_goesBack_1 : decode cX6_goesBack 1 = .ok (.iload_n 1, 1) := by decide +kernel
theorem dX6_goesBack_2 : decode cX6_goesBack 2 = .ok (.bipush 17, 2) := by decide +kernel
theorem dX6_goesBack_4 : decode cX6_goesBack 4 = .ok (.invokevirtual 36, 3) := by decide +kernel
theorem dX6_goesBack_7 : decode cX6_goesBack 7 = .ok (.istore_n 2, 1) := by decide +kernel
theorem dX6_goesBack_8 : decode cX6_goesBack 8 = .ok (.iload_n 2, 1) := by decide +kernel
theorem dX6_goesBack_9 : decode cX6_goesBack 9 = .ok (.iconst 4, 1) := by decide +kernel
theorem dX6_goesBack_10 : decode cX6_goesBack 10 = .ok (.if_icmp .ge 16, 3) := by decide +kernel
theorem dX6_goesBack_13 : decode cX6_goesBack 13 = .ok (.aload_n 0, 1) := by decide +kernel
theorem dX6_goesBack_14 : decode cX6_goesBack 14 = .ok (.dup, 1) := by decide +kernel
theorem dX6_goesBack_15 : decode cX6_goesBack 15 = .ok (.getfield 98, 3) := by decide +kernel
theorem dX6_goesBack_18 : decode cX6_goesBack 18 = .ok (.iconst 1, 1) := by decide +kernel
theorem dX6_goesBack_19 : decode cX6_goesBack 19 = .ok (.isub, 1) := by decide +kernel
theorem dX6_goesBack_20 : decode cX6_goesBack 20 = .ok (.putfield 98, 3) := by decide +kernel
theorem dX6_goesBack_23 : decode cX6_goesBack 23 = .ok (.goto 73, 3) := by decide +kernel
theorem dX6_goesBack_26 : decode cX6_goesBack 26 = .ok (.iload_n 2, 1) := by decide +kernel
theorem dX6_goesBack_27 : decode cX6_goesBack 27 = .ok (.iconst 4, 1) := by decide +kernel
theorem dX6_goesBack_28 : decode cX6_goesBack 28 = .ok (.if_icmp .ne 68, 3) := by decide +kernel
theorem dX6_goesBack_31 : decode cX6_goesBack 31 = .ok (.aload_n 0, 1) := by decide +kernel
theorem dX6_goesBack_32 : decode cX6_goesBack 32 = .ok (.getfield 98, 3) := by decide +kernel
theorem dX6_goesBack_35 : decode cX6_goesBack 35 = .ok (.istore_n 3, 1) := by decide +kernel
theorem dX6_goesBack_36 : decode cX6_goesBack 36 = .ok (.iload_n 3, 1) := by decide +kernel
theorem dX6_goesBack_37 : decode cX6_goesBack 37 = .ok (.aload_n 0, 1) := by decide +kernel
theorem dX6_goesBack_38 : decode cX6_goesBack 38 = .ok (.iload_n 1, 1) := by decide +kernel
theorem dX6_goesBack_39 : decode cX6_goesBack 39 = .ok (.bipush 18, 2) := by decide +kernel
theorem dX6_goesBack_41 : decode cX6_goesBack 41 = .ok (.invokevirtual 36, 3) := by decide +kernel
theorem dX6_goesBack_44 : decode cX6_goesBack 44 = .ok (.if_icmp .le 23, 3) := by decide +kernel
theorem dX6_goesBack_47 : decode cX6_goesBack 47 = .ok (.aload_n 0, 1) := by decide +kernel
theorem dX6_goesBack_48 : decode cX6_goesBack 48 = .ok (.getfield 19, 3) := by decide +kernel
theorem dX6_goesBack_51 : decode cX6_goesBack 51 = .ok (.iload_n 3, 1) := by decide +kernel
theorem dX6_goesBack_52 : decode cX6_goesBack 52 = .ok (.aload_n 0, 1) := by decide +kernel
theorem dX6_goesBack_53 : decode cX6_goesBack 53 = .ok (.getfield 19, 3) := by decide +kernel
theorem dX6_goesBack_56 : decode cX6_goesBack 56 = .ok (.iload_n 3, 1) := by decide +kernel
theorem dX6_goesBack_57 : decode cX6_goesBack 57 = .ok (.iconst 1, 1) := by decide +kernel
theorem dX6_goesBack_58 : decode cX6_goesBack 58 = .ok (.isub, 1) := by decide +kernel
theorem dX6_goesBack_59 : decode cX6_goesBack 59 = .ok (.iaload, 1) := by decide +kernel
theorem dX6_goesBack_60 : decode cX6_goesBack 60 = .ok (.iastore, 1) := by decide +kernel
theorem dX6_goesBack_61 : decode cX6_goesBack 61 = .ok (.iinc 3 (-1), 3) := by decide +kernel
theorem dX6_goesBack_64 : decode cX6_goesBack 64 = .ok (.goto (-28), 3) := by decide +kernel
theorem dX6_goesBack_67 : decode cX6_goesBack 67 = .ok (.aload_n 0, 1) := by decide +kernel
theorem dX6_goesBack_68 : decode cX6_goesBack 68 = .ok (.getfield 19, 3) := by decide +kernel
theorem dX6_goesBack_71 : decode cX6_goesBack 71 = .ok (.aload_n 0, 1) := by decide +kernel
theorem dX6_goesBack_72 : decode cX6_goesBack 72 = .ok (.iload_n 1, 1) := by decide +kernel
theorem dX6_goesBack_73 : decode cX6_goesBack 73 = .ok (.bipush 18, 2) := by decide +kernel
theorem dX6_goesBack_75 : decode cX6_goesBack 75 = .ok (.invokevirtual 36, 3) := by decide +kernel
theorem dX6_goesBack_78 : decode cX6_goesBack 78 = .ok (.aload_n 0, 1) := by decide +kernel
theorem dX6_goesBack_79 : decode cX6_goesBack 79 = .ok (.iload_n 1, 1) := by decide +kernel
theorem dX6_goesBack_80 : decode cX6_goesBack 80 = .ok (.bipush 19, 2) := by decide +kernel
theorem dX6_goesBack_82 : decode cX6_goesBack 82 = .ok (.invokevirtual 36, 3) := by decide +kernel
theorem dX6_goesBack_85 : decode cX6_goesBack 85 = .ok (.iastore, 1) := by decide +kernel
theorem dX6_goesBack_86 : decode cX6_goesBack 86 = .ok (.aload_n 0, 1) := by decide +kernel
theorem dX6_goesBack_87 : decode cX6_goesBack 87 = .ok (.dup, 1) := by decide +kernel
theorem dX6_goesBack_88 : decode cX6_goesBack 88 = .ok (.getfield 98, 3) := by decide +kernel
theorem dX6_goesBack_91 : decode cX6_goesBack 91 = .ok (.iconst 1, 1) := by decide +kernel
theorem dX6_goesBack_92 : decode cX6_goesBack 92 = .ok (.iadd, 1) := by decide +kernel
theorem dX6_goesBack_93 : decode cX6_goesBack 93 = .ok (.putfield 98, 3) := by decide +kernel
theorem dX6_goesBack_96 : decode cX6_goesBack 96 = .ok (.return_, 1) := by decide +kernel
theorem dX6_goes_0 : decode cX6_goes 0 = .ok (.iload_n 1, 1) := by decide +kernel
theorem dX6_goes_1 : decode cX6_goes 1 = .ok (.iconst 1, 1) := by decide +kernel
theorem dX6_goes_2 : decode cX6_goes 2 = .ok (.iadd, 1) := by decide +kernel
theorem dX6_goes_3 : decode cX6_goes 3 = .ok (.istore_n 3, 1) := by decide +kernel
theorem dX6_goes_4 : decode cX6_goes 4 = .ok (.iload_n 3, 1) := by decide +kernel
theorem dX6_goes_5 : decode cX6_goes 5 = .ok (.iload_n 2, 1) := by decide +kernel
theorem dX6_goes_6 : decode cX6_goes 6 = .ok (.if_icmp .gt 14, 3) := by decide +kernel
theorem dX6_goes_9 : decode cX6_goes 9 = .ok (.aload_n 0, 1) := by decide +kernel
theorem dX6_goes_10 : decode cX6_goes 10 = .ok (.iload_n 3, 1) := by decide +kernel
theorem dX6_goes_11 : decode cX6_goes 11 = .ok (.invokevirtual 102, 3) := by decide +kernel
theorem dX6_goes_14 : decode cX6_goes 14 = .ok (.iinc 3 1, 3) := by decide +kernel
theorem dX6_goes_17 : decode cX6_goes 17 = .ok (.goto (-13), 3) := by decide +kernel
theorem dX6_goes_20 : decode cX6_goes 20 = .ok (.iload_n 1, 1) := by decide +kernel
theorem dX6_goes_21 : decode cX6_goes 21 = .ok (.istore_n 3, 1) := by decide +kernel
theorem dX6_goes_22 : decode cX6_goes 22 = .ok (.iload_n 3, 1) := by decide +kernel
theorem dX6_goes_23 : decode cX6_goes 23 = .ok (.iload_n 2, 1) := by decide +kernel
theorem dX6_goes_24 : decode cX6_goes 24 = .ok (.if_icmp .le 14, 3) := by decide +kernel
theorem dX6_goes_27 : decode cX6_goes 27 = .ok (.aload_n 0, 1) := by decide +kernel
theorem dX6_goes_28 : decode cX6_goes 28 = .ok (.iload_n 3, 1) := by decide +kernel
theorem dX6_goes_29 : decode cX6_goes 29 = .ok (.invokevirtual 105, 3) := by decide +kernel
theorem dX6_goes_32 : decode cX6_goes 32 = .ok (.iinc 3 (-1), 3) := by decide +kernel
theorem dX6_goes_35 : decode cX6_goes 35 = .ok (.goto (-13), 3) := by decide +kernel
theorem dX6_goes_38 : decode cX6_goes 38 = .ok (.return_, 1) := by decide +kernel
theorem dX6_reads_0 : decode cX6_reads 0 = .ok (.aload_n 0, 1) := by decide +kernel
theorem dX6_reads_1 : decode cX6_reads 1 = .ok (.aload_n 0, 1) := by decide +kernel
theorem dX6_reads_2 : decode cX6_reads 2 = .ok (.aload_n 0, 1) := by decide +kernel
theorem dX6_reads_3 : decode cX6_reads 3 = .ok (.iload_n 1, 1) := by decide +kernel
theorem dX6_reads_4 : decode cX6_reads 4 = .ok (.iconst 0, 1) := by decide +kernel
theorem dX6_reads_5 : decode cX6_reads 5 = .ok (.invokevirtual 108, 3) := by decide +kernel
theorem dX6_reads_8 : decode cX6_reads 8 = .ok (.iconst 0, 1) := by decide +kernel
theorem dX6_reads_9 : decode cX6_reads 9 = .ok (.invokevirtual 36, 3) := by decide +kernel
theorem dX6_reads_12 : decode cX6_reads 12 = .ok (.putfield 98, 3) := by decide +kernel
theorem dX6_reads_15 : decode cX6_reads 15 = .ok (.iconst 0, 1) := by decide +kernel
theorem dX6_reads_16 : decode cX6_reads 16 = .ok (.istore_n 3, 1) := by decide +kernel
theorem dX6_reads_17 : decode cX6_reads 17 = .ok (.iload_n 3, 1) := by decide +kernel
theorem dX6_reads_18 : decode cX6_reads 18 = .ok (.aload_n 0, 1) := by decide +kernel
theorem dX6_reads_19 : decode cX6_reads 19 = .ok (.getfield 98, 3) := by decide +kernel
theorem dX6_reads_22 : decode cX6_reads 22 = .ok (.if_icmp .ge 23, 3) := by decide +kernel
theorem dX6_reads_25 : decode cX6_reads 25 = .ok (.aload_n 0, 1) := by decide +kernel
theorem dX6_reads_26 : decode cX6_reads 26 = .ok (.getfield 19, 3) := by decide +kernel
theorem dX6_reads_29 : decode cX6_reads 29 = .ok (.iload_n 3, 1) := by decide +kernel
theorem dX6_reads_30 : decode cX6_reads 30 = .ok (.aload_n 0, 1) := by decide +kernel
theorem dX6_reads_31 : decode cX6_reads 31 = .ok (.iload_n 1, 1) := by decide +kernel
theorem dX6_reads_32 : decode cX6_reads 32 = .ok (.iconst 2, 1) := by decide +kernel
theorem dX6_reads_33 : decode cX6_reads 33 = .ok (.iload_n 3, 1) := by decide +kernel
theorem dX6_reads_34 : decode cX6_reads 34 = .ok (.iadd, 1) := by decide +kernel
theorem dX6_reads_35 : decode cX6_reads 35 = .ok (.invokevirtual 108, 3) := by decide +kernel
theorem dX6_reads_38 : decode cX6_reads 38 = .ok (.iastore, 1) := by decide +kernel
theorem dX6_reads_39 : decode cX6_reads 39 = .ok (.iinc 3 1, 3) := by decide +kernel
theorem dX6_reads_42 : decode cX6_reads 42 = .ok (.goto (-25), 3) := by decide +kernel
theorem dX6_reads_45 : decode cX6_reads 45 = .ok (.aload_n 0, 1) := by decide +kernel
theorem dX6_reads_46 : decode cX6_reads 46 = .ok (.aload_n 0, 1) := by decide +kernel
theorem dX6_reads_47 : decode cX6_reads 47 = .ok (.iload_n 1, 1) := by decide +kernel
theorem dX6_reads_48 : decode cX6_reads 48 = .ok (.iconst 0, 1) := by decide +kernel
theorem dX6_reads_49 : decode cX6_reads 49 = .ok (.invokevirtual 108, 3) := by decide +kernel
theorem dX6_reads_52 : decode cX6_reads 52 = .ok (.iload_n 2, 1) := by decide +kernel
theorem dX6_reads_53 : decode cX6_reads 53 = .ok (.invokevirtual 111, 3) := by decide +kernel
theorem dX6_reads_56 : decode cX6_reads 56 = .ok (.return_, 1) := by decide +kernel
theorem dX6_rewrites_0 : decode cX6_rewrites 0 = .ok (.aload_n 0, 1) := by decide +kernel
theorem dX6_rewrites_1 : decode cX6_rewrites 1 = .ok (.iload_n 1, 1) := by decide +kernel
theorem dX6_rewrites_2 : decode cX6_rewrites 2 = .ok (.iload_n 2, 1) := by decide +kernel
theorem dX6_rewrites_3 : decode cX6_rewrites 3 = .ok (.invokevirtual 114, 3) := by decide +kernel
theorem dX6_rewrites_6 : decode cX6_rewrites 6 = .ok (.iconst 0, 1) := by decide +kernel
theorem dX6_rewrites_7 : decode cX6_rewrites 7 = .ok (.istore_n 3, 1) := by decide +kernel
theorem dX6_rewrites_8 : decode cX6_rewrites 8 = .ok (.iload_n 3, 1) := by decide +kernel
theorem dX6_rewrites_9 : decode cX6_rewrites 9 = .ok (.bipush 8, 2) := by decide +kernel
theorem dX6_rewrites_11 : decode cX6_rewrites 11 = .ok (.if_icmp .ge 35, 3) := by decide +kernel
theorem dX6_rewrites_14 : decode cX6_rewrites 14 = .ok (.aload_n 0, 1) := by decide +kernel
theorem dX6_rewrites_15 : decode cX6_rewrites 15 = .ok (.iload_n 1, 1) := by decide +kernel
theorem dX6_rewrites_16 : decode cX6_rewrites 16 = .ok (.iconst 2, 1) := by decide +kernel
theorem dX6_rewrites_17 : decode cX6_rewrites 17 = .ok (.iload_n 3, 1) := by decide +kernel
theorem dX6_rewrites_18 : decode cX6_rewrites 18 = .ok (.iadd, 1) := by decide +kernel
theorem dX6_rewrites_19 : decode cX6_rewrites 19 = .ok (.iload_n 3, 1) := by decide +kernel
theorem dX6_rewrites_20 : decode cX6_rewrites 20 = .ok (.aload_n 0, 1) := by decide +kernel
theorem dX6_rewrites_21 : decode cX6_rewrites 21 = .ok (.getfield 98, 3) := by decide +kernel
theorem dX6_rewrites_24 : decode cX6_rewrites 24 = .ok (.if_icmp .ge 12, 3) := by decide +kernel
theorem dX6_rewrites_27 : decode cX6_rewrites 27 = .ok (.aload_n 0, 1) := by decide +kernel
theorem dX6_rewrites_28 : decode cX6_rewrites 28 = .ok (.getfield 19, 3) := by decide +kernel
theorem dX6_rewrites_31 : decode cX6_rewrites 31 = .ok (.iload_n 3, 1) := by decide +kernel
theorem dX6_rewrites_32 : decode cX6_rewrites 32 = .ok (.iaload, 1) := by decide +kernel
theorem dX6_rewrites_33 : decode cX6_rewrites 33 = .ok (.goto 4, 3) := by decide +kernel
theorem dX6_rewrites_36 : decode cX6_rewrites 36 = .ok (.iconst 0, 1) := by decide +kernel
theorem dX6_rewrites_37 : decode cX6_rewrites 37 = .ok (.invokevirtual 117, 3) := by decide +kernel
theorem dX6_rewrites_40 : decode cX6_rewrites 40 = .ok (.iinc 3 1, 3) := by decide +kernel
theorem dX6_rewrites_43 : decode cX6_rewrites 43 = .ok (.goto (-35), 3) := by decide +kernel
theorem dX6_rewrites_46 : decode cX6_rewrites 46 = .ok (.aload_n 0, 1) := by decide +kernel
theorem dX6_rewrites_47 : decode cX6_rewrites 47 = .ok (.iload_n 1, 1) := by decide +kernel
theorem dX6_rewrites_48 : decode cX6_rewrites 48 = .ok (.iconst 0, 1) := by decide +kernel
theorem dX6_rewrites_49 : decode cX6_rewrites 49 = .ok (.iload_n 2, 1) := by decide +kernel
theorem dX6_rewrites_50 : decode cX6_rewrites 50 = .ok (.invokevirtual 117, 3) := by decide +kernel
theorem dX6_rewrites_53 : decode cX6_rewrites 53 = .ok (.aload_n 0, 1) := by decide +kernel
theorem dX6_rewrites_54 : decode cX6_rewrites 54 = .ok (.iload_n 1, 1) := by decide +kernel
theorem dX6_rewrites_55 : decode cX6_rewrites 55 = .ok (.iconst 1, 1) := by decide +kernel
theorem dX6_rewrites_56 : decode cX6_rewrites 56 = .ok (.aload_n 0, 1) := by decide +kernel
theorem dX6_rewrites_57 : decode cX6_rewrites 57 = .ok (.iload_n 1, 1) := by decide +kernel
theorem dX6_rewrites_58 : decode cX6_rewrites 58 = .ok (.iconst 1, 1) := by decide +kernel
theorem dX6_rewrites_59 : decode cX6_rewrites 59 = .ok (.invokevirtual 108, 3) := by decide +kernel
theorem dX6_rewrites_62 : decode cX6_rewrites 62 = .ok (.iconst 1, 1) := by decide +kernel
theorem dX6_rewrites_63 : decode cX6_rewrites 63 = .ok (.iadd, 1) := by decide +kernel
theorem dX6_rewrites_64 : decode cX6_rewrites 64 = .ok (.invokevirtual 117, 3) := by decide +kernel
theorem dX6_rewrites_67 : decode cX6_rewrites 67 = .ok (.aload_n 0, 1) := by decide +kernel
theorem dX6_rewrites_68 : decode cX6_rewrites 68 = .ok (.getfield 7, 3) := by decide +kernel
theorem dX6_rewrites_71 : decode cX6_rewrites 71 = .ok (.iconst 4, 1) := by decide +kernel
theorem dX6_rewrites_72 : decode cX6_rewrites 72 = .ok (.dup2, 1) := by decide +kernel
theorem dX6_rewrites_73 : decode cX6_rewrites 73 = .ok (.iaload, 1) := by decide +kernel
theorem dX6_rewrites_74 : decode cX6_rewrites 74 = .ok (.iconst 1, 1) := by decide +kernel
theorem dX6_rewrites_75 : decode cX6_rewrites 75 = .ok (.iadd, 1) := by decide +kernel
theorem dX6_rewrites_76 : decode cX6_rewrites 76 = .ok (.iastore, 1) := by decide +kernel
theorem dX6_rewrites_77 : decode cX6_rewrites 77 = .ok (.return_, 1) := by decide +kernel
theorem dX6_inserts_0 : decode cX6_inserts 0 = .ok (.iconst 0, 1) := by decide +kernel
theorem dX6_inserts_1 : decode cX6_inserts 1 = .ok (.istore_n 2, 1) := by decide +kernel
theorem dX6_inserts_2 : decode cX6_inserts 2 = .ok (.iload_n 2, 1) := by decide +kernel
theorem dX6_inserts_3 : decode cX6_inserts 3 = .ok (.bipush 10, 2) := by decide +kernel
theorem dX6_inserts_5 : decode cX6_inserts 5 = .ok (.if_icmp .ge 21, 3) := by decide +kernel
theorem dX6_inserts_8 : decode cX6_inserts 8 = .ok (.aload_n 0, 1) := by decide +kernel
theorem dX6_inserts_9 : decode cX6_inserts 9 = .ok (.aload_n 0, 1) := by decide +kernel
theorem dX6_inserts_10 : decode cX6_inserts 10 = .ok (.getfield 7, 3) := by decide +kernel
theorem dX6_inserts_13 : decode cX6_inserts 13 = .ok (.iconst 2, 1) := by decide +kernel
theorem dX6_inserts_14 : decode cX6_inserts 14 = .ok (.iaload, 1) := by decide +kernel
theorem dX6_inserts_15 : decode cX6_inserts 15 = .ok (.iload_n 2, 1) := by decide +kernel
theorem dX6_inserts_16 : decode cX6_inserts 16 = .ok (.iconst 0, 1) := by decide +kernel
theorem dX6_inserts_17 : decode cX6_inserts 17 = .ok (.invokevirtual 117, 3) := by decide +kernel
theorem dX6_inserts_20 : decode cX6_inserts 20 = .ok (.iinc 2 1, 3) := by decide +kernel
theorem dX6_inserts_23 : decode cX6_inserts 23 = .ok (.goto (-21), 3) := by decide +kernel
theorem dX6_inserts_26 : decode cX6_inserts 26 = .ok (.aload_n 0, 1) := by decide +kernel
theorem dX6_inserts_27 : decode cX6_inserts 27 = .ok (.aload_n 0, 1) := by decide +kernel
theorem dX6_inserts_28 : decode cX6_inserts 28 = .ok (.getfield 7, 3) := by decide +kernel
theorem dX6_inserts_31 : decode cX6_inserts 31 = .ok (.iconst 2, 1) := by decide +kernel
theorem dX6_inserts_32 : decode cX6_inserts 32 = .ok (.iaload, 1) := by decide +kernel
theorem dX6_inserts_33 : decode cX6_inserts 33 = .ok (.iconst 0, 1) := by decide +kernel
theorem dX6_inserts_34 : decode cX6_inserts 34 = .ok (.iload_n 1, 1) := by decide +kernel
theorem dX6_inserts_35 : decode cX6_inserts 35 = .ok (.invokevirtual 117, 3) := by decide +kernel
theorem dX6_inserts_38 : decode cX6_inserts 38 = .ok (.aload_n 0, 1) := by decide +kernel
theorem dX6_inserts_39 : decode cX6_inserts 39 = .ok (.getfield 7, 3) := by decide +kernel
theorem dX6_inserts_42 : decode cX6_inserts 42 = .ok (.iconst 2, 1) := by decide +kernel
theorem dX6_inserts_43 : decode cX6_inserts 43 = .ok (.dup2, 1) := by decide +kernel
theorem dX6_inserts_44 : decode cX6_inserts 44 = .ok (.iaload, 1) := by decide +kernel
theorem dX6_inserts_45 : decode cX6_inserts 45 = .ok (.iconst 1, 1) := by decide +kernel
theorem dX6_inserts_46 : decode cX6_inserts 46 = .ok (.iadd, 1) := by decide +kernel
theorem dX6_inserts_47 : decode cX6_inserts 47 = .ok (.iastore, 1) := by decide +kernel
theorem dX6_inserts_48 : decode cX6_inserts 48 = .ok (.return_, 1) := by decide +kernel
theorem dX6_insert_0 : decode cX6_insert 0 = .ok (.aload_n 0, 1) := by decide +kernel
theorem dX6_insert_1 : decode cX6_insert 1 = .ok (.iconst 0, 1) := by decide +kernel
theorem dX6_insert_2 : decode cX6_insert 2 = .ok (.putfield 25, 3) := by decide +kernel
theorem dX6_insert_5 : decode cX6_insert 5 = .ok (.aload_n 0, 1) := by decide +kernel
theorem dX6_insert_6 : decode cX6_insert 6 = .ok (.getfield 7, 3) := by decide +kernel
theorem dX6_insert_9 : decode cX6_insert 9 = .ok (.iconst 2, 1) := by decide +kernel
theorem dX6_insert_10 : decode cX6_insert 10 = .ok (.iaload, 1) := by decide +kernel
theorem dX6_insert_11 : decode cX6_insert 11 = .ok (.bipush 12, 2) := by decide +kernel
theorem dX6_insert_13 : decode cX6_insert 13 = .ok (.if_icmp .ne 9, 3) := by decide +kernel
theorem dX6_insert_16 : decode cX6_insert 16 = .ok (.aload_n 0, 1) := by decide +kernel
theorem dX6_insert_17 : decode cX6_insert 17 = .ok (.iconst 1, 1) := by decide +kernel
theorem dX6_insert_18 : decode cX6_insert 18 = .ok (.invokevirtual 120, 3) := by decide +kernel
theorem dX6_insert_21 : decode cX6_insert 21 = .ok (.ireturn, 1) := by decide +kernel
theorem dX6_insert_22 : decode cX6_insert 22 = .ok (.aload_n 0, 1) := by decide +kernel
theorem dX6_insert_23 : decode cX6_insert 23 = .ok (.invokevirtual 72, 3) := by decide +kernel
theorem dX6_insert_26 : decode cX6_insert 26 = .ok (.aload_n 0, 1) := by decide +kernel
theorem dX6_insert_27 : decode cX6_insert 27 = .ok (.aload_n 0, 1) := by decide +kernel
theorem dX6_insert_28 : decode cX6_insert 28 = .ok (.invokevirtual 44, 3) := by decide +kernel
theorem dX6_insert_31 : decode cX6_insert 31 = .ok (.invokevirtual 124, 3) := by decide +kernel
theorem dX6_insert_34 : decode cX6_insert 34 = .ok (.aload_n 0, 1) := by decide +kernel
theorem dX6_insert_35 : decode cX6_insert 35 = .ok (.getfield 7, 3) := by decide +kernel
theorem dX6_insert_38 : decode cX6_insert 38 = .ok (.iconst 2, 1) := by decide +kernel
theorem dX6_insert_39 : decode cX6_insert 39 = .ok (.iaload, 1) := by decide +kernel
theorem dX6_insert_40 : decode cX6_insert 40 = .ok (.iconst 1, 1) := by decide +kernel
theorem dX6_insert_41 : decode cX6_insert 41 = .ok (.isub, 1) := by decide +kernel
theorem dX6_insert_42 : decode cX6_insert 42 = .ok (.ireturn, 1) := by decide +kernel
theorem dX6_insertBy_0 : decode cX6_insertBy 0 = .ok (.aload_n 0, 1) := by decide +kernel
theorem dX6_insertBy_1 : decode cX6_insertBy 1 = .ok (.iconst 0, 1) := by decide +kernel
theorem dX6_insertBy_2 : decode cX6_insertBy 2 = .ok (.putfield 25, 3) := by decide +kernel
theorem dX6_insertBy_5 : decode cX6_insertBy 5 = .ok (.aload_n 0, 1) := by decide +kernel
theorem dX6_insertBy_6 : decode cX6_insertBy 6 = .ok (.iload_n 1, 1) := by decide +kernel
theorem dX6_insertBy_7 : decode cX6_insertBy 7 = .ok (.invokevirtual 127, 3) := by decide +kernel
theorem dX6_insertBy_10 : decode cX6_insertBy 10 = .ok (.ifCond .ne 9, 3) := by decide +kernel
theorem dX6_insertBy_13 : decode cX6_insertBy 13 = .ok (.aload_n 0, 1) := by decide +kernel
theorem dX6_insertBy_14 : decode cX6_insertBy 14 = .ok (.iconst 1, 1) := by decide +kernel
theorem dX6_insertBy_15 : decode cX6_insertBy 15 = .ok (.invokevirtual 120, 3) := by decide +kernel
theorem dX6_insertBy_18 : decode cX6_insertBy 18 = .ok (.ireturn, 1) := by decide +kernel
theorem dX6_insertBy_19 : decode cX6_insertBy 19 = .ok (.aload_n 0, 1) := by decide +kernel
theorem dX6_insertBy_20 : decode cX6_insertBy 20 = .ok (.getfield 7, 3) := by decide +kernel
theorem dX6_insertBy_23 : decode cX6_insertBy 23 = .ok (.iconst 2, 1) := by decide +kernel
theorem dX6_insertBy_24 : decode cX6_insertBy 24 = .ok (.iaload, 1) := by decide +kernel
theorem dX6_insertBy_25 : decode cX6_insertBy 25 = .ok (.bipush 12, 2) := by decide +kernel
theorem dX6_insertBy_27 : decode cX6_insertBy 27 = .ok (.if_icmp .ne 9, 3) := by decide +kernel
theorem dX6_insertBy_30 : decode cX6_insertBy 30 = .ok (.aload_n 0, 1) := by decide +kernel
theorem dX6_insertBy_31 : decode cX6_insertBy 31 = .ok (.iconst 2, 1) := by decide +kernel
theorem dX6_insertBy_32 : decode cX6_insertBy 32 = .ok (.invokevirtual 120, 3) := by decide +kernel
theorem dX6_insertBy_35 : decode cX6_insertBy 35 = .ok (.ireturn, 1) := by decide +kernel
theorem dX6_insertBy_36 : decode cX6_insertBy 36 = .ok (.aload_n 0, 1) := by decide +kernel
theorem dX6_insertBy_37 : decode cX6_insertBy 37 = .ok (.invokevirtual 72, 3) := by decide +kernel
theorem dX6_insertBy_40 : decode cX6_insertBy 40 = .ok (.aload_n 0, 1) := by decide +kernel
theorem dX6_insertBy_41 : decode cX6_insertBy 41 = .ok (.iload_n 1, 1) := by decide +kernel
theorem dX6_insertBy_42 : decode cX6_insertBy 42 = .ok (.invokevirtual 124, 3) := by decide +kernel
theorem dX6_insertBy_45 : decode cX6_insertBy 45 = .ok (.aload_n 0, 1) := by decide +kernel
theorem dX6_insertBy_46 : decode cX6_insertBy 46 = .ok (.getfield 7, 3) := by decide +kernel
theorem dX6_insertBy_49 : decode cX6_insertBy 49 = .ok (.iconst 2, 1) := by decide +kernel
theorem dX6_insertBy_50 : decode cX6_insertBy 50 = .ok (.iaload, 1) := by decide +kernel
theorem dX6_insertBy_51 : decode cX6_insertBy 51 = .ok (.iconst 1, 1) := by decide +kernel
theorem dX6_insertBy_52 : decode cX6_insertBy 52 = .ok (.isub, 1) := by decide +kernel
theorem dX6_insertBy_53 : decode cX6_insertBy 53 = .ok (.ireturn, 1) := by decide +kernel
theorem dX6_isAgainst_0 : decode cX6_isAgainst 0 = .ok (.aload_n 0, 1) := by decide +kernel
theorem dX6_isAgainst_1 : decode cX6_isAgainst 1 = .ok (.iload_n 2, 1) := by decide +kernel
theorem dX6_isAgainst_2 : decode cX6_isAgainst 2 = .ok (.iload_n 3, 1) := by decide +kernel
theorem dX6_isAgainst_3 : decode cX6_isAgainst 3 = .ok (.invokevirtual 48, 3) := by decide +kernel
theorem dX6_isAgainst_6 : decode cX6_isAgainst 6 = .ok (.istore 4, 2) := by decide +kernel
theorem dX6_isAgainst_8 : decode cX6_isAgainst 8 = .ok (.iload 4, 2) := by decide +kernel
theorem dX6_isAgainst_10 : decode cX6_isAgainst 10 = .ok (.iconst (-1), 1) := by decide +kernel
theorem dX6_isAgainst_11 : decode cX6_isAgainst 11 = .ok (.if_icmp .ne 5, 3) := by decide +kernel
theorem dX6_isAgainst_14 : decode cX6_isAgainst 14 = .ok (.iconst 1, 1) := by decide +kernel
theorem dX6_isAgainst_15 : decode cX6_isAgainst 15 = .ok (.ireturn, 1) := by decide +kernel
theorem dX6_isAgainst_16 : decode cX6_isAgainst 16 = .ok (.aload_n 0, 1) := by decide +kernel
theorem dX6_isAgainst_17 : decode cX6_isAgainst 17 = .ok (.iload_n 1, 1) := by decide +kernel
theorem dX6_isAgainst_18 : decode cX6_isAgainst 18 = .ok (.iconst 0, 1) := by decide +kernel
theorem dX6_isAgainst_19 : decode cX6_isAgainst 19 = .ok (.invokevirtual 108, 3) := by decide +kernel
theorem dX6_isAgainst_22 : decode cX6_isAgainst 22 = .ok (.istore 5, 2) := by decide +kernel
theorem dX6_isAgainst_24 : decode cX6_isAgainst 24 = .ok (.aload_n 0, 1) := by decide +kernel
theorem dX6_isAgainst_25 : decode cX6_isAgainst 25 = .ok (.iload 5, 2) := by decide +kernel
theorem dX6_isAgainst_27 : decode cX6_isAgainst 27 = .ok (.aload_n 0, 1) := by decide +kernel
theorem dX6_isAgainst_28 : decode cX6_isAgainst 28 = .ok (.iload_n 2, 1) := by decide +kernel
theorem dX6_isAgainst_29 : decode cX6_isAgainst 29 = .ok (.iconst 1, 1) := by decide +kernel
theorem dX6_isAgainst_30 : decode cX6_isAgainst 30 = .ok (.iload 4, 2) := by decide +kernel
theorem dX6_isAgainst_32 : decode cX6_isAgainst 32 = .ok (.iadd, 1) := by decide +kernel
theorem dX6_isAgainst_33 : decode cX6_isAgainst 33 = .ok (.invokevirtual 36, 3) := by decide +kernel
theorem dX6_isAgainst_36 : decode cX6_isAgainst 36 = .ok (.invokevirtual 130, 3) := by decide +kernel
theorem dX6_isAgainst_39 : decode cX6_isAgainst 39 = .ok (.iconst (-1), 1) := by decide +kernel
theorem dX6_isAgainst_40 : decode cX6_isAgainst 40 = .ok (.if_icmp .eq 7, 3) := by decide +kernel
theorem dX6_isAgainst_43 : decode cX6_isAgainst 43 = .ok (.iconst 1, 1) := by decide +kernel
theorem dX6_isAgainst_44 : decode cX6_isAgainst 44 = .ok (.goto 4, 3) := by decide +kernel
theorem dX6_isAgainst_47 : decode cX6_isAgainst 47 = .ok (.iconst 0, 1) := by decide +kernel
theorem dX6_isAgainst_48 : decode cX6_isAgainst 48 = .ok (.istore 6, 2) := by decide +kernel
theorem dX6_isAgainst_50 : decode cX6_isAgainst 50 = .ok (.iload 6, 2) := by decide +kernel
theorem dX6_isAgainst_52 : decode cX6_isAgainst 52 = .ok (.ifCond .ne 9, 3) := by decide +kernel
theorem dX6_isAgainst_55 : decode cX6_isAgainst 55 = .ok (.iload 5, 2) := by decide +kernel
theorem dX6_isAgainst_57 : decode cX6_isAgainst 57 = .ok (.iload_n 2, 1) := by decide +kernel
theorem dX6_isAgainst_58 : decode cX6_isAgainst 58 = .ok (.if_icmp .ge 7, 3) := by decide +kernel
theorem dX6_isAgainst_61 : decode cX6_isAgainst 61 = .ok (.iconst 0, 1) := by decide +kernel
theorem dX6_isAgainst_62 : decode cX6_isAgainst 62 = .ok (.goto 4, 3) := by decide +kernel
theorem dX6_isAgainst_65 : decode cX6_isAgainst 65 = .ok (.iconst 2, 1) := by decide +kernel
theorem dX6_isAgainst_66 : decode cX6_isAgainst 66 = .ok (.ireturn, 1) := by decide +kernel
theorem dX6_write_0 : decode cX6_write 0 = .ok (.aload_n 0, 1) := by decide +kernel
theorem dX6_write_1 : decode cX6_write 1 = .ok (.iconst 0, 1) := by decide +kernel
theorem dX6_write_2 : decode cX6_write 2 = .ok (.putfield 25, 3) := by decide +kernel
theorem dX6_write_5 : decode cX6_write 5 = .ok (.aload_n 0, 1) := by decide +kernel
theorem dX6_write_6 : decode cX6_write 6 = .ok (.iload_n 1, 1) := by decide +kernel
theorem dX6_write_7 : decode cX6_write 7 = .ok (.invokevirtual 133, 3) := by decide +kernel
theorem dX6_write_10 : decode cX6_write 10 = .ok (.ifCond .eq 11, 3) := by decide +kernel
theorem dX6_write_13 : decode cX6_write 13 = .ok (.aload_n 0, 1) := by decide +kernel
theorem dX6_write_14 : decode cX6_write 14 = .ok (.iload_n 2, 1) := by decide +kernel
theorem dX6_write_15 : decode cX6_write 15 = .ok (.invokevirtual 127, 3) := by decide +kernel
theorem dX6_write_18 : decode cX6_write 18 = .ok (.ifCond .ne 9, 3) := by decide +kernel
theorem dX6_write_21 : decode cX6_write 21 = .ok (.aload_n 0, 1) := by decide +kernel
theorem dX6_write_22 : decode cX6_write 22 = .ok (.iconst 1, 1) := by decide +kernel
theorem dX6_write_23 : decode cX6_write 23 = .ok (.invokevirtual 120, 3) := by decide +kernel
theorem dX6_write_26 : decode cX6_write 26 = .ok (.ireturn, 1) := by decide +kernel
theorem dX6_write_27 : decode cX6_write 27 = .ok (.iload_n 3, 1) := by decide +kernel
theorem dX6_write_28 : decode cX6_write 28 = .ok (.invokestatic 51, 3) := by decide +kernel
theorem dX6_write_31 : decode cX6_write 31 = .ok (.ifCond .eq 14, 3) := by decide +kernel
theorem dX6_write_34 : decode cX6_write 34 = .ok (.iload 4, 2) := by decide +kernel
theorem dX6_write_36 : decode cX6_write 36 = .ok (.iconst 0, 1) := by decide +kernel
theorem dX6_write_37 : decode cX6_write 37 = .ok (.ldc 101, 2) := by decide +kernel
theorem dX6_write_39 : decode cX6_write 39 = .ok (.invokestatic 32, 3) := by decide +kernel
theorem dX6_write_42 : decode cX6_write 42 = .ok (.ifCond .ne 9, 3) := by decide +kernel
theorem dX6_write_45 : decode cX6_write 45 = .ok (.aload_n 0, 1) := by decide +kernel
theorem dX6_write_46 : decode cX6_write 46 = .ok (.iconst 2, 1) := by decide +kernel
theorem dX6_write_47 : decode cX6_write 47 = .ok (.invokevirtual 120, 3) := by decide +kernel
theorem dX6_write_50 : decode cX6_write 50 = .ok (.ireturn, 1) := by decide +kernel
theorem dX6_write_51 : decode cX6_write 51 = .ok (.aload_n 0, 1) := by decide +kernel
theorem dX6_write_52 : decode cX6_write 52 = .ok (.iload_n 1, 1) := by decide +kernel
theorem dX6_write_53 : decode cX6_write 53 = .ok (.iload_n 2, 1) := by decide +kernel
theorem dX6_write_54 : decode cX6_write 54 = .ok (.iload_n 3, 1) := by decide +kernel
theorem dX6_write_55 : decode cX6_write 55 = .ok (.invokevirtual 136, 3) := by decide +kernel
theorem dX6_write_58 : decode cX6_write 58 = .ok (.ifCond .eq 9, 3) := by decide +kernel
theorem dX6_write_61 : decode cX6_write 61 = .ok (.aload_n 0, 1) := by decide +kernel
theorem dX6_write_62 : decode cX6_write 62 = .ok (.iconst 3, 1) := by decide +kernel
theorem dX6_write_63 : decode cX6_write 63 = .ok (.invokevirtual 120, 3) := by decide +kernel
theorem dX6_write_66 : decode cX6_write 66 = .ok (.ireturn, 1) := by decide +kernel
theorem dX6_write_67 : decode cX6_write 67 = .ok (.aload_n 0, 1) := by decide +kernel
theorem dX6_write_68 : decode cX6_write 68 = .ok (.invokevirtual 72, 3) := by decide +kernel
theorem dX6_write_71 : decode cX6_write 71 = .ok (.aload_n 0, 1) := by decide +kernel
theorem dX6_write_72 : decode cX6_write 72 = .ok (.iload_n 2, 1) := by decide +kernel
theorem dX6_write_73 : decode cX6_write 73 = .ok (.iconst 1, 1) := by decide +kernel
theorem dX6_write_74 : decode cX6_write 74 = .ok (.aload_n 0, 1) := by decide +kernel
theorem dX6_write_75 : decode cX6_write 75 = .ok (.iload_n 2, 1) := by decide +kernel
theorem dX6_write_76 : decode cX6_write 76 = .ok (.iload_n 3, 1) := by decide +kernel
theorem dX6_write_77 : decode cX6_write 77 = .ok (.invokevirtual 48, 3) := by decide +kernel
theorem dX6_write_80 : decode cX6_write 80 = .ok (.iadd, 1) := by decide +kernel
theorem dX6_write_81 : decode cX6_write 81 = .ok (.invokevirtual 36, 3) := by decide +kernel
theorem dX6_write_84 : decode cX6_write 84 = .ok (.istore 5, 2) := by decide +kernel
theorem dX6_write_86 : decode cX6_write 86 = .ok (.aload_n 0, 1) := by decide +kernel
theorem dX6_write_87 : decode cX6_write 87 = .ok (.aload_n 0, 1) := by decide +kernel
theorem dX6_write_88 : decode cX6_write 88 = .ok (.iload_n 1, 1) := by decide +kernel
theorem dX6_write_89 : decode cX6_write 89 = .ok (.iconst 0, 1) := by decide +kernel
theorem dX6_write_90 : decode cX6_write 90 = .ok (.invokevirtual 108, 3) := by decide +kernel
theorem dX6_write_93 : decode cX6_write 93 = .ok (.iload 5, 2) := by decide +kernel
theorem dX6_write_95 : decode cX6_write 95 = .ok (.invokevirtual 130, 3) := by decide +kernel
theorem dX6_write_98 : decode cX6_write 98 = .ok (.iconst (-1), 1) := by decide +kernel
theorem dX6_write_99 : decode cX6_write 99 = .ok (.if_icmp .ne 9, 3) := by decide +kernel
theorem dX6_write_102 : decode cX6_write 102 = .ok (.aload_n 0, 1) := by decide +kernel
theorem dX6_write_103 : decode cX6_write 103 = .ok (.iload_n 1, 1) := by decide +kernel
theorem dX6_write_104 : decode cX6_write 104 = .ok (.iload_n 2, 1) := by decide +kernel
theorem dX6_write_105 : decode cX6_write 105 = .ok (.invokevirtual 139, 3) := by decide +kernel
theorem dX6_write_108 : decode cX6_write 108 = .ok (.aload_n 0, 1) := by decide +kernel
theorem dX6_write_109 : decode cX6_write 109 = .ok (.iload_n 1, 1) := by decide +kernel
theorem dX6_write_110 : decode cX6_write 110 = .ok (.iconst 2, 1) := by decide +kernel
theorem dX6_write_111 : decode cX6_write 111 = .ok (.aload_n 0, 1) := by decide +kernel
theorem dX6_write_112 : decode cX6_write 112 = .ok (.aload_n 0, 1) := by decide +kernel
theorem dX6_write_113 : decode cX6_write 113 = .ok (.iload_n 1, 1) := by decide +kernel
theorem dX6_write_114 : decode cX6_write 114 = .ok (.iconst 0, 1) := by decide +kernel
theorem dX6_write_115 : decode cX6_write 115 = .ok (.invokevirtual 108, 3) := by decide +kernel
theorem dX6_write_118 : decode cX6_write 118 = .ok (.iload 5, 2) := by decide +kernel
theorem dX6_write_120 : decode cX6_write 120 = .ok (.invokevirtual 130, 3) := by decide +kernel
theorem dX6_write_123 : decode cX6_write 123 = .ok (.iadd, 1) := by decide +kernel
theorem dX6_write_124 : decode cX6_write 124 = .ok (.iload 4, 2) := by decide +kernel
theorem dX6_write_126 : decode cX6_write 126 = .ok (.invokevirtual 117, 3) := by decide +kernel
theorem dX6_write_129 : decode cX6_write 129 = .ok (.aload_n 0, 1) := by decide +kernel
theorem dX6_write_130 : decode cX6_write 130 = .ok (.getfield 7, 3) := by decide +kernel
theorem dX6_write_133 : decode cX6_write 133 = .ok (.iconst 5, 1) := by decide +kernel
theorem dX6_write_134 : decode cX6_write 134 = .ok (.dup2, 1) := by decide +kernel
theorem dX6_write_135 : decode cX6_write 135 = .ok (.iaload, 1) := by decide +kernel
theorem dX6_write_136 : decode cX6_write 136 = .ok (.iconst 1, 1) := by decide +kernel
theorem dX6_write_137 : decode cX6_write 137 = .ok (.iadd, 1) := by decide +kernel
theorem dX6_write_138 : decode cX6_write 138 = .ok (.iastore, 1) := by decide +kernel
theorem dX6_write_139 : decode cX6_write 139 = .ok (.aload_n 0, 1) := by decide +kernel
theorem dX6_write_140 : decode cX6_write 140 = .ok (.iload_n 1, 1) := by decide +kernel
theorem dX6_write_141 : decode cX6_write 141 = .ok (.iconst 0, 1) := by decide +kernel
theorem dX6_write_142 : decode cX6_write 142 = .ok (.invokevirtual 108, 3) := by decide +kernel
theorem dX6_write_145 : decode cX6_write 145 = .ok (.ireturn, 1) := by decide +kernel
theorem dX6_remove_0 : decode cX6_remove 0 = .ok (.aload_n 0, 1) := by decide +kernel
theorem dX6_remove_1 : decode cX6_remove 1 = .ok (.iconst 0, 1) := by decide +kernel
theorem dX6_remove_2 : decode cX6_remove 2 = .ok (.putfield 25, 3) := by decide +kernel
theorem dX6_remove_5 : decode cX6_remove 5 = .ok (.aload_n 0, 1) := by decide +kernel
theorem dX6_remove_6 : decode cX6_remove 6 = .ok (.iload_n 1, 1) := by decide +kernel
theorem dX6_remove_7 : decode cX6_remove 7 = .ok (.invokevirtual 133, 3) := by decide +kernel
theorem dX6_remove_10 : decode cX6_remove 10 = .ok (.ifCond .ne 9, 3) := by decide +kernel
theorem dX6_remove_13 : decode cX6_remove 13 = .ok (.aload_n 0, 1) := by decide +kernel
theorem dX6_remove_14 : decode cX6_remove 14 = .ok (.iconst 1, 1) := by decide +kernel
theorem dX6_remove_15 : decode cX6_remove 15 = .ok (.invokevirtual 120, 3) := by decide +kernel
theorem dX6_remove_18 : decode cX6_remove 18 = .ok (.ireturn, 1) := by decide +kernel
theorem dX6_remove_19 : decode cX6_remove 19 = .ok (.aload_n 0, 1) := by decide +kernel
theorem dX6_remove_20 : decode cX6_remove 20 = .ok (.invokevirtual 72, 3) := by decide +kernel
theorem dX6_remove_23 : decode cX6_remove 23 = .ok (.sipush 250, 3) := by decide +kernel
theorem dX6_remove_26 : decode cX6_remove 26 = .ok (.bipush 10, 2) := by decide +kernel
theorem dX6_remove_28 : decode cX6_remove 28 = .ok (.aload_n 0, 1) := by decide +kernel
theorem dX6_remove_29 : decode cX6_remove 29 = .ok (.getfield 7, 3) := by decide +kernel
theorem dX6_remove_32 : decode cX6_remove 32 = .ok (.iconst 2, 1) := by decide +kernel
theorem dX6_remove_33 : decode cX6_remove 33 = .ok (.iaload, 1) := by decide +kernel
theorem dX6_remove_34 : decode cX6_remove 34 = .ok (.iconst 1, 1) := by decide +kernel
theorem dX6_remove_35 : decode cX6_remove 35 = .ok (.isub, 1) := by decide +kernel
theorem dX6_remove_36 : decode cX6_remove 36 = .ok (.imul, 1) := by decide +kernel
theorem dX6_remove_37 : decode cX6_remove 37 = .ok (.iadd, 1) := by decide +kernel
theorem dX6_remove_38 : decode cX6_remove 38 = .ok (.istore_n 2, 1) := by decide +kernel
theorem dX6_remove_39 : decode cX6_remove 39 = .ok (.sipush 250, 3) := by decide +kernel
theorem dX6_remove_42 : decode cX6_remove 42 = .ok (.bipush 10, 2) := by decide +kernel
theorem dX6_remove_44 : decode cX6_remove 44 = .ok (.iload_n 1, 1) := by decide +kernel
theorem dX6_remove_45 : decode cX6_remove 45 = .ok (.imul, 1) := by decide +kernel
theorem dX6_remove_46 : decode cX6_remove 46 = .ok (.iadd, 1) := by decide +kernel
theorem dX6_remove_47 : decode cX6_remove 47 = .ok (.istore_n 3, 1) := by decide +kernel
theorem dX6_remove_48 : decode cX6_remove 48 = .ok (.iload_n 3, 1) := by decide +kernel
theorem dX6_remove_49 : decode cX6_remove 49 = .ok (.iload_n 2, 1) := by decide +kernel
theorem dX6_remove_50 : decode cX6_remove 50 = .ok (.if_icmp .ge 24, 3) := by decide +kernel
theorem dX6_remove_53 : decode cX6_remove 53 = .ok (.aload_n 0, 1) := by decide +kernel
theorem dX6_remove_54 : decode cX6_remove 54 = .ok (.getfield 7, 3) := by decide +kernel
theorem dX6_remove_57 : decode cX6_remove 57 = .ok (.iload_n 3, 1) := by decide +kernel
theorem dX6_remove_58 : decode cX6_remove 58 = .ok (.aload_n 0, 1) := by decide +kernel
theorem dX6_remove_59 : decode cX6_remove 59 = .ok (.getfield 7, 3) := by decide +kernel
theorem dX6_remove_62 : decode cX6_remove 62 = .ok (.iload_n 3, 1) := by decide +kernel
theorem dX6_remove_63 : decode cX6_remove 63 = .ok (.bipush 10, 2) := by decide +kernel
theorem dX6_remove_65 : decode cX6_remove 65 = .ok (.iadd, 1) := by decide +kernel
theorem dX6_remove_66 : decode cX6_remove 66 = .ok (.iaload, 1) := by decide +kernel
theorem dX6_remove_67 : decode cX6_remove 67 = .ok (.iastore, 1) := by decide +kernel
theorem dX6_remove_68 : decode cX6_remove 68 = .ok (.iinc 3 1, 3) := by decide +kernel
theorem dX6_remove_71 : decode cX6_remove 71 = .ok (.goto (-23), 3) := by decide +kernel
theorem dX6_remove_74 : decode cX6_remove 74 = .ok (.iconst 0, 1) := by decide +kernel
theorem dX6_remove_75 : decode cX6_remove 75 = .ok (.istore_n 3, 1) := by decide +kernel
theorem dX6_remove_76 : decode cX6_remove 76 = .ok (.iload_n 3, 1) := by decide +kernel
theorem dX6_remove_77 : decode cX6_remove 77 = .ok (.bipush 10, 2) := by decide +kernel
theorem dX6_remove_79 : decode cX6_remove 79 = .ok (.if_icmp .ge 18, 3) := by decide +kernel
theorem dX6_remove_82 : decode cX6_remove 82 = .ok (.aload_n 0, 1) := by decide +kernel
theorem dX6_remove_83 : decode cX6_remove 83 = .ok (.getfield 7, 3) := by decide +kernel
theorem dX6_remove_86 : decode cX6_remove 86 = .ok (.iload_n 2, 1) := by decide +kernel
theorem dX6_remove_87 : decode cX6_remove 87 = .ok (.iload_n 3, 1) := by decide +kernel
theorem dX6_remove_88 : decode cX6_remove 88 = .ok (.iadd, 1) := by decide +kernel
theorem dX6_remove_89 : decode cX6_remove 89 = .ok (.iconst 0, 1) := by decide +kernel
theorem dX6_remove_90 : decode cX6_remove 90 = .ok (.iastore, 1) := by decide +kernel
theorem dX6_remove_91 : decode cX6_remove 91 = .ok (.iinc 3 1, 3) := by decide +kernel
theorem dX6_remove_94 : decode cX6_remove 94 = .ok (.goto (-18), 3) := by decide +kernel
theorem dX6_remove_97 : decode cX6_remove 97 = .ok (.aload_n 0, 1) := by decide +kernel
theorem dX6_remove_98 : decode cX6_remove 98 = .ok (.getfield 7, 3) := by decide +kernel
theorem dX6_remove_101 : decode cX6_remove 101 = .ok (.iconst 2, 1) := by decide +kernel
theorem dX6_remove_102 : decode cX6_remove 102 = .ok (.dup2, 1) := by decide +kernel
theorem dX6_remove_103 : decode cX6_remove 103 = .ok (.iaload, 1) := by decide +kernel
theorem dX6_remove_104 : decode cX6_remove 104 = .ok (.iconst 1, 1) := by decide +kernel
theorem dX6_remove_105 : decode cX6_remove 105 = .ok (.isub, 1) := by decide +kernel
theorem dX6_remove_106 : decode cX6_remove 106 = .ok (.iastore, 1) := by decide +kernel
theorem dX6_remove_107 : decode cX6_remove 107 = .ok (.aload_n 0, 1) := by decide +kernel
theorem dX6_remove_108 : decode cX6_remove 108 = .ok (.getfield 7, 3) := by decide +kernel
theorem dX6_remove_111 : decode cX6_remove 111 = .ok (.iconst 3, 1) := by decide +kernel
theorem dX6_remove_112 : decode cX6_remove 112 = .ok (.dup2, 1) := by decide +kernel
theorem dX6_remove_113 : decode cX6_remove 113 = .ok (.iaload, 1) := by decide +kernel
theorem dX6_remove_114 : decode cX6_remove 114 = .ok (.aload_n 0, 1) := by decide +kernel
theorem dX6_remove_115 : decode cX6_remove 115 = .ok (.getfield 7, 3) := by decide +kernel
theorem dX6_remove_118 : decode cX6_remove 118 = .ok (.iconst 3, 1) := by decide +kernel
theorem dX6_remove_119 : decode cX6_remove 119 = .ok (.iaload, 1) := by decide +kernel
theorem dX6_remove_120 : decode cX6_remove 120 = .ok (.iload_n 1, 1) := by decide +kernel
theorem dX6_remove_121 : decode cX6_remove 121 = .ok (.if_icmp .le 7, 3) := by decide +kernel
theorem dX6_remove_124 : decode cX6_remove 124 = .ok (.iconst 1, 1) := by decide +kernel
theorem dX6_remove_125 : decode cX6_remove 125 = .ok (.goto 4, 3) := by decide +kernel
theorem dX6_remove_128 : decode cX6_remove 128 = .ok (.iconst 0, 1) := by decide +kernel
theorem dX6_remove_129 : decode cX6_remove 129 = .ok (.isub, 1) := by decide +kernel
theorem dX6_remove_130 : decode cX6_remove 130 = .ok (.iastore, 1) := by decide +kernel
theorem dX6_remove_131 : decode cX6_remove 131 = .ok (.aload_n 0, 1) := by decide +kernel
theorem dX6_remove_132 : decode cX6_remove 132 = .ok (.getfield 7, 3) := by decide +kernel
theorem dX6_remove_135 : decode cX6_remove 135 = .ok (.iconst 2, 1) := by decide +kernel
theorem dX6_remove_136 : decode cX6_remove 136 = .ok (.iaload, 1) := by decide +kernel
theorem dX6_remove_137 : decode cX6_remove 137 = .ok (.ireturn, 1) := by decide +kernel
theorem dX6_goesOn_0 : decode cX6_goesOn 0 = .ok (.iconst 0, 1) := by decide +kernel
theorem dX6_goesOn_1 : decode cX6_goesOn 1 = .ok (.istore_n 2, 1) := by decide +kernel
theorem dX6_goesOn_2 : decode cX6_goesOn 2 = .ok (.iconst 0, 1) := by decide +kernel
theorem dX6_goesOn_3 : decode cX6_goesOn 3 = .ok (.istore_n 3, 1) := by decide +kernel
theorem dX6_goesOn_4 : decode cX6_goesOn 4 = .ok (.iload_n 3, 1) := by decide +kernel
theorem dX6_goesOn_5 : decode cX6_goesOn 5 = .ok (.iload_n 1, 1) := by decide +kernel
theorem dX6_goesOn_6 : decode cX6_goesOn 6 = .ok (.if_icmp .ge 94, 3) := by decide +kernel
theorem dX6_goesOn_9 : decode cX6_goesOn 9 = .ok (.aload_n 0, 1) := by decide +kernel
theorem dX6_goesOn_10 : decode cX6_goesOn 10 = .ok (.getfield 7, 3) := by decide +kernel
theorem dX6_goesOn_13 : decode cX6_goesOn 13 = .ok (.iconst 2, 1) := by decide +kernel
theorem dX6_goesOn_14 : decode cX6_goesOn 14 = .ok (.iaload, 1) := by decide +kernel
theorem dX6_goesOn_15 : decode cX6_goesOn 15 = .ok (.ifCond .le 85, 3) := by decide +kernel
theorem dX6_goesOn_18 : decode cX6_goesOn 18 = .ok (.aload_n 0, 1) := by decide +kernel
theorem dX6_goesOn_19 : decode cX6_goesOn 19 = .ok (.getfield 7, 3) := by decide +kernel
theorem dX6_goesOn_22 : decode cX6_goesOn 22 = .ok (.iconst 3, 1) := by decide +kernel
theorem dX6_goesOn_23 : decode cX6_goesOn 23 = .ok (.aload_n 0, 1) := by decide +kernel
theorem dX6_goesOn_24 : decode cX6_goesOn 24 = .ok (.getfield 7, 3) := by decide +kernel
theorem dX6_goesOn_27 : decode cX6_goesOn 27 = .ok (.iconst 3, 1) := by decide +kernel
theorem dX6_goesOn_28 : decode cX6_goesOn 28 = .ok (.iaload, 1) := by decide +kernel
theorem dX6_goesOn_29 : decode cX6_goesOn 29 = .ok (.aload_n 0, 1) := by decide +kernel
theorem dX6_goesOn_30 : decode cX6_goesOn 30 = .ok (.getfield 7, 3) := by decide +kernel
theorem dX6_goesOn_33 : decode cX6_goesOn 33 = .ok (.iconst 2, 1) := by decide +kernel
theorem dX6_goesOn_34 : decode cX6_goesOn 34 = .ok (.iaload, 1) := by decide +kernel
theorem dX6_goesOn_35 : decode cX6_goesOn 35 = .ok (.if_icmp .ge 12, 3) := by decide +kernel
theorem dX6_goesOn_38 : decode cX6_goesOn 38 = .ok (.aload_n 0, 1) := by decide +kernel
theorem dX6_goesOn_39 : decode cX6_goesOn 39 = .ok (.getfield 7, 3) := by decide +kernel
theorem dX6_goesOn_42 : decode cX6_goesOn 42 = .ok (.iconst 3, 1) := by decide +kernel
theorem dX6_goesOn_43 : decode cX6_goesOn 43 = .ok (.iaload, 1) := by decide +kernel
theorem dX6_goesOn_44 : decode cX6_goesOn 44 = .ok (.goto 4, 3) := by decide +kernel
theorem dX6_goesOn_47 : decode cX6_goesOn 47 = .ok (.iconst 0, 1) := by decide +kernel
theorem dX6_goesOn_48 : decode cX6_goesOn 48 = .ok (.iastore, 1) := by decide +kernel
theorem dX6_goesOn_49 : decode cX6_goesOn 49 = .ok (.aload_n 0, 1) := by decide +kernel
theorem dX6_goesOn_50 : decode cX6_goesOn 50 = .ok (.aload_n 0, 1) := by decide +kernel
theorem dX6_goesOn_51 : decode cX6_goesOn 51 = .ok (.getfield 7, 3) := by decide +kernel
theorem dX6_goesOn_54 : decode cX6_goesOn 54 = .ok (.iconst 3, 1) := by decide +kernel
theorem dX6_goesOn_55 : decode cX6_goesOn 55 = .ok (.iaload, 1) := by decide +kernel
theorem dX6_goesOn_56 : decode cX6_goesOn 56 = .ok (.iconst 0, 1) := by decide +kernel
theorem dX6_goesOn_57 : decode cX6_goesOn 57 = .ok (.invokevirtual 108, 3) := by decide +kernel
theorem dX6_goesOn_60 : decode cX6_goesOn 60 = .ok (.aload_n 0, 1) := by decide +kernel
theorem dX6_goesOn_61 : decode cX6_goesOn 61 = .ok (.invokevirtual 44, 3) := by decide +kernel
theorem dX6_goesOn_64 : decode cX6_goesOn 64 = .ok (.if_icmp .ge 20, 3) := by decide +kernel
theorem dX6_goesOn_67 : decode cX6_goesOn 67 = .ok (.aload_n 0, 1) := by decide +kernel
theorem dX6_goesOn_68 : decode cX6_goesOn 68 = .ok (.aload_n 0, 1) := by decide +kernel
theorem dX6_goesOn_69 : decode cX6_goesOn 69 = .ok (.getfield 7, 3) := by decide +kernel
theorem dX6_goesOn_72 : decode cX6_goesOn 72 = .ok (.iconst 3, 1) := by decide +kernel
theorem dX6_goesOn_73 : decode cX6_goesOn 73 = .ok (.iaload, 1) := by decide +kernel
theorem dX6_goesOn_74 : decode cX6_goesOn 74 = .ok (.aload_n 0, 1) := by decide +kernel
theorem dX6_goesOn_75 : decode cX6_goesOn 75 = .ok (.invokevirtual 44, 3) := by decide +kernel
theorem dX6_goesOn_78 : decode cX6_goesOn 78 = .ok (.invokevirtual 139, 3) := by decide +kernel
theorem dX6_goesOn_81 : decode cX6_goesOn 81 = .ok (.iinc 2 1, 3) := by decide +kernel
theorem dX6_goesOn_84 : decode cX6_goesOn 84 = .ok (.aload_n 0, 1) := by decide +kernel
theorem dX6_goesOn_85 : decode cX6_goesOn 85 = .ok (.getfield 7, 3) := by decide +kernel
theorem dX6_goesOn_88 : decode cX6_goesOn 88 = .ok (.iconst 3, 1) := by decide +kernel
theorem dX6_goesOn_89 : decode cX6_goesOn 89 = .ok (.dup2, 1) := by decide +kernel
theorem dX6_goesOn_90 : decode cX6_goesOn 90 = .ok (.iaload, 1) := by decide +kernel
theorem dX6_goesOn_91 : decode cX6_goesOn 91 = .ok (.iconst 1, 1) := by decide +kernel
theorem dX6_goesOn_92 : decode cX6_goesOn 92 = .ok (.iadd, 1) := by decide +kernel
theorem dX6_goesOn_93 : decode cX6_goesOn 93 = .ok (.iastore, 1) := by decide +kernel
theorem dX6_goesOn_94 : decode cX6_goesOn 94 = .ok (.iinc 3 1, 3) := by decide +kernel
theorem dX6_goesOn_97 : decode cX6_goesOn 97 = .ok (.goto (-93), 3) := by decide +kernel
theorem dX6_goesOn_100 : decode cX6_goesOn 100 = .ok (.iload_n 2, 1) := by decide +kernel
theorem dX6_goesOn_101 : decode cX6_goesOn 101 = .ok (.ireturn, 1) := by decide +kernel
theorem dX6_goOn_0 : decode cX6_goOn 0 = .ok (.aload_n 0, 1) := by decide +kernel
theorem dX6_goOn_1 : decode cX6_goOn 1 = .ok (.iconst 0, 1) := by decide +kernel
theorem dX6_goOn_2 : decode cX6_goOn 2 = .ok (.putfield 25, 3) := by decide +kernel
theorem dX6_goOn_5 : decode cX6_goOn 5 = .ok (.iload_n 1, 1) := by decide +kernel
theorem dX6_goOn_6 : decode cX6_goOn 6 = .ok (.iconst 1, 1) := by decide +kernel
theorem dX6_goOn_7 : decode cX6_goOn 7 = .ok (.bipush 12, 2) := by decide +kernel
theorem dX6_goOn_9 : decode cX6_goOn 9 = .ok (.invokestatic 32, 3) := by decide +kernel
theorem dX6_goOn_12 : decode cX6_goOn 12 = .ok (.ifCond .ne 9, 3) := by decide +kernel
theorem dX6_goOn_15 : decode cX6_goOn 15 = .ok (.aload_n 0, 1) := by decide +kernel
theorem dX6_goOn_16 : decode cX6_goOn 16 = .ok (.iconst 1, 1) := by decide +kernel
theorem dX6_goOn_17 : decode cX6_goOn 17 = .ok (.invokevirtual 120, 3) := by decide +kernel
theorem dX6_goOn_20 : decode cX6_goOn 20 = .ok (.ireturn, 1) := by decide +kernel
theorem dX6_goOn_21 : decode cX6_goOn 21 = .ok (.aload_n 0, 1) := by decide +kernel
theorem dX6_goOn_22 : decode cX6_goOn 22 = .ok (.invokevirtual 72, 3) := by decide +kernel
theorem dX6_goOn_25 : decode cX6_goOn 25 = .ok (.aload_n 0, 1) := by decide +kernel
theorem dX6_goOn_26 : decode cX6_goOn 26 = .ok (.iload_n 1, 1) := by decide +kernel
theorem dX6_goOn_27 : decode cX6_goOn 27 = .ok (.invokevirtual 142, 3) := by decide +kernel
theorem dX6_goOn_30 : decode cX6_goOn 30 = .ok (.ireturn, 1) := by decide +kernel
theorem dX6_isReader_0 : decode cX6_isReader 0 = .ok (.iload_n 0, 1) := by decide +kernel
theorem dX6_isReader_1 : decode cX6_isReader 1 = .ok (.iconst 0, 1) := by decide +kernel
theorem dX6_isReader_2 : decode cX6_isReader 2 = .ok (.iconst 3, 1) := by decide +kernel
theorem dX6_isReader_3 : decode cX6_isReader 3 = .ok (.invokestatic 32, 3) := by decide +kernel
theorem dX6_isReader_6 : decode cX6_isReader 6 = .ok (.ireturn, 1) := by decide +kernel
theorem dX6_hold_0 : decode cX6_hold 0 = .ok (.aload_n 0, 1) := by decide +kernel
theorem dX6_hold_1 : decode cX6_hold 1 = .ok (.iconst 0, 1) := by decide +kernel
theorem dX6_hold_2 : decode cX6_hold 2 = .ok (.putfield 25, 3) := by decide +kernel
theorem dX6_hold_5 : decode cX6_hold 5 = .ok (.iload_n 1, 1) := by decide +kernel
theorem dX6_hold_6 : decode cX6_hold 6 = .ok (.invokestatic 145, 3) := by decide +kernel
theorem dX6_hold_9 : decode cX6_hold 9 = .ok (.ifCond .eq 11, 3) := by decide +kernel
theorem dX6_hold_12 : decode cX6_hold 12 = .ok (.aload_n 0, 1) := by decide +kernel
theorem dX6_hold_13 : decode cX6_hold 13 = .ok (.iload_n 2, 1) := by decide +kernel
theorem dX6_hold_14 : decode cX6_hold 14 = .ok (.invokevirtual 127, 3) := by decide +kernel
theorem dX6_hold_17 : decode cX6_hold 17 = .ok (.ifCond .ne 9, 3) := by decide +kernel
theorem dX6_hold_20 : decode cX6_hold 20 = .ok (.aload_n 0, 1) := by decide +kernel
theorem dX6_hold_21 : decode cX6_hold 21 = .ok (.iconst 1, 1) := by decide +kernel
theorem dX6_hold_22 : decode cX6_hold 22 = .ok (.invokevirtual 120, 3) := by decide +kernel
theorem dX6_hold_25 : decode cX6_hold 25 = .ok (.ireturn, 1) := by decide +kernel
theorem dX6_hold_26 : decode cX6_hold 26 = .ok (.aload_n 0, 1) := by decide +kernel
theorem dX6_hold_27 : decode cX6_hold 27 = .ok (.invokevirtual 72, 3) := by decide +kernel
theorem dX6_hold_30 : decode cX6_hold 30 = .ok (.aload_n 0, 1) := by decide +kernel
theorem dX6_hold_31 : decode cX6_hold 31 = .ok (.getfield 7, 3) := by decide +kernel
theorem dX6_hold_34 : decode cX6_hold 34 = .ok (.bipush 6, 2) := by decide +kernel
theorem dX6_hold_36 : decode cX6_hold 36 = .ok (.iload_n 1, 1) := by decide +kernel
theorem dX6_hold_37 : decode cX6_hold 37 = .ok (.iadd, 1) := by decide +kernel
theorem dX6_hold_38 : decode cX6_hold 38 = .ok (.iaload, 1) := by decide +kernel
theorem dX6_hold_39 : decode cX6_hold 39 = .ok (.istore_n 3, 1) := by decide +kernel
theorem dX6_hold_40 : decode cX6_hold 40 = .ok (.aload_n 0, 1) := by decide +kernel
theorem dX6_hold_41 : decode cX6_hold 41 = .ok (.getfield 7, 3) := by decide +kernel
theorem dX6_hold_44 : decode cX6_hold 44 = .ok (.bipush 6, 2) := by decide +kernel
theorem dX6_hold_46 : decode cX6_hold 46 = .ok (.iload_n 1, 1) := by decide +kernel
theorem dX6_hold_47 : decode cX6_hold 47 = .ok (.iadd, 1) := by decide +kernel
theorem dX6_hold_48 : decode cX6_hold 48 = .ok (.iload_n 2, 1) := by decide +kernel
theorem dX6_hold_49 : decode cX6_hold 49 = .ok (.iastore, 1) := by decide +kernel
theorem dX6_hold_50 : decode cX6_hold 50 = .ok (.iload_n 3, 1) := by decide +kernel
theorem dX6_hold_51 : decode cX6_hold 51 = .ok (.ireturn, 1) := by decide +kernel
theorem dX6_oldest_0 : decode cX6_oldest 0 = .ok (.aload_n 0, 1) := by decide +kernel
theorem dX6_oldest_1 : decode cX6_oldest 1 = .ok (.getfield 7, 3) := by decide +kernel
theorem dX6_oldest_4 : decode cX6_oldest 4 = .ok (.bipush 6, 2) := by decide +kernel
theorem dX6_oldest_6 : decode cX6_oldest 6 = .ok (.iaload, 1) := by decide +kernel
theorem dX6_oldest_7 : decode cX6_oldest 7 = .ok (.istore_n 1, 1) := by decide +kernel
theorem dX6_oldest_8 : decode cX6_oldest 8 = .ok (.iconst 0, 1) := by decide +kernel
theorem dX6_oldest_9 : decode cX6_oldest 9 = .ok (.istore_n 2, 1) := by decide +kernel
theorem dX6_oldest_10 : decode cX6_oldest 10 = .ok (.iload_n 2, 1) := by decide +kernel
theorem dX6_oldest_11 : decode cX6_oldest 11 = .ok (.iconst 4, 1) := by decide +kernel
theorem dX6_oldest_12 : decode cX6_oldest 12 = .ok (.if_icmp .ge 36, 3) := by decide +kernel
theorem dX6_oldest_15 : decode cX6_oldest 15 = .ok (.aload_n 0, 1) := by decide +kernel
theorem dX6_oldest_16 : decode cX6_oldest 16 = .ok (.getfield 7, 3) := by decide +kernel
theorem dX6_oldest_19 : decode cX6_oldest 19 = .ok (.bipush 6, 2) := by decide +kernel
theorem dX6_oldest_21 : decode cX6_oldest 21 = .ok (.iload_n 2, 1) := by decide +kernel
theorem dX6_oldest_22 : decode cX6_oldest 22 = .ok (.iadd, 1) := by decide +kernel
theorem dX6_oldest_23 : decode cX6_oldest 23 = .ok (.iaload, 1) := by decide +kernel
theorem dX6_oldest_24 : decode cX6_oldest 24 = .ok (.iload_n 1, 1) := by decide +kernel
theorem dX6_oldest_25 : decode cX6_oldest 25 = .ok (.if_icmp .ge 15, 3) := by decide +kernel
theorem dX6_oldest_28 : decode cX6_oldest 28 = .ok (.aload_n 0, 1) := by decide +kernel
theorem dX6_oldest_29 : decode cX6_oldest 29 = .ok (.getfield 7, 3) := by decide +kernel
theorem dX6_oldest_32 : decode cX6_oldest 32 = .ok (.bipush 6, 2) := by decide +kernel
theorem dX6_oldest_34 : decode cX6_oldest 34 = .ok (.iload_n 2, 1) := by decide +kernel
theorem dX6_oldest_35 : decode cX6_oldest 35 = .ok (.iadd, 1) := by decide +kernel
theorem dX6_oldest_36 : decode cX6_oldest 36 = .ok (.iaload, 1) := by decide +kernel
theorem dX6_oldest_37 : decode cX6_oldest 37 = .ok (.goto 4, 3) := by decide +kernel
theorem dX6_oldest_40 : decode cX6_oldest 40 = .ok (.iload_n 1, 1) := by decide +kernel
theorem dX6_oldest_41 : decode cX6_oldest 41 = .ok (.istore_n 1, 1) := by decide +kernel
theorem dX6_oldest_42 : decode cX6_oldest 42 = .ok (.iinc 2 1, 3) := by decide +kernel
theorem dX6_oldest_45 : decode cX6_oldest 45 = .ok (.goto (-35), 3) := by decide +kernel
theorem dX6_oldest_48 : decode cX6_oldest 48 = .ok (.iconst 0, 1) := by decide +kernel
theorem dX6_oldest_49 : decode cX6_oldest 49 = .ok (.istore_n 2, 1) := by decide +kernel
theorem dX6_oldest_50 : decode cX6_oldest 50 = .ok (.iload_n 2, 1) := by decide +kernel
theorem dX6_oldest_51 : decode cX6_oldest 51 = .ok (.aload_n 0, 1) := by decide +kernel
theorem dX6_oldest_52 : decode cX6_oldest 52 = .ok (.getfield 7, 3) := by decide +kernel
theorem dX6_oldest_55 : decode cX6_oldest 55 = .ok (.iconst 2, 1) := by decide +kernel
theorem dX6_oldest_56 : decode cX6_oldest 56 = .ok (.iaload, 1) := by decide +kernel
theorem dX6_oldest_57 : decode cX6_oldest 57 = .ok (.if_icmp .ge 30, 3) := by decide +kernel
theorem dX6_oldest_60 : decode cX6_oldest 60 = .ok (.aload_n 0, 1) := by decide +kernel
theorem dX6_oldest_61 : decode cX6_oldest 61 = .ok (.iload_n 2, 1) := by decide +kernel
theorem dX6_oldest_62 : decode cX6_oldest 62 = .ok (.iconst 0, 1) := by decide +kernel
theorem dX6_oldest_63 : decode cX6_oldest 63 = .ok (.invokevirtual 108, 3) := by decide +kernel
theorem dX6_oldest_66 : decode cX6_oldest 66 = .ok (.iload_n 1, 1) := by decide +kernel
theorem dX6_oldest_67 : decode cX6_oldest 67 = .ok (.if_icmp .ge 12, 3) := by decide +kernel
theorem dX6_oldest_70 : decode cX6_oldest 70 = .ok (.aload_n 0, 1) := by decide +kernel
theorem dX6_oldest_71 : decode cX6_oldest 71 = .ok (.iload_n 2, 1) := by decide +kernel
theorem dX6_oldest_72 : decode cX6_oldest 72 = .ok (.iconst 0, 1) := by decide +kernel
theorem dX6_oldest_73 : decode cX6_oldest 73 = .ok (.invokevirtual 108, 3) := by decide +kernel
theorem dX6_oldest_76 : decode cX6_oldest 76 = .ok (.goto 4, 3) := by decide +kernel
theorem dX6_oldest_79 : decode cX6_oldest 79 = .ok (.iload_n 1, 1) := by decide +kernel
theorem dX6_oldest_80 : decode cX6_oldest 80 = .ok (.istore_n 1, 1) := by decide +kernel
theorem dX6_oldest_81 : decode cX6_oldest 81 = .ok (.iinc 2 1, 3) := by decide +kernel
theorem dX6_oldest_84 : decode cX6_oldest 84 = .ok (.goto (-34), 3) := by decide +kernel
theorem dX6_oldest_87 : decode cX6_oldest 87 = .ok (.iload_n 1, 1) := by decide +kernel
theorem dX6_oldest_88 : decode cX6_oldest 88 = .ok (.ireturn, 1) := by decide +kernel
theorem dX6_retire_0 : decode cX6_retire 0 = .ok (.aload_n 0, 1) := by decide +kernel
theorem dX6_retire_1 : decode cX6_retire 1 = .ok (.iconst 0, 1) := by decide +kernel
theorem dX6_retire_2 : decode cX6_retire 2 = .ok (.putfield 25, 3) := by decide +kernel
theorem dX6_retire_5 : decode cX6_retire 5 = .ok (.aload_n 0, 1) := by decide +kernel
theorem dX6_retire_6 : decode cX6_retire 6 = .ok (.iload_n 1, 1) := by decide +kernel
theorem dX6_retire_7 : decode cX6_retire 7 = .ok (.invokevirtual 127, 3) := by decide +kernel
theorem dX6_retire_10 : decode cX6_retire 10 = .ok (.ifCond .ne 9, 3) := by decide +kernel
theorem dX6_retire_13 : decode cX6_retire 13 = .ok (.aload_n 0, 1) := by decide +kernel
theorem dX6_retire_14 : decode cX6_retire 14 = .ok (.iconst 1, 1) := by decide +kernel
theorem dX6_retire_15 : decode cX6_retire 15 = .ok (.invokevirtual 120, 3) := by decide +kernel
theorem dX6_retire_18 : decode cX6_retire 18 = .ok (.ireturn, 1) := by decide +kernel
theorem dX6_retire_19 : decode cX6_retire 19 = .ok (.aload_n 0, 1) := by decide +kernel
theorem dX6_retire_20 : decode cX6_retire 20 = .ok (.invokevirtual 148, 3) := by decide +kernel
theorem dX6_retire_23 : decode cX6_retire 23 = .ok (.iload_n 1, 1) := by decide +kernel
theorem dX6_retire_24 : decode cX6_retire 24 = .ok (.if_icmp .ge 9, 3) := by decide +kernel
theorem dX6_retire_27 : decode cX6_retire 27 = .ok (.aload_n 0, 1) := by decide +kernel
theorem dX6_retire_28 : decode cX6_retire 28 = .ok (.iconst 2, 1) := by decide +kernel
theorem dX6_retire_29 : decode cX6_retire 29 = .ok (.invokevirtual 120, 3) := by decide +kernel
theorem dX6_retire_32 : decode cX6_retire 32 = .ok (.ireturn, 1) := by decide +kernel
theorem dX6_retire_33 : decode cX6_retire 33 = .ok (.aload_n 0, 1) := by decide +kernel
theorem dX6_retire_34 : decode cX6_retire 34 = .ok (.invokevirtual 72, 3) := by decide +kernel
theorem dX6_retire_37 : decode cX6_retire 37 = .ok (.aload_n 0, 1) := by decide +kernel
theorem dX6_retire_38 : decode cX6_retire 38 = .ok (.getfield 7, 3) := by decide +kernel
theorem dX6_retire_41 : decode cX6_retire 41 = .ok (.iconst 1, 1) := by decide +kernel
theorem dX6_retire_42 : decode cX6_retire 42 = .ok (.iload_n 1, 1) := by decide +kernel
theorem dX6_retire_43 : decode cX6_retire 43 = .ok (.iastore, 1) := by decide +kernel
theorem dX6_retire_44 : decode cX6_retire 44 = .ok (.aload_n 0, 1) := by decide +kernel
theorem dX6_retire_45 : decode cX6_retire 45 = .ok (.getfield 7, 3) := by decide +kernel
theorem dX6_retire_48 : decode cX6_retire 48 = .ok (.iconst 0, 1) := by decide +kernel
theorem dX6_retire_49 : decode cX6_retire 49 = .ok (.iaload, 1) := by decide +kernel
theorem dX6_retire_50 : decode cX6_retire 50 = .ok (.iload_n 1, 1) := by decide +kernel
theorem dX6_retire_51 : decode cX6_retire 51 = .ok (.isub, 1) := by decide +kernel
theorem dX6_retire_52 : decode cX6_retire 52 = .ok (.ireturn, 1) := by decide +kernel
theorem dX6_append_0 : decode cX6_append 0 = .ok (.aload_n 0, 1) := by decide +kernel
theorem dX6_append_1 : decode cX6_append 1 = .ok (.iconst 0, 1) := by decide +kernel
theorem dX6_append_2 : decode cX6_append 2 = .ok (.putfield 25, 3) := by decide +kernel
theorem dX6_append_5 : decode cX6_append 5 = .ok (.iload_n 1, 1) := by decide +kernel
theorem dX6_append_6 : decode cX6_append 6 = .ok (.bipush 33, 2) := by decide +kernel
theorem dX6_append_8 : decode cX6_append 8 = .ok (.bipush 126, 2) := by decide +kernel
theorem dX6_append_10 : decode cX6_append 10 = .ok (.invokestatic 32, 3) := by decide +kernel
theorem dX6_append_13 : decode cX6_append 13 = .ok (.ifCond .ne 9, 3) := by decide +kernel
theorem dX6_append_16 : decode cX6_append 16 = .ok (.aload_n 0, 1) := by decide +kernel
theorem dX6_append_17 : decode cX6_append 17 = .ok (.iconst 1, 1) := by decide +kernel
theorem dX6_append_18 : decode cX6_append 18 = .ok (.invokevirtual 120, 3) := by decide +kernel
theorem dX6_append_21 : decode cX6_append 21 = .ok (.ireturn, 1) := by decide +kernel
theorem dX6_append_22 : decode cX6_append 22 = .ok (.aload_n 0, 1) := by decide +kernel
theorem dX6_append_23 : decode cX6_append 23 = .ok (.getfield 151, 3) := by decide +kernel
theorem dX6_append_26 : decode cX6_append 26 = .ok (.bipush 60, 2) := by decide +kernel
theorem dX6_append_28 : decode cX6_append 28 = .ok (.if_icmp .ne 9, 3) := by decide +kernel
theorem dX6_append_31 : decode cX6_append 31 = .ok (.aload_n 0, 1) := by decide +kernel
theorem dX6_append_32 : decode cX6_append 32 = .ok (.iconst 2, 1) := by decide +kernel
theorem dX6_append_33 : decode cX6_append 33 = .ok (.invokevirtual 120, 3) := by decide +kernel
theorem dX6_append_36 : decode cX6_append 36 = .ok (.ireturn, 1) := by decide +kernel
theorem dX6_append_37 : decode cX6_append 37 = .ok (.aload_n 0, 1) := by decide +kernel
theorem dX6_append_38 : decode cX6_append 38 = .ok (.getfield 16, 3) := by decide +kernel
theorem dX6_append_41 : decode cX6_append 41 = .ok (.aload_n 0, 1) := by decide +kernel
theorem dX6_append_42 : decode cX6_append 42 = .ok (.getfield 151, 3) := by decide +kernel
theorem dX6_append_45 : decode cX6_append 45 = .ok (.iload_n 1, 1) := by decide +kernel
theorem dX6_append_46 : decode cX6_append 46 = .ok (.iastore, 1) := by decide +kernel
theorem dX6_append_47 : decode cX6_append 47 = .ok (.aload_n 0, 1) := by decide +kernel
theorem dX6_append_48 : decode cX6_append 48 = .ok (.dup, 1) := by decide +kernel
theorem dX6_append_49 : decode cX6_append 49 = .ok (.getfield 151, 3) := by decide +kernel
theorem dX6_append_52 : decode cX6_append 52 = .ok (.iconst 1, 1) := by decide +kernel
theorem dX6_append_53 : decode cX6_append 53 = .ok (.iadd, 1) := by decide +kernel
theorem dX6_append_54 : decode cX6_append 54 = .ok (.putfield 151, 3) := by decide +kernel
theorem dX6_append_57 : decode cX6_append 57 = .ok (.aload_n 0, 1) := by decide +kernel
theorem dX6_append_58 : decode cX6_append 58 = .ok (.getfield 151, 3) := by decide +kernel
theorem dX6_append_61 : decode cX6_append 61 = .ok (.ireturn, 1) := by decide +kernel
theorem dX6_clearBuffer_0 : decode cX6_clearBuffer 0 = .ok (.aload_n 0, 1) := by decide +kernel
theorem dX6_clearBuffer_1 : decode cX6_clearBuffer 1 = .ok (.iconst 0, 1) := by decide +kernel
theorem dX6_clearBuffer_2 : decode cX6_clearBuffer 2 = .ok (.putfield 25, 3) := by decide +kernel
theorem dX6_clearBuffer_5 : decode cX6_clearBuffer 5 = .ok (.aload_n 0, 1) := by decide +kernel
theorem dX6_clearBuffer_6 : decode cX6_clearBuffer 6 = .ok (.getfield 151, 3) := by decide +kernel
theorem dX6_clearBuffer_9 : decode cX6_clearBuffer 9 = .ok (.istore_n 1, 1) := by decide +kernel
theorem dX6_clearBuffer_10 : decode cX6_clearBuffer 10 = .ok (.aload_n 0, 1) := by decide +kernel
theorem dX6_clearBuffer_11 : decode cX6_clearBuffer 11 = .ok (.iconst 0, 1) := by decide +kernel
theorem dX6_clearBuffer_12 : decode cX6_clearBuffer 12 = .ok (.putfield 151, 3) := by decide +kernel
theorem dX6_clearBuffer_15 : decode cX6_clearBuffer 15 = .ok (.iload_n 1, 1) := by decide +kernel
theorem dX6_clearBuffer_16 : decode cX6_clearBuffer 16 = .ok (.ireturn, 1) := by decide +kernel
theorem dX6_sign_0 : decode cX6_sign 0 = .ok (.aload_n 0, 1) := by decide +kernel
theorem dX6_sign_1 : decode cX6_sign 1 = .ok (.getfield 154, 3) := by decide +kernel
theorem dX6_sign_4 : decode cX6_sign 4 = .ok (.aload_n 0, 1) := by decide +kernel
theorem dX6_sign_5 : decode cX6_sign 5 = .ok (.getfield 151, 3) := by decide +kernel
theorem dX6_sign_8 : decode cX6_sign 8 = .ok (.if_icmp .ge 15, 3) := by decide +kernel
theorem dX6_sign_11 : decode cX6_sign 11 = .ok (.aload_n 0, 1) := by decide +kernel
theorem dX6_sign_12 : decode cX6_sign 12 = .ok (.getfield 16, 3) := by decide +kernel
theorem dX6_sign_15 : decode cX6_sign 15 = .ok (.aload_n 0, 1) := by decide +kernel
theorem dX6_sign_16 : decode cX6_sign 16 = .ok (.getfield 154, 3) := by decide +kernel
theorem dX6_sign_19 : decode cX6_sign 19 = .ok (.iaload, 1) := by decide +kernel
theorem dX6_sign_20 : decode cX6_sign 20 = .ok (.goto 4, 3) := by decide +kernel
theorem dX6_sign_23 : decode cX6_sign 23 = .ok (.iconst 0, 1) := by decide +kernel
theorem dX6_sign_24 : decode cX6_sign 24 = .ok (.ireturn, 1) := by decide +kernel
theorem dX6_takes_0 : decode cX6_takes 0 = .ok (.aload_n 0, 1) := by decide +kernel
theorem dX6_takes_1 : decode cX6_takes 1 = .ok (.aload_n 0, 1) := by decide +kernel
theorem dX6_takes_2 : decode cX6_takes 2 = .ok (.getfield 157, 3) := by decide +kernel
theorem dX6_takes_5 : decode cX6_takes 5 = .ok (.ifCond .eq 19, 3) := by decide +kernel
theorem dX6_takes_8 : decode cX6_takes 8 = .ok (.aload_n 0, 1) := by decide +kernel
theorem dX6_takes_9 : decode cX6_takes 9 = .ok (.invokevirtual 161, 3) := by decide +kernel
theorem dX6_takes_12 : decode cX6_takes 12 = .ok (.iload_n 1, 1) := by decide +kernel
theorem dX6_takes_13 : decode cX6_takes 13 = .ok (.iload_n 2, 1) := by decide +kernel
theorem dX6_takes_14 : decode cX6_takes 14 = .ok (.invokestatic 32, 3) := by decide +kernel
theorem dX6_takes_17 : decode cX6_takes 17 = .ok (.ifCond .eq 7, 3) := by decide +kernel
theorem dX6_takes_20 : decode cX6_takes 20 = .ok (.iconst 1, 1) := by decide +kernel
theorem dX6_takes_21 : decode cX6_takes 21 = .ok (.goto 4, 3) := by decide +kernel
theorem dX6_takes_24 : decode cX6_takes 24 = .ok (.iconst 0, 1) := by decide +kernel
theorem dX6_takes_25 : decode cX6_takes 25 = .ok (.putfield 157, 3) := by decide +kernel
theorem dX6_takes_28 : decode cX6_takes 28 = .ok (.aload_n 0, 1) := by decide +kernel
theorem dX6_takes_29 : decode cX6_takes 29 = .ok (.invokevirtual 161, 3) := by decide +kernel
theorem dX6_takes_32 : decode cX6_takes 32 = .ok (.iload_n 1, 1) := by decide +kernel
theorem dX6_takes_33 : decode cX6_takes 33 = .ok (.isub, 1) := by decide +kernel
theorem dX6_takes_34 : decode cX6_takes 34 = .ok (.istore_n 3, 1) := by decide +kernel
theorem dX6_takes_35 : decode cX6_takes 35 = .ok (.aload_n 0, 1) := by decide +kernel
theorem dX6_takes_36 : decode cX6_takes 36 = .ok (.dup, 1) := by decide +kernel
theorem dX6_takes_37 : decode cX6_takes 37 = .ok (.getfield 154, 3) := by decide +kernel
theorem dX6_takes_40 : decode cX6_takes 40 = .ok (.aload_n 0, 1) := by decide +kernel
theorem dX6_takes_41 : decode cX6_takes 41 = .ok (.getfield 157, 3) := by decide +kernel
theorem dX6_takes_44 : decode cX6_takes 44 = .ok (.ifCond .eq 7, 3) := by decide +kernel
theorem dX6_takes_47 : decode cX6_takes 47 = .ok (.iconst 1, 1) := by decide +kernel
theorem dX6_takes_48 : decode cX6_takes 48 = .ok (.goto 4, 3) := by decide +kernel
theorem dX6_takes_51 : decode cX6_takes 51 = .ok (.iconst 0, 1) := by decide +kernel
theorem dX6_takes_52 : decode cX6_takes 52 = .ok (.iadd, 1) := by decide +kernel
theorem dX6_takes_53 : decode cX6_takes 53 = .ok (.putfield 154, 3) := by decide +kernel
theorem dX6_takes_56 : decode cX6_takes 56 = .ok (.iload_n 3, 1) := by decide +kernel
theorem dX6_takes_57 : decode cX6_takes 57 = .ok (.ireturn, 1) := by decide +kernel
theorem dX6_number_0 : decode cX6_number 0 = .ok (.aload_n 0, 1) := by decide +kernel
theorem dX6_number_1 : decode cX6_number 1 = .ok (.bipush 48, 2) := by decide +kernel
theorem dX6_number_3 : decode cX6_number 3 = .ok (.bipush 57, 2) := by decide +kernel
theorem dX6_number_5 : decode cX6_number 5 = .ok (.invokevirtual 164, 3) := by decide +kernel
theorem dX6_number_8 : decode cX6_number 8 = .ok (.istore_n 1, 1) := by decide +kernel
theorem dX6_number_9 : decode cX6_number 9 = .ok (.aload_n 0, 1) := by decide +kernel
theorem dX6_number_10 : decode cX6_number 10 = .ok (.getfield 157, 3) := by decide +kernel
theorem dX6_number_13 : decode cX6_number 13 = .ok (.ifCond .eq 37, 3) := by decide +kernel
theorem dX6_number_16 : decode cX6_number 16 = .ok (.iload_n 1, 1) := by decide +kernel
theorem dX6_number_17 : decode cX6_number 17 = .ok (.ifCond .le 33, 3) := by decide +kernel
theorem dX6_number_20 : decode cX6_number 20 = .ok (.aload_n 0, 1) := by decide +kernel
theorem dX6_number_21 : decode cX6_number 21 = .ok (.invokevirtual 161, 3) := by decide +kernel
theorem dX6_number_24 : decode cX6_number 24 = .ok (.bipush 48, 2) := by decide +kernel
theorem dX6_number_26 : decode cX6_number 26 = .ok (.bipush 57, 2) := by decide +kernel
theorem dX6_number_28 : decode cX6_number 28 = .ok (.invokestatic 32, 3) := by decide +kernel
theorem dX6_number_31 : decode cX6_number 31 = .ok (.ifCond .eq 19, 3) := by decide +kernel
theorem dX6_number_34 : decode cX6_number 34 = .ok (.bipush 10, 2) := by decide +kernel
theorem dX6_number_36 : decode cX6_number 36 = .ok (.iload_n 1, 1) := by decide +kernel
theorem dX6_number_37 : decode cX6_number 37 = .ok (.imul, 1) := by decide +kernel
theorem dX6_number_38 : decode cX6_number 38 = .ok (.aload_n 0, 1) := by decide +kernel
theorem dX6_number_39 : decode cX6_number 39 = .ok (.bipush 48, 2) := by decide +kernel
theorem dX6_number_41 : decode cX6_number 41 = .ok (.bipush 57, 2) := by decide +kernel
theorem dX6_number_43 : decode cX6_number 43 = .ok (.invokevirtual 164, 3) := by decide +kernel
theorem dX6_number_46 : decode cX6_number 46 = .ok (.iadd, 1) := by decide +kernel
theorem dX6_number_47 : decode cX6_number 47 = .ok (.goto 4, 3) := by decide +kernel
theorem dX6_number_50 : decode cX6_number 50 = .ok (.iload_n 1, 1) := by decide +kernel
theorem dX6_number_51 : decode cX6_number 51 = .ok (.ireturn, 1) := by decide +kernel
theorem dX6_rowsToGo_0 : decode cX6_rowsToGo 0 = .ok (.iconst 1, 1) := by decide +kernel
theorem dX6_rowsToGo_1 : decode cX6_rowsToGo 1 = .ok (.aload_n 0, 1) := by decide +kernel
theorem dX6_rowsToGo_2 : decode cX6_rowsToGo 2 = .ok (.bipush 49, 2) := by decide +kernel
theorem dX6_rowsToGo_4 : decode cX6_rowsToGo 4 = .ok (.bipush 57, 2) := by decide +kernel
theorem dX6_rowsToGo_6 : decode cX6_rowsToGo 6 = .ok (.invokevirtual 164, 3) := by decide +kernel
theorem dX6_rowsToGo_9 : decode cX6_rowsToGo 9 = .ok (.iadd, 1) := by decide +kernel
theorem dX6_rowsToGo_10 : decode cX6_rowsToGo 10 = .ok (.istore_n 1, 1) := by decide +kernel
theorem dX6_rowsToGo_11 : decode cX6_rowsToGo 11 = .ok (.aload_n 0, 1) := by decide +kernel
theorem dX6_rowsToGo_12 : decode cX6_rowsToGo 12 = .ok (.getfield 157, 3) := by decide +kernel
theorem dX6_rowsToGo_15 : decode cX6_rowsToGo 15 = .ok (.ifCond .eq 36, 3) := by decide +kernel
theorem dX6_rowsToGo_18 : decode cX6_rowsToGo 18 = .ok (.iload_n 1, 1) := by decide +kernel
theorem dX6_rowsToGo_19 : decode cX6_rowsToGo 19 = .ok (.iconst 1, 1) := by decide +kernel
theorem dX6_rowsToGo_20 : decode cX6_rowsToGo 20 = .ok (.if_icmp .ne 31, 3) := by decide +kernel
theorem dX6_rowsToGo_23 : decode cX6_rowsToGo 23 = .ok (.aload_n 0, 1) := by decide +kernel
theorem dX6_rowsToGo_24 : decode cX6_rowsToGo 24 = .ok (.invokevirtual 161, 3) := by decide +kernel
theorem dX6_rowsToGo_27 : decode cX6_rowsToGo 27 = .ok (.bipush 48, 2) := by decide +kernel
theorem dX6_rowsToGo_29 : decode cX6_rowsToGo 29 = .ok (.bipush 50, 2) := by decide +kernel
theorem dX6_rowsToGo_31 : decode cX6_rowsToGo 31 = .ok (.invokestatic 32, 3) := by decide +kernel
theorem dX6_rowsToGo_34 : decode cX6_rowsToGo 34 = .ok (.ifCond .eq 17, 3) := by decide +kernel
theorem dX6_rowsToGo_37 : decode cX6_rowsToGo 37 = .ok (.bipush 10, 2) := by decide +kernel
theorem dX6_rowsToGo_39 : decode cX6_rowsToGo 39 = .ok (.aload_n 0, 1) := by decide +kernel
theorem dX6_rowsToGo_40 : decode cX6_rowsToGo 40 = .ok (.bipush 48, 2) := by decide +kernel
theorem dX6_rowsToGo_42 : decode cX6_rowsToGo 42 = .ok (.bipush 50, 2) := by decide +kernel
theorem dX6_rowsToGo_44 : decode cX6_rowsToGo 44 = .ok (.invokevirtual 164, 3) := by decide +kernel
theorem dX6_rowsToGo_47 : decode cX6_rowsToGo 47 = .ok (.iadd, 1) := by decide +kernel
theorem dX6_rowsToGo_48 : decode cX6_rowsToGo 48 = .ok (.goto 4, 3) := by decide +kernel
theorem dX6_rowsToGo_51 : decode cX6_rowsToGo 51 = .ok (.iload_n 1, 1) := by decide +kernel
theorem dX6_rowsToGo_52 : decode cX6_rowsToGo 52 = .ok (.ireturn, 1) := by decide +kernel
theorem dX6_lays_0 : decode cX6_lays 0 = .ok (.aload_n 0, 1) := by decide +kernel
theorem dX6_lays_1 : decode cX6_lays 1 = .ok (.getfield 157, 3) := by decide +kernel
theorem dX6_lays_4 : decode cX6_lays 4 = .ok (.ifCond .eq 68, 3) := by decide +kernel
theorem dX6_lays_7 : decode cX6_lays 7 = .ok (.aload_n 0, 1) := by decide +kernel
theorem dX6_lays_8 : decode cX6_lays 8 = .ok (.getfield 22, 3) := by decide +kernel
theorem dX6_lays_11 : decode cX6_lays 11 = .ok (.iconst 4, 1) := by decide +kernel
theorem dX6_lays_12 : decode cX6_lays 12 = .ok (.aload_n 0, 1) := by decide +kernel
theorem dX6_lays_13 : decode cX6_lays 13 = .ok (.getfield 167, 3) := by decide +kernel
theorem dX6_lays_16 : decode cX6_lays 16 = .ok (.imul, 1) := by decide +kernel
theorem dX6_lays_17 : decode cX6_lays 17 = .ok (.iload_n 1, 1) := by decide +kernel
theorem dX6_lays_18 : decode cX6_lays 18 = .ok (.iastore, 1) := by decide +kernel
theorem dX6_lays_19 : decode cX6_lays 19 = .ok (.aload_n 0, 1) := by decide +kernel
theorem dX6_lays_20 : decode cX6_lays 20 = .ok (.getfield 22, 3) := by decide +kernel
theorem dX6_lays_23 : decode cX6_lays 23 = .ok (.iconst 4, 1) := by decide +kernel
theorem dX6_lays_24 : decode cX6_lays 24 = .ok (.aload_n 0, 1) := by decide +kernel
theorem dX6_lays_25 : decode cX6_lays 25 = .ok (.getfield 167, 3) := by decide +kernel
theorem dX6_lays_28 : decode cX6_lays 28 = .ok (.imul, 1) := by decide +kernel
theorem dX6_lays_29 : decode cX6_lays 29 = .ok (.iconst 1, 1) := by decide +kernel
theorem dX6_lays_30 : decode cX6_lays 30 = .ok (.iadd, 1) := by decide +kernel
theorem dX6_lays_31 : decode cX6_lays 31 = .ok (.iload_n 2, 1) := by decide +kernel
theorem dX6_lays_32 : decode cX6_lays 32 = .ok (.iastore, 1) := by decide +kernel
theorem dX6_lays_33 : decode cX6_lays 33 = .ok (.aload_n 0, 1) := by decide +kernel
theorem dX6_lays_34 : decode cX6_lays 34 = .ok (.getfield 22, 3) := by decide +kernel
theorem dX6_lays_37 : decode cX6_lays 37 = .ok (.iconst 4, 1) := by decide +kernel
theorem dX6_lays_38 : decode cX6_lays 38 = .ok (.aload_n 0, 1) := by decide +kernel
theorem dX6_lays_39 : decode cX6_lays 39 = .ok (.getfield 167, 3) := by decide +kernel
theorem dX6_lays_42 : decode cX6_lays 42 = .ok (.imul, 1) := by decide +kernel
theorem dX6_lays_43 : decode cX6_lays 43 = .ok (.iconst 2, 1) := by decide +kernel
theorem dX6_lays_44 : decode cX6_lays 44 = .ok (.iadd, 1) := by decide +kernel
theorem dX6_lays_45 : decode cX6_lays 45 = .ok (.iload_n 3, 1) := by decide +kernel
theorem dX6_lays_46 : decode cX6_lays 46 = .ok (.iastore, 1) := by decide +kernel
theorem dX6_lays_47 : decode cX6_lays 47 = .ok (.aload_n 0, 1) := by decide +kernel
theorem dX6_lays_48 : decode cX6_lays 48 = .ok (.getfield 22, 3) := by decide +kernel
theorem dX6_lays_51 : decode cX6_lays 51 = .ok (.iconst 4, 1) := by decide +kernel
theorem dX6_lays_52 : decode cX6_lays 52 = .ok (.aload_n 0, 1) := by decide +kernel
theorem dX6_lays_53 : decode cX6_lays 53 = .ok (.getfield 167, 3) := by decide +kernel
theorem dX6_lays_56 : decode cX6_lays 56 = .ok (.imul, 1) := by decide +kernel
theorem dX6_lays_57 : decode cX6_lays 57 = .ok (.iconst 3, 1) := by decide +kernel
theorem dX6_lays_58 : decode cX6_lays 58 = .ok (.iadd, 1) := by decide +kernel
theorem dX6_lays_59 : decode cX6_lays 59 = .ok (.iload 4, 2) := by decide +kernel
theorem dX6_lays_61 : decode cX6_lays 61 = .ok (.iastore, 1) := by decide +kernel
theorem dX6_lays_62 : decode cX6_lays 62 = .ok (.aload_n 0, 1) := by decide +kernel
theorem dX6_lays_63 : decode cX6_lays 63 = .ok (.dup, 1) := by decide +kernel
theorem dX6_lays_64 : decode cX6_lays 64 = .ok (.getfield 167, 3) := by decide +kernel
theorem dX6_lays_67 : decode cX6_lays 67 = .ok (.iconst 1, 1) := by decide +kernel
theorem dX6_lays_68 : decode cX6_lays 68 = .ok (.iadd, 1) := by decide +kernel
theorem dX6_lays_69 : decode cX6_lays 69 = .ok (.putfield 167, 3) := by decide +kernel
theorem dX6_lays_72 : decode cX6_lays 72 = .ok (.return_, 1) := by decide +kernel
theorem dX6_readsAdding_0 : decode cX6_readsAdding 0 = .ok (.aload_n 0, 1) := by decide +kernel
theorem dX6_readsAdding_1 : decode cX6_readsAdding 1 = .ok (.bipush 97, 2) := by decide +kernel
theorem dX6_readsAdding_3 : decode cX6_readsAdding 3 = .ok (.bipush 104, 2) := by decide +kernel
theorem dX6_readsAdding_5 : decode cX6_readsAdding 5 = .ok (.invokevirtual 164, 3) := by decide +kernel
theorem dX6_readsAdding_8 : decode cX6_readsAdding 8 = .ok (.istore_n 1, 1) := by decide +kernel
theorem dX6_readsAdding_9 : decode cX6_readsAdding 9 = .ok (.aload_n 0, 1) := by decide +kernel
theorem dX6_readsAdding_10 : decode cX6_readsAdding 10 = .ok (.getfield 157, 3) := by decide +kernel
theorem dX6_readsAdding_13 : decode cX6_readsAdding 13 = .ok (.ifCond .eq 38, 3) := by decide +kernel
theorem dX6_readsAdding_16 : decode cX6_readsAdding 16 = .ok (.aload_n 0, 1) := by decide +kernel
theorem dX6_readsAdding_17 : decode cX6_readsAdding 17 = .ok (.invokevirtual 161, 3) := by decide +kernel
theorem dX6_readsAdding_20 : decode cX6_readsAdding 20 = .ok (.bipush 61, 2) := by decide +kernel
theorem dX6_readsAdding_22 : decode cX6_readsAdding 22 = .ok (.if_icmp .ne 29, 3) := by decide +kernel
theorem dX6_readsAdding_25 : decode cX6_readsAdding 25 = .ok (.aload_n 0, 1) := by decide +kernel
theorem dX6_readsAdding_26 : decode cX6_readsAdding 26 = .ok (.dup, 1) := by decide +kernel
theorem dX6_readsAdding_27 : decode cX6_readsAdding 27 = .ok (.getfield 154, 3) := by decide +kernel
theorem dX6_readsAdding_30 : decode cX6_readsAdding 30 = .ok (.iconst 1, 1) := by decide +kernel
theorem dX6_readsAdding_31 : decode cX6_readsAdding 31 = .ok (.iadd, 1) := by decide +kernel
theorem dX6_readsAdding_32 : decode cX6_readsAdding 32 = .ok (.putfield 154, 3) := by decide +kernel
theorem dX6_readsAdding_35 : decode cX6_readsAdding 35 = .ok (.aload_n 0, 1) := by decide +kernel
theorem dX6_readsAdding_36 : decode cX6_readsAdding 36 = .ok (.invokevirtual 170, 3) := by decide +kernel
theorem dX6_readsAdding_39 : decode cX6_readsAdding 39 = .ok (.istore_n 2, 1) := by decide +kernel
theorem dX6_readsAdding_40 : decode cX6_readsAdding 40 = .ok (.aload_n 0, 1) := by decide +kernel
theorem dX6_readsAdding_41 : decode cX6_readsAdding 41 = .ok (.iconst 1, 1) := by decide +kernel
theorem dX6_readsAdding_42 : decode cX6_readsAdding 42 = .ok (.iload_n 1, 1) := by decide +kernel
theorem dX6_readsAdding_43 : decode cX6_readsAdding 43 = .ok (.iload_n 2, 1) := by decide +kernel
theorem dX6_readsAdding_44 : decode cX6_readsAdding 44 = .ok (.iconst 0, 1) := by decide +kernel
theorem dX6_readsAdding_45 : decode cX6_readsAdding 45 = .ok (.invokevirtual 173, 3) := by decide +kernel
theorem dX6_readsAdding_48 : decode cX6_readsAdding 48 = .ok (.goto 66, 3) := by decide +kernel
theorem dX6_readsAdding_51 : decode cX6_readsAdding 51 = .ok (.aload_n 0, 1) := by decide +kernel
theorem dX6_readsAdding_52 : decode cX6_readsAdding 52 = .ok (.bipush 58, 2) := by decide +kernel
theorem dX6_readsAdding_54 : decode cX6_readsAdding 54 = .ok (.bipush 58, 2) := by decide +kernel
theorem dX6_readsAdding_56 : decode cX6_readsAdding 56 = .ok (.invokevirtual 164, 3) := by decide +kernel
theorem dX6_readsAdding_59 : decode cX6_readsAdding 59 = .ok (.pop, 1) := by decide +kernel
theorem dX6_readsAdding_60 : decode cX6_readsAdding 60 = .ok (.aload_n 0, 1) := by decide +kernel
theorem dX6_readsAdding_61 : decode cX6_readsAdding 61 = .ok (.bipush 97, 2) := by decide +kernel
theorem dX6_readsAdding_63 : decode cX6_readsAdding 63 = .ok (.bipush 104, 2) := by decide +kernel
theorem dX6_readsAdding_65 : decode cX6_readsAdding 65 = .ok (.invokevirtual 164, 3) := by decide +kernel
theorem dX6_readsAdding_68 : decode cX6_readsAdding 68 = .ok (.istore_n 2, 1) := by decide +kernel
theorem dX6_readsAdding_69 : decode cX6_readsAdding 69 = .ok (.iconst (-1), 1) := by decide +kernel
theorem dX6_readsAdding_70 : decode cX6_readsAdding 70 = .ok (.istore_n 3, 1) := by decide +kernel
theorem dX6_readsAdding_71 : decode cX6_readsAdding 71 = .ok (.aload_n 0, 1) := by decide +kernel
theorem dX6_readsAdding_72 : decode cX6_readsAdding 72 = .ok (.getfield 157, 3) := by decide +kernel
theorem dX6_readsAdding_75 : decode cX6_readsAdding 75 = .ok (.ifCond .eq 31, 3) := by decide +kernel
theorem dX6_readsAdding_78 : decode cX6_readsAdding 78 = .ok (.aload_n 0, 1) := by decide +kernel
theorem dX6_readsAdding_79 : decode cX6_readsAdding 79 = .ok (.invokevirtual 161, 3) := by decide +kernel
theorem dX6_readsAdding_82 : decode cX6_readsAdding 82 = .ok (.bipush 43, 2) := by decide +kernel
theorem dX6_readsAdding_84 : decode cX6_readsAdding 84 = .ok (.if_icmp .ne 22, 3) := by decide +kernel
theorem dX6_readsAdding_87 : decode cX6_readsAdding 87 = .ok (.aload_n 0, 1) := by decide +kernel
theorem dX6_readsAdding_88 : decode cX6_readsAdding 88 = .ok (.dup, 1) := by decide +kernel
theorem dX6_readsAdding_89 : decode cX6_readsAdding 89 = .ok (.getfield 154, 3) := by decide +kernel
theorem dX6_readsAdding_92 : decode cX6_readsAdding 92 = .ok (.iconst 1, 1) := by decide +kernel
theorem dX6_readsAdding_93 : decode cX6_readsAdding 93 = .ok (.iadd, 1) := by decide +kernel
theorem dX6_readsAdding_94 : decode cX6_readsAdding 94 = .ok (.putfield 154, 3) := by decide +kernel
theorem dX6_readsAdding_97 : decode cX6_readsAdding 97 = .ok (.aload_n 0, 1) := by decide +kernel
theorem dX6_readsAdding_98 : decode cX6_readsAdding 98 = .ok (.bipush 97, 2) := by decide +kernel
theorem dX6_readsAdding_100 : decode cX6_readsAdding 100 = .ok (.bipush 104, 2) := by decide +kernel
theorem dX6_readsAdding_102 : decode cX6_readsAdding 102 = .ok (.invokevirtual 164, 3) := by decide +kernel
theorem dX6_readsAdding_105 : decode cX6_readsAdding 105 = .ok (.istore_n 3, 1) := by decide +kernel
theorem dX6_readsAdding_106 : decode cX6_readsAdding 106 = .ok (.aload_n 0, 1) := by decide +kernel
theorem dX6_readsAdding_107 : decode cX6_readsAdding 107 = .ok (.iconst 2, 1) := by decide +kernel
theorem dX6_readsAdding_108 : decode cX6_readsAdding 108 = .ok (.iload_n 1, 1) := by decide +kernel
theorem dX6_readsAdding_109 : decode cX6_readsAdding 109 = .ok (.iload_n 2, 1) := by decide +kernel
theorem dX6_readsAdding_110 : decode cX6_readsAdding 110 = .ok (.iload_n 3, 1) := by decide +kernel
theorem dX6_readsAdding_111 : decode cX6_readsAdding 111 = .ok (.invokevirtual 173, 3) := by decide +kernel
theorem dX6_readsAdding_114 : decode cX6_readsAdding 114 = .ok (.return_, 1) := by decide +kernel
theorem dX6_readsOrder_0 : decode cX6_readsOrder 0 = .ok (.aload_n 0, 1) := by decide +kernel
theorem dX6_readsOrder_1 : decode cX6_readsOrder 1 = .ok (.invokevirtual 161, 3) := by decide +kernel
theorem dX6_readsOrder_4 : decode cX6_readsOrder 4 = .ok (.istore_n 1, 1) := by decide +kernel
theorem dX6_readsOrder_5 : decode cX6_readsOrder 5 = .ok (.iload_n 1, 1) := by decide +kernel
theorem dX6_readsOrder_6 : decode cX6_readsOrder 6 = .ok (.bipush 43, 2) := by decide +kernel
theorem dX6_readsOrder_8 : decode cX6_readsOrder 8 = .ok (.if_icmp .eq 27, 3) := by decide +kernel
theorem dX6_readsOrder_11 : decode cX6_readsOrder 11 = .ok (.iload_n 1, 1) := by decide +kernel
theorem dX6_readsOrder_12 : decode cX6_readsOrder 12 = .ok (.bipush 45, 2) := by decide +kernel
theorem dX6_readsOrder_14 : decode cX6_readsOrder 14 = .ok (.if_icmp .eq 21, 3) := by decide +kernel
theorem dX6_readsOrder_17 : decode cX6_readsOrder 17 = .ok (.iload_n 1, 1) := by decide +kernel
theorem dX6_readsOrder_18 : decode cX6_readsOrder 18 = .ok (.bipush 62, 2) := by decide +kernel
theorem dX6_readsOrder_20 : decode cX6_readsOrder 20 = .ok (.if_icmp .eq 15, 3) := by decide +kernel
theorem dX6_readsOrder_23 : decode cX6_readsOrder 23 = .ok (.iload_n 1, 1) := by decide +kernel
theorem dX6_readsOrder_24 : decode cX6_readsOrder 24 = .ok (.bipush 110, 2) := by decide +kernel
theorem dX6_readsOrder_26 : decode cX6_readsOrder 26 = .ok (.if_icmp .eq 9, 3) := by decide +kernel
theorem dX6_readsOrder_29 : decode cX6_readsOrder 29 = .ok (.iload_n 1, 1) := by decide +kernel
theorem dX6_readsOrder_30 : decode cX6_readsOrder 30 = .ok (.bipush 42, 2) := by decide +kernel
theorem dX6_readsOrder_32 : decode cX6_readsOrder 32 = .ok (.if_icmp .ne 7, 3) := by decide +kernel
theorem dX6_readsOrder_35 : decode cX6_readsOrder 35 = .ok (.iconst 1, 1) := by decide +kernel
theorem dX6_readsOrder_36 : decode cX6_readsOrder 36 = .ok (.goto 4, 3) := by decide +kernel
theorem dX6_readsOrder_39 : decode cX6_readsOrder 39 = .ok (.iconst 0, 1) := by decide +kernel
theorem dX6_readsOrder_40 : decode cX6_readsOrder 40 = .ok (.istore_n 2, 1) := by decide +kernel
theorem dX6_readsOrder_41 : decode cX6_readsOrder 41 = .ok (.aload_n 0, 1) := by decide +kernel
theorem dX6_readsOrder_42 : decode cX6_readsOrder 42 = .ok (.aload_n 0, 1) := by decide +kernel
theorem dX6_readsOrder_43 : decode cX6_readsOrder 43 = .ok (.getfield 157, 3) := by decide +kernel
theorem dX6_readsOrder_46 : decode cX6_readsOrder 46 = .ok (.ifCond .eq 11, 3) := by decide +kernel
theorem dX6_readsOrder_49 : decode cX6_readsOrder 49 = .ok (.iload_n 2, 1) := by decide +kernel
theorem dX6_readsOrder_50 : decode cX6_readsOrder 50 = .ok (.ifCond .eq 7, 3) := by decide +kernel
theorem dX6_readsOrder_53 : decode cX6_readsOrder 53 = .ok (.iconst 1, 1) := by decide +kernel
theorem dX6_readsOrder_54 : decode cX6_readsOrder 54 = .ok (.goto 4, 3) := by decide +kernel
theorem dX6_readsOrder_57 : decode cX6_readsOrder 57 = .ok (.iconst 0, 1) := by decide +kernel
theorem dX6_readsOrder_58 : decode cX6_readsOrder 58 = .ok (.putfield 157, 3) := by decide +kernel
theorem dX6_readsOrder_61 : decode cX6_readsOrder 61 = .ok (.aload_n 0, 1) := by decide +kernel
theorem dX6_readsOrder_62 : decode cX6_readsOrder 62 = .ok (.dup, 1) := by decide +kernel
theorem dX6_readsOrder_63 : decode cX6_readsOrder 63 = .ok (.getfield 154, 3) := by decide +kernel
theorem dX6_readsOrder_66 : decode cX6_readsOrder 66 = .ok (.aload_n 0, 1) := by decide +kernel
theorem dX6_readsOrder_67 : decode cX6_readsOrder 67 = .ok (.getfield 157, 3) := by decide +kernel
theorem dX6_readsOrder_70 : decode cX6_readsOrder 70 = .ok (.ifCond .eq 7, 3) := by decide +kernel
theorem dX6_readsOrder_73 : decode cX6_readsOrder 73 = .ok (.iconst 1, 1) := by decide +kernel
theorem dX6_readsOrder_74 : decode cX6_readsOrder 74 = .ok (.goto 4, 3) := by decide +kernel
theorem dX6_readsOrder_77 : decode cX6_readsOrder 77 = .ok (.iconst 0, 1) := by decide +kernel
theorem dX6_readsOrder_78 : decode cX6_readsOrder 78 = .ok (.iadd, 1) := by decide +kernel
theorem dX6_readsOrder_79 : decode cX6_readsOrder 79 = .ok (.putfield 154, 3) := by decide +kernel
theorem dX6_readsOrder_82 : decode cX6_readsOrder 82 = .ok (.aload_n 0, 1) := by decide +kernel
theorem dX6_readsOrder_83 : decode cX6_readsOrder 83 = .ok (.getfield 157, 3) := by decide +kernel
theorem dX6_readsOrder_86 : decode cX6_readsOrder 86 = .ok (.ifCond .ne 4, 3) := by decide +kernel
theorem dX6_readsOrder_89 : decode cX6_readsOrder 89 = .ok (.return_, 1) := by decide +kernel
theorem dX6_readsOrder_90 : decode cX6_readsOrder 90 = .ok (.iload_n 1, 1) := by decide +kernel
theorem dX6_readsOrder_91 : decode cX6_readsOrder 91 = .ok (.bipush 43, 2) := by decide +kernel
theorem dX6_readsOrder_93 : decode cX6_readsOrder 93 = .ok (.if_icmp .ne 10, 3) := by decide +kernel
theorem dX6_readsOrder_96 : decode cX6_readsOrder 96 = .ok (.aload_n 0, 1) := by decide +kernel
theorem dX6_readsOrder_97 : decode cX6_readsOrder 97 = .ok (.invokevirtual 177, 3) := by decide +kernel
theorem dX6_readsOrder_100 : decode cX6_readsOrder 100 = .ok (.goto 114, 3) := by decide +kernel
theorem dX6_readsOrder_103 : decode cX6_readsOrder 103 = .ok (.iload_n 1, 1) := by decide +kernel
theorem dX6_readsOrder_104 : decode cX6_readsOrder 104 = .ok (.bipush 45, 2) := by decide +kernel
theorem dX6_readsOrder_106 : decode cX6_readsOrder 106 = .ok (.if_icmp .ne 39, 3) := by decide +kernel
theorem dX6_readsOrder_109 : decode cX6_readsOrder 109 = .ok (.aload_n 0, 1) := by decide +kernel
theorem dX6_readsOrder_110 : decode cX6_readsOrder 110 = .ok (.bipush 97, 2) := by decide +kernel
theorem dX6_readsOrder_112 : decode cX6_readsOrder 112 = .ok (.bipush 104, 2) := by decide +kernel
theorem dX6_readsOrder_114 : decode cX6_readsOrder 114 = .ok (.invokevirtual 164, 3) := by decide +kernel
theorem dX6_readsOrder_117 : decode cX6_readsOrder 117 = .ok (.istore_n 3, 1) := by decide +kernel
theorem dX6_readsOrder_118 : decode cX6_readsOrder 118 = .ok (.aload_n 0, 1) := by decide +kernel
theorem dX6_readsOrder_119 : decode cX6_readsOrder 119 = .ok (.bipush 61, 2) := by decide +kernel
theorem dX6_readsOrder_121 : decode cX6_readsOrder 121 = .ok (.bipush 61, 2) := by decide +kernel
theorem dX6_readsOrder_123 : decode cX6_readsOrder 123 = .ok (.invokevirtual 164, 3) := by decide +kernel
theorem dX6_readsOrder_126 : decode cX6_readsOrder 126 = .ok (.pop, 1) := by decide +kernel
theorem dX6_readsOrder_127 : decode cX6_readsOrder 127 = .ok (.aload_n 0, 1) := by decide +kernel
theorem dX6_readsOrder_128 : decode cX6_readsOrder 128 = .ok (.invokevirtual 170, 3) := by decide +kernel
theorem dX6_readsOrder_131 : decode cX6_readsOrder 131 = .ok (.istore 4, 2) := by decide +kernel
theorem dX6_readsOrder_133 : decode cX6_readsOrder 133 = .ok (.aload_n 0, 1) := by decide +kernel
theorem dX6_readsOrder_134 : decode cX6_readsOrder 134 = .ok (.iconst 4, 1) := by decide +kernel
theorem dX6_readsOrder_135 : decode cX6_readsOrder 135 = .ok (.iload_n 3, 1) := by decide +kernel
theorem dX6_readsOrder_136 : decode cX6_readsOrder 136 = .ok (.iload 4, 2) := by decide +kernel
theorem dX6_readsOrder_138 : decode cX6_readsOrder 138 = .ok (.iconst 0, 1) := by decide +kernel
theorem dX6_readsOrder_139 : decode cX6_readsOrder 139 = .ok (.invokevirtual 173, 3) := by decide +kernel
theorem dX6_readsOrder_142 : decode cX6_readsOrder 142 = .ok (.goto 72, 3) := by decide +kernel
theorem dX6_readsOrder_145 : decode cX6_readsOrder 145 = .ok (.iload_n 1, 1) := by decide +kernel
theorem dX6_readsOrder_146 : decode cX6_readsOrder 146 = .ok (.bipush 62, 2) := by decide +kernel
theorem dX6_readsOrder_148 : decode cX6_readsOrder 148 = .ok (.if_icmp .ne 34, 3) := by decide +kernel
theorem dX6_readsOrder_151 : decode cX6_readsOrder 151 = .ok (.aload_n 0, 1) := by decide +kernel
theorem dX6_readsOrder_152 : decode cX6_readsOrder 152 = .ok (.bipush 97, 2) := by decide +kernel
theorem dX6_readsOrder_154 : decode cX6_readsOrder 154 = .ok (.bipush 104, 2) := by decide +kernel
theorem dX6_readsOrder_156 : decode cX6_readsOrder 156 = .ok (.invokevirtual 164, 3) := by decide +kernel
theorem dX6_readsOrder_159 : decode cX6_readsOrder 159 = .ok (.istore_n 3, 1) := by decide +kernel
theorem dX6_readsOrder_160 : decode cX6_readsOrder 160 = .ok (.aload_n 0, 1) := by decide +kernel
theorem dX6_readsOrder_161 : decode cX6_readsOrder 161 = .ok (.bipush 97, 2) := by decide +kernel
theorem dX6_readsOrder_163 : decode cX6_readsOrder 163 = .ok (.bipush 104, 2) := by decide +kernel
theorem dX6_readsOrder_165 : decode cX6_readsOrder 165 = .ok (.invokevirtual 164, 3) := by decide +kernel
theorem dX6_readsOrder_168 : decode cX6_readsOrder 168 = .ok (.istore 4, 2) := by decide +kernel
theorem dX6_readsOrder_170 : decode cX6_readsOrder 170 = .ok (.aload_n 0, 1) := by decide +kernel
theorem dX6_readsOrder_171 : decode cX6_readsOrder 171 = .ok (.iconst 5, 1) := by decide +kernel
theorem dX6_readsOrder_172 : decode cX6_readsOrder 172 = .ok (.iload_n 3, 1) := by decide +kernel
theorem dX6_readsOrder_173 : decode cX6_readsOrder 173 = .ok (.iload 4, 2) := by decide +kernel
theorem dX6_readsOrder_175 : decode cX6_readsOrder 175 = .ok (.iconst 0, 1) := by decide +kernel
theorem dX6_readsOrder_176 : decode cX6_readsOrder 176 = .ok (.invokevirtual 173, 3) := by decide +kernel
theorem dX6_readsOrder_179 : decode cX6_readsOrder 179 = .ok (.goto 35, 3) := by decide +kernel
theorem dX6_readsOrder_182 : decode cX6_readsOrder 182 = .ok (.iload_n 1, 1) := by decide +kernel
theorem dX6_readsOrder_183 : decode cX6_readsOrder 183 = .ok (.bipush 110, 2) := by decide +kernel
theorem dX6_readsOrder_185 : decode cX6_readsOrder 185 = .ok (.if_icmp .ne 15, 3) := by decide +kernel
theorem dX6_readsOrder_188 : decode cX6_readsOrder 188 = .ok (.aload_n 0, 1) := by decide +kernel
theorem dX6_readsOrder_189 : decode cX6_readsOrder 189 = .ok (.bipush 6, 2) := by decide +kernel
theorem dX6_readsOrder_191 : decode cX6_readsOrder 191 = .ok (.iconst 0, 1) := by decide +kernel
theorem dX6_readsOrder_192 : decode cX6_readsOrder 192 = .ok (.iconst 0, 1) := by decide +kernel
theorem dX6_readsOrder_193 : decode cX6_readsOrder 193 = .ok (.iconst 0, 1) := by decide +kernel
theorem dX6_readsOrder_194 : decode cX6_readsOrder 194 = .ok (.invokevirtual 173, 3) := by decide +kernel
theorem dX6_readsOrder_197 : decode cX6_readsOrder 197 = .ok (.goto 17, 3) := by decide +kernel
theorem dX6_readsOrder_200 : decode cX6_readsOrder 200 = .ok (.aload_n 0, 1) := by decide +kernel
theorem dX6_readsOrder_201 : decode cX6_readsOrder 201 = .ok (.invokevirtual 180, 3) := by decide +kernel
theorem dX6_readsOrder_204 : decode cX6_readsOrder 204 = .ok (.istore_n 3, 1) := by decide +kernel
theorem dX6_readsOrder_205 : decode cX6_readsOrder 205 = .ok (.aload_n 0, 1) := by decide +kernel
theorem dX6_readsOrder_206 : decode cX6_readsOrder 206 = .ok (.bipush 7, 2) := by decide +kernel
theorem dX6_readsOrder_208 : decode cX6_readsOrder 208 = .ok (.iload_n 3, 1) := by decide +kernel
theorem dX6_readsOrder_209 : decode cX6_readsOrder 209 = .ok (.iconst 0, 1) := by decide +kernel
theorem dX6_readsOrder_210 : decode cX6_readsOrder 210 = .ok (.iconst 0, 1) := by decide +kernel
theorem dX6_readsOrder_211 : decode cX6_readsOrder 211 = .ok (.invokevirtual 173, 3) := by decide +kernel
theorem dX6_readsOrder_214 : decode cX6_readsOrder 214 = .ok (.return_, 1) := by decide +kernel
theorem dX6_readsAll_0 : decode cX6_readsAll 0 = .ok (.aload_n 0, 1) := by decide +kernel
theorem dX6_readsAll_1 : decode cX6_readsAll 1 = .ok (.iconst 0, 1) := by decide +kernel
theorem dX6_readsAll_2 : decode cX6_readsAll 2 = .ok (.putfield 154, 3) := by decide +kernel
theorem dX6_readsAll_5 : decode cX6_readsAll 5 = .ok (.aload_n 0, 1) := by decide +kernel
theorem dX6_readsAll_6 : decode cX6_readsAll 6 = .ok (.iconst 1, 1) := by decide +kernel
theorem dX6_readsAll_7 : decode cX6_readsAll 7 = .ok (.putfield 157, 3) := by decide +kernel
theorem dX6_readsAll_10 : decode cX6_readsAll 10 = .ok (.aload_n 0, 1) := by decide +kernel
theorem dX6_readsAll_11 : decode cX6_readsAll 11 = .ok (.iconst 0, 1) := by decide +kernel
theorem dX6_readsAll_12 : decode cX6_readsAll 12 = .ok (.putfield 167, 3) := by decide +kernel
theorem dX6_readsAll_15 : decode cX6_readsAll 15 = .ok (.aload_n 0, 1) := by decide +kernel
theorem dX6_readsAll_16 : decode cX6_readsAll 16 = .ok (.invokevirtual 183, 3) := by decide +kernel
theorem dX6_readsAll_19 : decode cX6_readsAll 19 = .ok (.aload_n 0, 1) := by decide +kernel
theorem dX6_readsAll_20 : decode cX6_readsAll 20 = .ok (.getfield 157, 3) := by decide +kernel
theorem dX6_readsAll_23 : decode cX6_readsAll 23 = .ok (.ifCond .eq 37, 3) := by decide +kernel
theorem dX6_readsAll_26 : decode cX6_readsAll 26 = .ok (.aload_n 0, 1) := by decide +kernel
theorem dX6_readsAll_27 : decode cX6_readsAll 27 = .ok (.getfield 154, 3) := by decide +kernel
theorem dX6_readsAll_30 : decode cX6_readsAll 30 = .ok (.aload_n 0, 1) := by decide +kernel
theorem dX6_readsAll_31 : decode cX6_readsAll 31 = .ok (.getfield 151, 3) := by decide +kernel
theorem dX6_readsAll_34 : decode cX6_readsAll 34 = .ok (.if_icmp .ge 26, 3) := by decide +kernel
theorem dX6_readsAll_37 : decode cX6_readsAll 37 = .ok (.aload_n 0, 1) := by decide +kernel
theorem dX6_readsAll_38 : decode cX6_readsAll 38 = .ok (.bipush 59, 2) := by decide +kernel
theorem dX6_readsAll_40 : decode cX6_readsAll 40 = .ok (.bipush 59, 2) := by decide +kernel
theorem dX6_readsAll_42 : decode cX6_readsAll 42 = .ok (.invokevirtual 164, 3) := by decide +kernel
theorem dX6_readsAll_45 : decode cX6_readsAll 45 = .ok (.pop, 1) := by decide +kernel
theorem dX6_readsAll_46 : decode cX6_readsAll 46 = .ok (.aload_n 0, 1) := by decide +kernel
theorem dX6_readsAll_47 : decode cX6_readsAll 47 = .ok (.getfield 157, 3) := by decide +kernel
theorem dX6_readsAll_50 : decode cX6_readsAll 50 = .ok (.ifCond .eq (-31), 3) := by decide +kernel
theorem dX6_readsAll_53 : decode cX6_readsAll 53 = .ok (.aload_n 0, 1) := by decide +kernel
theorem dX6_readsAll_54 : decode cX6_readsAll 54 = .ok (.invokevirtual 183, 3) := by decide +kernel
theorem dX6_readsAll_57 : decode cX6_readsAll 57 = .ok (.goto (-38), 3) := by decide +kernel
theorem dX6_readsAll_60 : decode cX6_readsAll 60 = .ok (.return_, 1) := by decide +kernel
theorem dX6_firstError_0 : decode cX6_firstError 0 = .ok (.aload_n 0, 1) := by decide +kernel
theorem dX6_firstError_1 : decode cX6_firstError 1 = .ok (.iconst 0, 1) := by decide +kernel
theorem dX6_firstError_2 : decode cX6_firstError 2 = .ok (.putfield 25, 3) := by decide +kernel
theorem dX6_firstError_5 : decode cX6_firstError 5 = .ok (.aload_n 0, 1) := by decide +kernel
theorem dX6_firstError_6 : decode cX6_firstError 6 = .ok (.invokevirtual 186, 3) := by decide +kernel
theorem dX6_firstError_9 : decode cX6_firstError 9 = .ok (.aload_n 0, 1) := by decide +kernel
theorem dX6_firstError_10 : decode cX6_firstError 10 = .ok (.getfield 154, 3) := by decide +kernel
theorem dX6_firstError_13 : decode cX6_firstError 13 = .ok (.ireturn, 1) := by decide +kernel
theorem dX6_does_0 : decode cX6_does 0 = .ok (.aload_n 0, 1) := by decide +kernel
theorem dX6_does_1 : decode cX6_does 1 = .ok (.getfield 22, 3) := by decide +kernel
theorem dX6_does_4 : decode cX6_does 4 = .ok (.iconst 4, 1) := by decide +kernel
theorem dX6_does_5 : decode cX6_does 5 = .ok (.iload_n 1, 1) := by decide +kernel
theorem dX6_does_6 : decode cX6_does 6 = .ok (.imul, 1) := by decide +kernel
theorem dX6_does_7 : decode cX6_does 7 = .ok (.iconst 1, 1) := by decide +kernel
theorem dX6_does_8 : decode cX6_does 8 = .ok (.iadd, 1) := by decide +kernel
theorem dX6_does_9 : decode cX6_does 9 = .ok (.iaload, 1) := by decide +kernel
theorem dX6_does_10 : decode cX6_does 10 = .ok (.istore_n 2, 1) := by decide +kernel
theorem dX6_does_11 : decode cX6_does 11 = .ok (.aload_n 0, 1) := by decide +kernel
theorem dX6_does_12 : decode cX6_does 12 = .ok (.getfield 22, 3) := by decide +kernel
theorem dX6_does_15 : decode cX6_does 15 = .ok (.iconst 4, 1) := by decide +kernel
theorem dX6_does_16 : decode cX6_does 16 = .ok (.iload_n 1, 1) := by decide +kernel
theorem dX6_does_17 : decode cX6_does 17 = .ok (.imul, 1) := by decide +kernel
theorem dX6_does_18 : decode cX6_does 18 = .ok (.iconst 2, 1) := by decide +kernel
theorem dX6_does_19 : decode cX6_does 19 = .ok (.iadd, 1) := by decide +kernel
theorem dX6_does_20 : decode cX6_does 20 = .ok (.iaload, 1) := by decide +kernel
theorem dX6_does_21 : decode cX6_does 21 = .ok (.istore_n 3, 1) := by decide +kernel
theorem dX6_does_22 : decode cX6_does 22 = .ok (.aload_n 0, 1) := by decide +kernel
theorem dX6_does_23 : decode cX6_does 23 = .ok (.getfield 22, 3) := by decide +kernel
theorem dX6_does_26 : decode cX6_does 26 = .ok (.iconst 4, 1) := by decide +kernel
theorem dX6_does_27 : decode cX6_does 27 = .ok (.iload_n 1, 1) := by decide +kernel
theorem dX6_does_28 : decode cX6_does 28 = .ok (.imul, 1) := by decide +kernel
theorem dX6_does_29 : decode cX6_does 29 = .ok (.iconst 3, 1) := by decide +kernel
theorem dX6_does_30 : decode cX6_does 30 = .ok (.iadd, 1) := by decide +kernel
theorem dX6_does_31 : decode cX6_does 31 = .ok (.iaload, 1) := by decide +kernel
theorem dX6_does_32 : decode cX6_does 32 = .ok (.istore 4, 2) := by decide +kernel
theorem dX6_does_34 : decode cX6_does 34 = .ok (.aload_n 0, 1) := by decide +kernel
theorem dX6_does_35 : decode cX6_does 35 = .ok (.getfield 22, 3) := by decide +kernel
theorem dX6_does_38 : decode cX6_does 38 = .ok (.iconst 4, 1) := by decide +kernel
theorem dX6_does_39 : decode cX6_does 39 = .ok (.iload_n 1, 1) := by decide +kernel
theorem dX6_does_40 : decode cX6_does 40 = .ok (.imul, 1) := by decide +kernel
theorem dX6_does_41 : decode cX6_does 41 = .ok (.iaload, 1) := by decide +kernel
theorem dX6_does_42 : decode cX6_does 42 = .ok (.tableswitch 141 1 6 #[38, 57, 141, 80, 99, 118], 38) := by decide +kernel
theorem dX6_does_80 : decode cX6_does 80 = .ok (.aload_n 0, 1) := by decide +kernel
theorem dX6_does_81 : decode cX6_does 81 = .ok (.iload_n 2, 1) := by decide +kernel
theorem dX6_does_82 : decode cX6_does 82 = .ok (.iload_n 3, 1) := by decide +kernel
theorem dX6_does_83 : decode cX6_does 83 = .ok (.invokevirtual 69, 3) := by decide +kernel
theorem dX6_does_86 : decode cX6_does 86 = .ok (.ifCond .eq 5, 3) := by decide +kernel
theorem dX6_does_89 : decode cX6_does 89 = .ok (.iconst 0, 1) := by decide +kernel
theorem dX6_does_90 : decode cX6_does 90 = .ok (.ireturn, 1) := by decide +kernel
theorem dX6_does_91 : decode cX6_does 91 = .ok (.aload_n 0, 1) := by decide +kernel
theorem dX6_does_92 : decode cX6_does 92 = .ok (.iload_n 2, 1) := by decide +kernel
theorem dX6_does_93 : decode cX6_does 93 = .ok (.iload_n 3, 1) := by decide +kernel
theorem dX6_does_94 : decode cX6_does 94 = .ok (.invokevirtual 75, 3) := by decide +kernel
theorem dX6_does_97 : decode cX6_does 97 = .ok (.iconst 1, 1) := by decide +kernel
theorem dX6_does_98 : decode cX6_does 98 = .ok (.ireturn, 1) := by decide +kernel
theorem dX6_does_99 : decode cX6_does 99 = .ok (.aload_n 0, 1) := by decide +kernel
theorem dX6_does_100 : decode cX6_does 100 = .ok (.iload_n 2, 1) := by decide +kernel
theorem dX6_does_101 : decode cX6_does 101 = .ok (.iload_n 3, 1) := by decide +kernel
theorem dX6_does_102 : decode cX6_does 102 = .ok (.iload 4, 2) := by decide +kernel
theorem dX6_does_104 : decode cX6_does 104 = .ok (.invokevirtual 79, 3) := by decide +kernel
theorem dX6_does_107 : decode cX6_does 107 = .ok (.ifCond .eq 5, 3) := by decide +kernel
theorem dX6_does_110 : decode cX6_does 110 = .ok (.iconst 0, 1) := by decide +kernel
theorem dX6_does_111 : decode cX6_does 111 = .ok (.ireturn, 1) := by decide +kernel
theorem dX6_does_112 : decode cX6_does 112 = .ok (.aload_n 0, 1) := by decide +kernel
theorem dX6_does_113 : decode cX6_does 113 = .ok (.iload_n 2, 1) := by decide +kernel
theorem dX6_does_114 : decode cX6_does 114 = .ok (.iload_n 3, 1) := by decide +kernel
theorem dX6_does_115 : decode cX6_does 115 = .ok (.iload 4, 2) := by decide +kernel
theorem dX6_does_117 : decode cX6_does 117 = .ok (.invokevirtual 83, 3) := by decide +kernel
theorem dX6_does_120 : decode cX6_does 120 = .ok (.iconst 1, 1) := by decide +kernel
theorem dX6_does_121 : decode cX6_does 121 = .ok (.ireturn, 1) := by decide +kernel
theorem dX6_does_122 : decode cX6_does 122 = .ok (.aload_n 0, 1) := by decide +kernel
theorem dX6_does_123 : decode cX6_does 123 = .ok (.iload_n 2, 1) := by decide +kernel
theorem dX6_does_124 : decode cX6_does 124 = .ok (.iload_n 3, 1) := by decide +kernel
theorem dX6_does_125 : decode cX6_does 125 = .ok (.invokevirtual 86, 3) := by decide +kernel
theorem dX6_does_128 : decode cX6_does 128 = .ok (.ifCond .eq 5, 3) := by decide +kernel
theorem dX6_does_131 : decode cX6_does 131 = .ok (.iconst 0, 1) := by decide +kernel
theorem dX6_does_132 : decode cX6_does 132 = .ok (.ireturn, 1) := by decide +kernel
theorem dX6_does_133 : decode cX6_does 133 = .ok (.aload_n 0, 1) := by decide +kernel
theorem dX6_does_134 : decode cX6_does 134 = .ok (.iload_n 2, 1) := by decide +kernel
theorem dX6_does_135 : decode cX6_does 135 = .ok (.iload_n 3, 1) := by decide +kernel
theorem dX6_does_136 : decode cX6_does 136 = .ok (.invokevirtual 89, 3) := by decide +kernel
theorem dX6_does_139 : decode cX6_does 139 = .ok (.iconst 1, 1) := by decide +kernel
theorem dX6_does_140 : decode cX6_does 140 = .ok (.ireturn, 1) := by decide +kernel
theorem dX6_does_141 : decode cX6_does 141 = .ok (.aload_n 0, 1) := by decide +kernel
theorem dX6_does_142 : decode cX6_does 142 = .ok (.iload_n 2, 1) := by decide +kernel
theorem dX6_does_143 : decode cX6_does 143 = .ok (.iload_n 3, 1) := by decide +kernel
theorem dX6_does_144 : decode cX6_does 144 = .ok (.invokevirtual 92, 3) := by decide +kernel
theorem dX6_does_147 : decode cX6_does 147 = .ok (.ifCond .eq 5, 3) := by decide +kernel
theorem dX6_does_150 : decode cX6_does 150 = .ok (.iconst 0, 1) := by decide +kernel
theorem dX6_does_151 : decode cX6_does 151 = .ok (.ireturn, 1) := by decide +kernel
theorem dX6_does_152 : decode cX6_does 152 = .ok (.aload_n 0, 1) := by decide +kernel
theorem dX6_does_153 : decode cX6_does 153 = .ok (.iload_n 2, 1) := by decide +kernel
theorem dX6_does_154 : decode cX6_does 154 = .ok (.iload_n 3, 1) := by decide +kernel
theorem dX6_does_155 : decode cX6_does 155 = .ok (.invokevirtual 95, 3) := by decide +kernel
theorem dX6_does_158 : decode cX6_does 158 = .ok (.iconst 1, 1) := by decide +kernel
theorem dX6_does_159 : decode cX6_does 159 = .ok (.ireturn, 1) := by decide +kernel
theorem dX6_does_160 : decode cX6_does 160 = .ok (.aload_n 0, 1) := by decide +kernel
theorem dX6_does_161 : decode cX6_does 161 = .ok (.getfield 7, 3) := by decide +kernel
theorem dX6_does_164 : decode cX6_does 164 = .ok (.iconst 2, 1) := by decide +kernel
theorem dX6_does_165 : decode cX6_does 165 = .ok (.iaload, 1) := by decide +kernel
theorem dX6_does_166 : decode cX6_does 166 = .ok (.bipush 12, 2) := by decide +kernel
theorem dX6_does_168 : decode cX6_does 168 = .ok (.if_icmp .ne 5, 3) := by decide +kernel
theorem dX6_does_171 : decode cX6_does 171 = .ok (.iconst 0, 1) := by decide +kernel
theorem dX6_does_172 : decode cX6_does 172 = .ok (.ireturn, 1) := by decide +kernel
theorem dX6_does_173 : decode cX6_does 173 = .ok (.aload_n 0, 1) := by decide +kernel
theorem dX6_does_174 : decode cX6_does 174 = .ok (.aload_n 0, 1) := by decide +kernel
theorem dX6_does_175 : decode cX6_does 175 = .ok (.invokevirtual 44, 3) := by decide +kernel
theorem dX6_does_178 : decode cX6_does 178 = .ok (.invokevirtual 124, 3) := by decide +kernel
theorem dX6_does_181 : decode cX6_does 181 = .ok (.iconst 1, 1) := by decide +kernel
theorem dX6_does_182 : decode cX6_does 182 = .ok (.ireturn, 1) := by decide +kernel
theorem dX6_does_183 : decode cX6_does 183 = .ok (.aload_n 0, 1) := by decide +kernel
theorem dX6_does_184 : decode cX6_does 184 = .ok (.iload_n 2, 1) := by decide +kernel
theorem dX6_does_185 : decode cX6_does 185 = .ok (.invokevirtual 142, 3) := by decide +kernel
theorem dX6_does_188 : decode cX6_does 188 = .ok (.pop, 1) := by decide +kernel
theorem dX6_does_189 : decode cX6_does 189 = .ok (.iconst 1, 1) := by decide +kernel
theorem dX6_does_190 : decode cX6_does 190 = .ok (.ireturn, 1) := by decide +kernel
theorem dX6_run_0 : decode cX6_run 0 = .ok (.aload_n 0, 1) := by decide +kernel
theorem dX6_run_1 : decode cX6_run 1 = .ok (.iconst 0, 1) := by decide +kernel
theorem dX6_run_2 : decode cX6_run 2 = .ok (.putfield 25, 3) := by decide +kernel
theorem dX6_run_5 : decode cX6_run 5 = .ok (.aload_n 0, 1) := by decide +kernel
theorem dX6_run_6 : decode cX6_run 6 = .ok (.invokevirtual 186, 3) := by decide +kernel
theorem dX6_run_9 : decode cX6_run 9 = .ok (.aload_n 0, 1) := by decide +kernel
theorem dX6_run_10 : decode cX6_run 10 = .ok (.getfield 157, 3) := by decide +kernel
theorem dX6_run_13 : decode cX6_run 13 = .ok (.ifCond .ne 9, 3) := by decide +kernel
theorem dX6_run_16 : decode cX6_run 16 = .ok (.aload_n 0, 1) := by decide +kernel
theorem dX6_run_17 : decode cX6_run 17 = .ok (.iconst 1, 1) := by decide +kernel
theorem dX6_run_18 : decode cX6_run 18 = .ok (.invokevirtual 120, 3) := by decide +kernel
theorem dX6_run_21 : decode cX6_run 21 = .ok (.ireturn, 1) := by decide +kernel
theorem dX6_run_22 : decode cX6_run 22 = .ok (.aload_n 0, 1) := by decide +kernel
theorem dX6_run_23 : decode cX6_run 23 = .ok (.invokevirtual 72, 3) := by decide +kernel
theorem dX6_run_26 : decode cX6_run 26 = .ok (.aload_n 0, 1) := by decide +kernel
theorem dX6_run_27 : decode cX6_run 27 = .ok (.iconst 0, 1) := by decide +kernel
theorem dX6_run_28 : decode cX6_run 28 = .ok (.putfield 151, 3) := by decide +kernel
theorem dX6_run_31 : decode cX6_run 31 = .ok (.iconst 0, 1) := by decide +kernel
theorem dX6_run_32 : decode cX6_run 32 = .ok (.istore_n 1, 1) := by decide +kernel
theorem dX6_run_33 : decode cX6_run 33 = .ok (.iload_n 1, 1) := by decide +kernel
theorem dX6_run_34 : decode cX6_run 34 = .ok (.aload_n 0, 1) := by decide +kernel
theorem dX6_run_35 : decode cX6_run 35 = .ok (.getfield 167, 3) := by decide +kernel
theorem dX6_run_38 : decode cX6_run 38 = .ok (.if_icmp .ge 17, 3) := by decide +kernel
theorem dX6_run_41 : decode cX6_run 41 = .ok (.aload_n 0, 1) := by decide +kernel
theorem dX6_run_42 : decode cX6_run 42 = .ok (.iload_n 1, 1) := by decide +kernel
theorem dX6_run_43 : decode cX6_run 43 = .ok (.invokevirtual 189, 3) := by decide +kernel
theorem dX6_run_46 : decode cX6_run 46 = .ok (.ifCond .eq 9, 3) := by decide +kernel
theorem dX6_run_49 : decode cX6_run 49 = .ok (.iinc 1 1, 3) := by decide +kernel
theorem dX6_run_52 : decode cX6_run 52 = .ok (.goto (-19), 3) := by decide +kernel
theorem dX6_run_55 : decode cX6_run 55 = .ok (.iload_n 1, 1) := by decide +kernel
theorem dX6_run_56 : decode cX6_run 56 = .ok (.ireturn, 1) := by decide +kernel
theorem dX6_undo_0 : decode cX6_undo 0 = .ok (.aload_n 0, 1) := by decide +kernel
theorem dX6_undo_1 : decode cX6_undo 1 = .ok (.iconst 0, 1) := by decide +kernel
theorem dX6_undo_2 : decode cX6_undo 2 = .ok (.putfield 25, 3) := by decide +kernel
theorem dX6_undo_5 : decode cX6_undo 5 = .ok (.aload_n 0, 1) := by decide +kernel
theorem dX6_undo_6 : decode cX6_undo 6 = .ok (.getfield 29, 3) := by decide +kernel
theorem dX6_undo_9 : decode cX6_undo 9 = .ok (.ifCond .ne 9, 3) := by decide +kernel
theorem dX6_undo_12 : decode cX6_undo 12 = .ok (.aload_n 0, 1) := by decide +kernel
theorem dX6_undo_13 : decode cX6_undo 13 = .ok (.iconst 1, 1) := by decide +kernel
theorem dX6_undo_14 : decode cX6_undo 14 = .ok (.invokevirtual 120, 3) := by decide +kernel
theorem dX6_undo_17 : decode cX6_undo 17 = .ok (.ireturn, 1) := by decide +kernel
theorem dX6_undo_18 : decode cX6_undo 18 = .ok (.aload_n 0, 1) := by decide +kernel
theorem dX6_undo_19 : decode cX6_undo 19 = .ok (.dup, 1) := by decide +kernel
theorem dX6_undo_20 : decode cX6_undo 20 = .ok (.getfield 29, 3) := by decide +kernel
theorem dX6_undo_23 : decode cX6_undo 23 = .ok (.iconst 1, 1) := by decide +kernel
theorem dX6_undo_24 : decode cX6_undo 24 = .ok (.isub, 1) := by decide +kernel
theorem dX6_undo_25 : decode cX6_undo 25 = .ok (.putfield 29, 3) := by decide +kernel
theorem dX6_undo_28 : decode cX6_undo 28 = .ok (.iconst 0, 1) := by decide +kernel
theorem dX6_undo_29 : decode cX6_undo 29 = .ok (.istore_n 1, 1) := by decide +kernel
theorem dX6_undo_30 : decode cX6_undo 30 = .ok (.iload_n 1, 1) := by decide +kernel
theorem dX6_undo_31 : decode cX6_undo 31 = .ok (.sipush 370, 3) := by decide +kernel
theorem dX6_undo_34 : decode cX6_undo 34 = .ok (.if_icmp .ge 30, 3) := by decide +kernel
theorem dX6_undo_37 : decode cX6_undo 37 = .ok (.aload_n 0, 1) := by decide +kernel
theorem dX6_undo_38 : decode cX6_undo 38 = .ok (.getfield 7, 3) := by decide +kernel
theorem dX6_undo_41 : decode cX6_undo 41 = .ok (.iload_n 1, 1) := by decide +kernel
theorem dX6_undo_42 : decode cX6_undo 42 = .ok (.aload_n 0, 1) := by decide +kernel
theorem dX6_undo_43 : decode cX6_undo 43 = .ok (.getfield 13, 3) := by decide +kernel
theorem dX6_undo_46 : decode cX6_undo 46 = .ok (.sipush 370, 3) := by decide +kernel
theorem dX6_undo_49 : decode cX6_undo 49 = .ok (.aload_n 0, 1) := by decide +kernel
theorem dX6_undo_50 : decode cX6_undo 50 = .ok (.getfield 29, 3) := by decide +kernel
theorem dX6_undo_53 : decode cX6_undo 53 = .ok (.imul, 1) := by decide +kernel
theorem dX6_undo_54 : decode cX6_undo 54 = .ok (.iload_n 1, 1) := by decide +kernel
theorem dX6_undo_55 : decode cX6_undo 55 = .ok (.iadd, 1) := by decide +kernel
theorem dX6_undo_56 : decode cX6_undo 56 = .ok (.iaload, 1) := by decide +kernel
theorem dX6_undo_57 : decode cX6_undo 57 = .ok (.iastore, 1) := by decide +kernel
theorem dX6_undo_58 : decode cX6_undo 58 = .ok (.iinc 1 1, 3) := by decide +kernel
theorem dX6_undo_61 : decode cX6_undo 61 = .ok (.goto (-31), 3) := by decide +kernel
theorem dX6_undo_64 : decode cX6_undo 64 = .ok (.aload_n 0, 1) := by decide +kernel
theorem dX6_undo_65 : decode cX6_undo 65 = .ok (.getfield 29, 3) := by decide +kernel
theorem dX6_undo_68 : decode cX6_undo 68 = .ok (.ireturn, 1) := by decide +kernel
theorem dX6_valueBy_0 : decode cX6_valueBy 0 = .ok (.aload_n 0, 1) := by decide +kernel
theorem dX6_valueBy_1 : decode cX6_valueBy 1 = .ok (.iload_n 2, 1) := by decide +kernel
theorem dX6_valueBy_2 : decode cX6_valueBy 2 = .ok (.iload_n 3, 1) := by decide +kernel
theorem dX6_valueBy_3 : decode cX6_valueBy 3 = .ok (.invokevirtual 48, 3) := by decide +kernel
theorem dX6_valueBy_6 : decode cX6_valueBy 6 = .ok (.istore 4, 2) := by decide +kernel
theorem dX6_valueBy_8 : decode cX6_valueBy 8 = .ok (.iload 4, 2) := by decide +kernel
theorem dX6_valueBy_10 : decode cX6_valueBy 10 = .ok (.iconst (-1), 1) := by decide +kernel
theorem dX6_valueBy_11 : decode cX6_valueBy 11 = .ok (.if_icmp .ne 5, 3) := by decide +kernel
theorem dX6_valueBy_14 : decode cX6_valueBy 14 = .ok (.iconst (-1), 1) := by decide +kernel
theorem dX6_valueBy_15 : decode cX6_valueBy 15 = .ok (.ireturn, 1) := by decide +kernel
theorem dX6_valueBy_16 : decode cX6_valueBy 16 = .ok (.aload_n 0, 1) := by decide +kernel
theorem dX6_valueBy_17 : decode cX6_valueBy 17 = .ok (.iload_n 1, 1) := by decide +kernel
theorem dX6_valueBy_18 : decode cX6_valueBy 18 = .ok (.iload_n 2, 1) := by decide +kernel
theorem dX6_valueBy_19 : decode cX6_valueBy 19 = .ok (.invokevirtual 114, 3) := by decide +kernel
theorem dX6_valueBy_22 : decode cX6_valueBy 22 = .ok (.aload_n 0, 1) := by decide +kernel
theorem dX6_valueBy_23 : decode cX6_valueBy 23 = .ok (.getfield 19, 3) := by decide +kernel
theorem dX6_valueBy_26 : decode cX6_valueBy 26 = .ok (.iload 4, 2) := by decide +kernel
theorem dX6_valueBy_28 : decode cX6_valueBy 28 = .ok (.iaload, 1) := by decide +kernel
theorem dX6_valueBy_29 : decode cX6_valueBy 29 = .ok (.ireturn, 1) := by decide +kernel
theorem dX6_read_0 : decode cX6_read 0 = .ok (.aload_n 0, 1) := by decide +kernel
theorem dX6_read_1 : decode cX6_read 1 = .ok (.iconst 0, 1) := by decide +kernel
theorem dX6_read_2 : decode cX6_read 2 = .ok (.putfield 25, 3) := by decide +kernel
theorem dX6_read_5 : decode cX6_read 5 = .ok (.aload_n 0, 1) := by decide +kernel
theorem dX6_read_6 : decode cX6_read 6 = .ok (.iload_n 1, 1) := by decide +kernel
theorem dX6_read_7 : decode cX6_read 7 = .ok (.invokevirtual 133, 3) := by decide +kernel
theorem dX6_read_10 : decode cX6_read 10 = .ok (.ifCond .eq 11, 3) := by decide +kernel
theorem dX6_read_13 : decode cX6_read 13 = .ok (.aload_n 0, 1) := by decide +kernel
theorem dX6_read_14 : decode cX6_read 14 = .ok (.iload_n 2, 1) := by decide +kernel
theorem dX6_read_15 : decode cX6_read 15 = .ok (.invokevirtual 127, 3) := by decide +kernel
theorem dX6_read_18 : decode cX6_read 18 = .ok (.ifCond .ne 9, 3) := by decide +kernel
theorem dX6_read_21 : decode cX6_read 21 = .ok (.aload_n 0, 1) := by decide +kernel
theorem dX6_read_22 : decode cX6_read 22 = .ok (.iconst 1, 1) := by decide +kernel
theorem dX6_read_23 : decode cX6_read 23 = .ok (.invokevirtual 120, 3) := by decide +kernel
theorem dX6_read_26 : decode cX6_read 26 = .ok (.ireturn, 1) := by decide +kernel
theorem dX6_read_27 : decode cX6_read 27 = .ok (.iload_n 3, 1) := by decide +kernel
theorem dX6_read_28 : decode cX6_read 28 = .ok (.invokestatic 51, 3) := by decide +kernel
theorem dX6_read_31 : decode cX6_read 31 = .ok (.ifCond .eq 13, 3) := by decide +kernel
theorem dX6_read_34 : decode cX6_read 34 = .ok (.aload_n 0, 1) := by decide +kernel
theorem dX6_read_35 : decode cX6_read 35 = .ok (.iload_n 1, 1) := by decide +kernel
theorem dX6_read_36 : decode cX6_read 36 = .ok (.iload_n 2, 1) := by decide +kernel
theorem dX6_read_37 : decode cX6_read 37 = .ok (.iload_n 3, 1) := by decide +kernel
theorem dX6_read_38 : decode cX6_read 38 = .ok (.invokevirtual 192, 3) := by decide +kernel
theorem dX6_read_41 : decode cX6_read 41 = .ok (.goto 8, 3) := by decide +kernel
theorem dX6_read_44 : decode cX6_read 44 = .ok (.aload_n 0, 1) := by decide +kernel
theorem dX6_read_45 : decode cX6_read 45 = .ok (.iconst 2, 1) := by decide +kernel
theorem dX6_read_46 : decode cX6_read 46 = .ok (.invokevirtual 120, 3) := by decide +kernel
theorem dX6_read_49 : decode cX6_read 49 = .ok (.ireturn, 1) := by decide +kernel
theorem dX6_readAs_0 : decode cX6_readAs 0 = .ok (.aload_n 0, 1) := by decide +kernel
theorem dX6_readAs_1 : decode cX6_readAs 1 = .ok (.iconst 0, 1) := by decide +kernel
theorem dX6_readAs_2 : decode cX6_readAs 2 = .ok (.putfield 25, 3) := by decide +kernel
theorem dX6_readAs_5 : decode cX6_readAs 5 = .ok (.iload_n 1, 1) := by decide +kernel
theorem dX6_readAs_6 : decode cX6_readAs 6 = .ok (.invokestatic 145, 3) := by decide +kernel
theorem dX6_readAs_9 : decode cX6_readAs 9 = .ok (.ifCond .eq 11, 3) := by decide +kernel
theorem dX6_readAs_12 : decode cX6_readAs 12 = .ok (.aload_n 0, 1) := by decide +kernel
theorem dX6_readAs_13 : decode cX6_readAs 13 = .ok (.iload_n 2, 1) := by decide +kernel
theorem dX6_readAs_14 : decode cX6_readAs 14 = .ok (.invokevirtual 133, 3) := by decide +kernel
theorem dX6_readAs_17 : decode cX6_readAs 17 = .ok (.ifCond .ne 9, 3) := by decide +kernel
theorem dX6_readAs_20 : decode cX6_readAs 20 = .ok (.aload_n 0, 1) := by decide +kernel
theorem dX6_readAs_21 : decode cX6_readAs 21 = .ok (.iconst 1, 1) := by decide +kernel
theorem dX6_readAs_22 : decode cX6_readAs 22 = .ok (.invokevirtual 120, 3) := by decide +kernel
theorem dX6_readAs_25 : decode cX6_readAs 25 = .ok (.ireturn, 1) := by decide +kernel
theorem dX6_readAs_26 : decode cX6_readAs 26 = .ok (.iload_n 3, 1) := by decide +kernel
theorem dX6_readAs_27 : decode cX6_readAs 27 = .ok (.invokestatic 51, 3) := by decide +kernel
theorem dX6_readAs_30 : decode cX6_readAs 30 = .ok (.ifCond .eq 21, 3) := by decide +kernel
theorem dX6_readAs_33 : decode cX6_readAs 33 = .ok (.aload_n 0, 1) := by decide +kernel
theorem dX6_readAs_34 : decode cX6_readAs 34 = .ok (.iload_n 2, 1) := by decide +kernel
theorem dX6_readAs_35 : decode cX6_readAs 35 = .ok (.aload_n 0, 1) := by decide +kernel
theorem dX6_readAs_36 : decode cX6_readAs 36 = .ok (.getfield 7, 3) := by decide +kernel
theorem dX6_readAs_39 : decode cX6_readAs 39 = .ok (.bipush 6, 2) := by decide +kernel
theorem dX6_readAs_41 : decode cX6_readAs 41 = .ok (.iload_n 1, 1) := by decide +kernel
theorem dX6_readAs_42 : decode cX6_readAs 42 = .ok (.iadd, 1) := by decide +kernel
theorem dX6_readAs_43 : decode cX6_readAs 43 = .ok (.iaload, 1) := by decide +kernel
theorem dX6_readAs_44 : decode cX6_readAs 44 = .ok (.iload_n 3, 1) := by decide +kernel
theorem dX6_readAs_45 : decode cX6_readAs 45 = .ok (.invokevirtual 192, 3) := by decide +kernel
theorem dX6_readAs_48 : decode cX6_readAs 48 = .ok (.goto 8, 3) := by decide +kernel
theorem dX6_readAs_51 : decode cX6_readAs 51 = .ok (.aload_n 0, 1) := by decide +kernel
theorem dX6_readAs_52 : decode cX6_readAs 52 = .ok (.iconst 2, 1) := by decide +kernel
theorem dX6_readAs_53 : decode cX6_readAs 53 = .ok (.invokevirtual 120, 3) := by decide +kernel
theorem dX6_readAs_56 : decode cX6_readAs 56 = .ok (.ireturn, 1) := by decide +kernel
theorem dX6_columnOf_0 : decode cX6_columnOf 0 = .ok (.iload_n 2, 1) := by decide +kernel
theorem dX6_columnOf_1 : decode cX6_columnOf 1 = .ok (.aload_n 0, 1) := by decide +kernel
theorem dX6_columnOf_2 : decode cX6_columnOf 2 = .ok (.iload_n 1, 1) := by decide +kernel
theorem dX6_columnOf_3 : decode cX6_columnOf 3 = .ok (.iconst 0, 1) := by decide +kernel
theorem dX6_columnOf_4 : decode cX6_columnOf 4 = .ok (.invokevirtual 36, 3) := by decide +kernel
theorem dX6_columnOf_7 : decode cX6_columnOf 7 = .ok (.if_icmp .lt 5, 3) := by decide +kernel
theorem dX6_columnOf_10 : decode cX6_columnOf 10 = .ok (.iconst (-1), 1) := by decide +kernel
theorem dX6_columnOf_11 : decode cX6_columnOf 11 = .ok (.ireturn, 1) := by decide +kernel
theorem dX6_columnOf_12 : decode cX6_columnOf 12 = .ok (.aload_n 0, 1) := by decide +kernel
theorem dX6_columnOf_13 : decode cX6_columnOf 13 = .ok (.iload_n 1, 1) := by decide +kernel
theorem dX6_columnOf_14 : decode cX6_columnOf 14 = .ok (.iconst 1, 1) := by decide +kernel
theorem dX6_columnOf_15 : decode cX6_columnOf 15 = .ok (.iload_n 2, 1) := by decide +kernel
theorem dX6_columnOf_16 : decode cX6_columnOf 16 = .ok (.iadd, 1) := by decide +kernel
theorem dX6_columnOf_17 : decode cX6_columnOf 17 = .ok (.invokevirtual 36, 3) := by decide +kernel
theorem dX6_columnOf_20 : decode cX6_columnOf 20 = .ok (.istore 4, 2) := by decide +kernel
theorem dX6_columnOf_22 : decode cX6_columnOf 22 = .ok (.iload_n 3, 1) := by decide +kernel
theorem dX6_columnOf_23 : decode cX6_columnOf 23 = .ok (.ifCond .ne 15, 3) := by decide +kernel
theorem dX6_columnOf_26 : decode cX6_columnOf 26 = .ok (.aload_n 0, 1) := by decide +kernel
theorem dX6_columnOf_27 : decode cX6_columnOf 27 = .ok (.iload_n 1, 1) := by decide +kernel
theorem dX6_columnOf_28 : decode cX6_columnOf 28 = .ok (.bipush 9, 2) := by decide +kernel
theorem dX6_columnOf_30 : decode cX6_columnOf 30 = .ok (.iload_n 2, 1) := by decide +kernel
theorem dX6_columnOf_31 : decode cX6_columnOf 31 = .ok (.iadd, 1) := by decide +kernel
theorem dX6_columnOf_32 : decode cX6_columnOf 32 = .ok (.invokevirtual 36, 3) := by decide +kernel
theorem dX6_columnOf_35 : decode cX6_columnOf 35 = .ok (.goto 23, 3) := by decide +kernel
theorem dX6_columnOf_38 : decode cX6_columnOf 38 = .ok (.iload_n 3, 1) := by decide +kernel
theorem dX6_columnOf_39 : decode cX6_columnOf 39 = .ok (.iconst 1, 1) := by decide +kernel
theorem dX6_columnOf_40 : decode cX6_columnOf 40 = .ok (.if_icmp .ne 8, 3) := by decide +kernel
theorem dX6_columnOf_43 : decode cX6_columnOf 43 = .ok (.iload 4, 2) := by decide +kernel
theorem dX6_columnOf_45 : decode cX6_columnOf 45 = .ok (.goto 13, 3) := by decide +kernel
theorem dX6_columnOf_48 : decode cX6_columnOf 48 = .ok (.aload_n 0, 1) := by decide +kernel
theorem dX6_columnOf_49 : decode cX6_columnOf 49 = .ok (.aload_n 0, 1) := by decide +kernel
theorem dX6_columnOf_50 : decode cX6_columnOf 50 = .ok (.invokevirtual 44, 3) := by decide +kernel
theorem dX6_columnOf_53 : decode cX6_columnOf 53 = .ok (.iload 4, 2) := by decide +kernel
theorem dX6_columnOf_55 : decode cX6_columnOf 55 = .ok (.invokevirtual 130, 3) := by decide +kernel
theorem dX6_columnOf_58 : decode cX6_columnOf 58 = .ok (.ireturn, 1) := by decide +kernel
theorem dX6_column_0 : decode cX6_column 0 = .ok (.aload_n 0, 1) := by decide +kernel
theorem dX6_column_1 : decode cX6_column 1 = .ok (.iconst 0, 1) := by decide +kernel
theorem dX6_column_2 : decode cX6_column 2 = .ok (.putfield 25, 3) := by decide +kernel
theorem dX6_column_5 : decode cX6_column 5 = .ok (.aload_n 0, 1) := by decide +kernel
theorem dX6_column_6 : decode cX6_column 6 = .ok (.iload_n 1, 1) := by decide +kernel
theorem dX6_column_7 : decode cX6_column 7 = .ok (.invokevirtual 195, 3) := by decide +kernel
theorem dX6_column_10 : decode cX6_column 10 = .ok (.ifCond .ne 9, 3) := by decide +kernel
theorem dX6_column_13 : decode cX6_column 13 = .ok (.aload_n 0, 1) := by decide +kernel
theorem dX6_column_14 : decode cX6_column 14 = .ok (.iconst 1, 1) := by decide +kernel
theorem dX6_column_15 : decode cX6_column 15 = .ok (.invokevirtual 120, 3) := by decide +kernel
theorem dX6_column_18 : decode cX6_column 18 = .ok (.ireturn, 1) := by decide +kernel
theorem dX6_column_19 : decode cX6_column 19 = .ok (.iload_n 2, 1) := by decide +kernel
theorem dX6_column_20 : decode cX6_column 20 = .ok (.ifCond .lt 12, 3) := by decide +kernel
theorem dX6_column_23 : decode cX6_column 23 = .ok (.iload_n 3, 1) := by decide +kernel
theorem dX6_column_24 : decode cX6_column 24 = .ok (.iconst 0, 1) := by decide +kernel
theorem dX6_column_25 : decode cX6_column 25 = .ok (.iconst 2, 1) := by decide +kernel
theorem dX6_column_26 : decode cX6_column 26 = .ok (.invokestatic 32, 3) := by decide +kernel
theorem dX6_column_29 : decode cX6_column 29 = .ok (.ifCond .ne 11, 3) := by decide +kernel
theorem dX6_column_32 : decode cX6_column 32 = .ok (.aload_n 0, 1) := by decide +kernel
theorem dX6_column_33 : decode cX6_column 33 = .ok (.iconst 2, 1) := by decide +kernel
theorem dX6_column_34 : decode cX6_column 34 = .ok (.invokevirtual 120, 3) := by decide +kernel
theorem dX6_column_37 : decode cX6_column 37 = .ok (.goto 10, 3) := by decide +kernel
theorem dX6_column_40 : decode cX6_column 40 = .ok (.aload_n 0, 1) := by decide +kernel
theorem dX6_column_41 : decode cX6_column 41 = .ok (.iload_n 1, 1) := by decide +kernel
theorem dX6_column_42 : decode cX6_column 42 = .ok (.iload_n 2, 1) := by decide +kernel
theorem dX6_column_43 : decode cX6_column 43 = .ok (.iload_n 3, 1) := by decide +kernel
theorem dX6_column_44 : decode cX6_column 44 = .ok (.invokevirtual 198, 3) := by decide +kernel
theorem dX6_column_47 : decode cX6_column 47 = .ok (.ireturn, 1) := by decide +kernel
theorem dX6_rowsWith_0 : decode cX6_rowsWith 0 = .ok (.iconst 0, 1) := by decide +kernel
theorem dX6_rowsWith_1 : decode cX6_rowsWith 1 = .ok (.istore_n 2, 1) := by decide +kernel
theorem dX6_rowsWith_2 : decode cX6_rowsWith 2 = .ok (.iconst 0, 1) := by decide +kernel
theorem dX6_rowsWith_3 : decode cX6_rowsWith 3 = .ok (.istore_n 3, 1) := by decide +kernel
theorem dX6_rowsWith_4 : decode cX6_rowsWith 4 = .ok (.iload_n 3, 1) := by decide +kernel
theorem dX6_rowsWith_5 : decode cX6_rowsWith 5 = .ok (.aload_n 0, 1) := by decide +kernel
theorem dX6_rowsWith_6 : decode cX6_rowsWith 6 = .ok (.getfield 7, 3) := by decide +kernel
theorem dX6_rowsWith_9 : decode cX6_rowsWith 9 = .ok (.iconst 2, 1) := by decide +kernel
theorem dX6_rowsWith_10 : decode cX6_rowsWith 10 = .ok (.iaload, 1) := by decide +kernel
theorem dX6_rowsWith_11 : decode cX6_rowsWith 11 = .ok (.if_icmp .ge 27, 3) := by decide +kernel
theorem dX6_rowsWith_14 : decode cX6_rowsWith 14 = .ok (.iload_n 2, 1) := by decide +kernel
theorem dX6_rowsWith_15 : decode cX6_rowsWith 15 = .ok (.aload_n 0, 1) := by decide +kernel
theorem dX6_rowsWith_16 : decode cX6_rowsWith 16 = .ok (.iload_n 3, 1) := by decide +kernel
theorem dX6_rowsWith_17 : decode cX6_rowsWith 17 = .ok (.iconst 0, 1) := by decide +kernel
theorem dX6_rowsWith_18 : decode cX6_rowsWith 18 = .ok (.invokevirtual 108, 3) := by decide +kernel
theorem dX6_rowsWith_21 : decode cX6_rowsWith 21 = .ok (.iload_n 1, 1) := by decide +kernel
theorem dX6_rowsWith_22 : decode cX6_rowsWith 22 = .ok (.if_icmp .ne 7, 3) := by decide +kernel
theorem dX6_rowsWith_25 : decode cX6_rowsWith 25 = .ok (.iconst 1, 1) := by decide +kernel
theorem dX6_rowsWith_26 : decode cX6_rowsWith 26 = .ok (.goto 4, 3) := by decide +kernel
theorem dX6_rowsWith_29 : decode cX6_rowsWith 29 = .ok (.iconst 0, 1) := by decide +kernel
theorem dX6_rowsWith_30 : decode cX6_rowsWith 30 = .ok (.iadd, 1) := by decide +kernel
theorem dX6_rowsWith_31 : decode cX6_rowsWith 31 = .ok (.istore_n 2, 1) := by decide +kernel
theorem dX6_rowsWith_32 : decode cX6_rowsWith 32 = .ok (.iinc 3 1, 3) := by decide +kernel
theorem dX6_rowsWith_35 : decode cX6_rowsWith 35 = .ok (.goto (-31), 3) := by decide +kernel
theorem dX6_rowsWith_38 : decode cX6_rowsWith 38 = .ok (.iload_n 2, 1) := by decide +kernel
theorem dX6_rowsWith_39 : decode cX6_rowsWith 39 = .ok (.ireturn, 1) := by decide +kernel
theorem dX6_readersWith_0 : decode cX6_readersWith 0 = .ok (.iconst 0, 1) := by decide +kernel
theorem dX6_readersWith_1 : decode cX6_readersWith 1 = .ok (.istore_n 2, 1) := by decide +kernel
theorem dX6_readersWith_2 : decode cX6_readersWith 2 = .ok (.iconst 0, 1) := by decide +kernel
theorem dX6_readersWith_3 : decode cX6_readersWith 3 = .ok (.istore_n 3, 1) := by decide +kernel
theorem dX6_readersWith_4 : decode cX6_readersWith 4 = .ok (.iload_n 3, 1) := by decide +kernel
theorem dX6_readersWith_5 : decode cX6_readersWith 5 = .ok (.iconst 4, 1) := by decide +kernel
theorem dX6_readersWith_6 : decode cX6_readersWith 6 = .ok (.if_icmp .ge 30, 3) := by decide +kernel
theorem dX6_readersWith_9 : decode cX6_readersWith 9 = .ok (.iload_n 2, 1) := by decide +kernel
theorem dX6_readersWith_10 : decode cX6_readersWith 10 = .ok (.aload_n 0, 1) := by decide +kernel
theorem dX6_readersWith_11 : decode cX6_readersWith 11 = .ok (.getfield 7, 3) := by decide +kernel
theorem dX6_readersWith_14 : decode cX6_readersWith 14 = .ok (.bipush 6, 2) := by decide +kernel
theorem dX6_readersWith_16 : decode cX6_readersWith 16 = .ok (.iload_n 3, 1) := by decide +kernel
theorem dX6_readersWith_17 : decode cX6_readersWith 17 = .ok (.iadd, 1) := by decide +kernel
theorem dX6_readersWith_18 : decode cX6_readersWith 18 = .ok (.iaload, 1) := by decide +kernel
theorem dX6_readersWith_19 : decode cX6_readersWith 19 = .ok (.iload_n 1, 1) := by decide +kernel
theorem dX6_readersWith_20 : decode cX6_readersWith 20 = .ok (.if_icmp .ne 7, 3) := by decide +kernel
theorem dX6_readersWith_23 : decode cX6_readersWith 23 = .ok (.iconst 1, 1) := by decide +kernel
theorem dX6_readersWith_24 : decode cX6_readersWith 24 = .ok (.goto 4, 3) := by decide +kernel
theorem dX6_readersWith_27 : decode cX6_readersWith 27 = .ok (.iconst 0, 1) := by decide +kernel
theorem dX6_readersWith_28 : decode cX6_readersWith 28 = .ok (.iadd, 1) := by decide +kernel
theorem dX6_readersWith_29 : decode cX6_readersWith 29 = .ok (.istore_n 2, 1) := by decide +kernel
theorem dX6_readersWith_30 : decode cX6_readersWith 30 = .ok (.iinc 3 1, 3) := by decide +kernel
theorem dX6_readersWith_33 : decode cX6_readersWith 33 = .ok (.goto (-29), 3) := by decide +kernel
theorem dX6_readersWith_36 : decode cX6_readersWith 36 = .ok (.iload_n 2, 1) := by decide +kernel
theorem dX6_readersWith_37 : decode cX6_readersWith 37 = .ok (.ireturn, 1) := by decide +kernel
theorem dX6_shapeOf_0 : decode cX6_shapeOf 0 = .ok (.iconst 0, 1) := by decide +kernel
theorem dX6_shapeOf_1 : decode cX6_shapeOf 1 = .ok (.istore_n 3, 1) := by decide +kernel
theorem dX6_shapeOf_2 : decode cX6_shapeOf 2 = .ok (.iconst 0, 1) := by decide +kernel
theorem dX6_shapeOf_3 : decode cX6_shapeOf 3 = .ok (.istore 4, 2) := by decide +kernel
theorem dX6_shapeOf_5 : decode cX6_shapeOf 5 = .ok (.iload 4, 2) := by decide +kernel
theorem dX6_shapeOf_7 : decode cX6_shapeOf 7 = .ok (.aload_n 0, 1) := by decide +kernel
theorem dX6_shapeOf_8 : decode cX6_shapeOf 8 = .ok (.iload_n 1, 1) := by decide +kernel
theorem dX6_shapeOf_9 : decode cX6_shapeOf 9 = .ok (.iconst 0, 1) := by decide +kernel
theorem dX6_shapeOf_10 : decode cX6_shapeOf 10 = .ok (.invokevirtual 36, 3) := by decide +kernel
theorem dX6_shapeOf_13 : decode cX6_shapeOf 13 = .ok (.if_icmp .ge 24, 3) := by decide +kernel
theorem dX6_shapeOf_16 : decode cX6_shapeOf 16 = .ok (.iload_n 3, 1) := by decide +kernel
theorem dX6_shapeOf_17 : decode cX6_shapeOf 17 = .ok (.iconst 1, 1) := by decide +kernel
theorem dX6_shapeOf_18 : decode cX6_shapeOf 18 = .ok (.aload_n 0, 1) := by decide +kernel
theorem dX6_shapeOf_19 : decode cX6_shapeOf 19 = .ok (.iload_n 1, 1) := by decide +kernel
theorem dX6_shapeOf_20 : decode cX6_shapeOf 20 = .ok (.bipush 9, 2) := by decide +kernel
theorem dX6_shapeOf_22 : decode cX6_shapeOf 22 = .ok (.iload 4, 2) := by decide +kernel
theorem dX6_shapeOf_24 : decode cX6_shapeOf 24 = .ok (.iadd, 1) := by decide +kernel
theorem dX6_shapeOf_25 : decode cX6_shapeOf 25 = .ok (.invokevirtual 36, 3) := by decide +kernel
theorem dX6_shapeOf_28 : decode cX6_shapeOf 28 = .ok (.ishl, 1) := by decide +kernel
theorem dX6_shapeOf_29 : decode cX6_shapeOf 29 = .ok (.ior, 1) := by decide +kernel
theorem dX6_shapeOf_30 : decode cX6_shapeOf 30 = .ok (.istore_n 3, 1) := by decide +kernel
theorem dX6_shapeOf_31 : decode cX6_shapeOf 31 = .ok (.iinc 4 1, 3) := by decide +kernel
theorem dX6_shapeOf_34 : decode cX6_shapeOf 34 = .ok (.goto (-29), 3) := by decide +kernel
theorem dX6_shapeOf_37 : decode cX6_shapeOf 37 = .ok (.iload_n 2, 1) := by decide +kernel
theorem dX6_shapeOf_38 : decode cX6_shapeOf 38 = .ok (.tableswitch 77 0 4 #[34, 41, 49, 55, 61], 34) := by decide +kernel
theorem dX6_shapeOf_72 : decode cX6_shapeOf 72 = .ok (.aload_n 0, 1) := by decide +kernel
theorem dX6_shapeOf_73 : decode cX6_shapeOf 73 = .ok (.iload_n 1, 1) := by decide +kernel
theorem dX6_shapeOf_74 : decode cX6_shapeOf 74 = .ok (.iconst 0, 1) := by decide +kernel
theorem dX6_shapeOf_75 : decode cX6_shapeOf 75 = .ok (.invokevirtual 36, 3) := by decide +kernel
theorem dX6_shapeOf_78 : decode cX6_shapeOf 78 = .ok (.ireturn, 1) := by decide +kernel
theorem dX6_shapeOf_79 : decode cX6_shapeOf 79 = .ok (.aload_n 0, 1) := by decide +kernel
theorem dX6_shapeOf_80 : decode cX6_shapeOf 80 = .ok (.iload_n 1, 1) := by decide +kernel
theorem dX6_shapeOf_81 : decode cX6_shapeOf 81 = .ok (.bipush 17, 2) := by decide +kernel
theorem dX6_shapeOf_83 : decode cX6_shapeOf 83 = .ok (.invokevirtual 36, 3) := by decide +kernel
theorem dX6_shapeOf_86 : decode cX6_shapeOf 86 = .ok (.ireturn, 1) := by decide +kernel
theorem dX6_shapeOf_87 : decode cX6_shapeOf 87 = .ok (.aload_n 0, 1) := by decide +kernel
theorem dX6_shapeOf_88 : decode cX6_shapeOf 88 = .ok (.iload_n 1, 1) := by decide +kernel
theorem dX6_shapeOf_89 : decode cX6_shapeOf 89 = .ok (.invokevirtual 201, 3) := by decide +kernel
theorem dX6_shapeOf_92 : decode cX6_shapeOf 92 = .ok (.ireturn, 1) := by decide +kernel
theorem dX6_shapeOf_93 : decode cX6_shapeOf 93 = .ok (.aload_n 0, 1) := by decide +kernel
theorem dX6_shapeOf_94 : decode cX6_shapeOf 94 = .ok (.iload_n 1, 1) := by decide +kernel
theorem dX6_shapeOf_95 : decode cX6_shapeOf 95 = .ok (.invokevirtual 204, 3) := by decide +kernel
theorem dX6_shapeOf_98 : decode cX6_shapeOf 98 = .ok (.ireturn, 1) := by decide +kernel
theorem dX6_shapeOf_99 : decode cX6_shapeOf 99 = .ok (.iload_n 1, 1) := by decide +kernel
theorem dX6_shapeOf_100 : decode cX6_shapeOf 100 = .ok (.aload_n 0, 1) := by decide +kernel
theorem dX6_shapeOf_101 : decode cX6_shapeOf 101 = .ok (.getfield 7, 3) := by decide +kernel
theorem dX6_shapeOf_104 : decode cX6_shapeOf 104 = .ok (.iconst 1, 1) := by decide +kernel
theorem dX6_shapeOf_105 : decode cX6_shapeOf 105 = .ok (.iaload, 1) := by decide +kernel
theorem dX6_shapeOf_106 : decode cX6_shapeOf 106 = .ok (.if_icmp .ge 7, 3) := by decide +kernel
theorem dX6_shapeOf_109 : decode cX6_shapeOf 109 = .ok (.iconst 1, 1) := by decide +kernel
theorem dX6_shapeOf_110 : decode cX6_shapeOf 110 = .ok (.goto 4, 3) := by decide +kernel
theorem dX6_shapeOf_113 : decode cX6_shapeOf 113 = .ok (.iconst 0, 1) := by decide +kernel
theorem dX6_shapeOf_114 : decode cX6_shapeOf 114 = .ok (.ireturn, 1) := by decide +kernel
theorem dX6_shapeOf_115 : decode cX6_shapeOf 115 = .ok (.iload_n 3, 1) := by decide +kernel
theorem dX6_shapeOf_116 : decode cX6_shapeOf 116 = .ok (.ireturn, 1) := by decide +kernel
theorem dX6_shape_0 : decode cX6_shape 0 = .ok (.aload_n 0, 1) := by decide +kernel
theorem dX6_shape_1 : decode cX6_shape 1 = .ok (.iconst 0, 1) := by decide +kernel
theorem dX6_shape_2 : decode cX6_shape 2 = .ok (.putfield 25, 3) := by decide +kernel
theorem dX6_shape_5 : decode cX6_shape 5 = .ok (.aload_n 0, 1) := by decide +kernel
theorem dX6_shape_6 : decode cX6_shape 6 = .ok (.iload_n 1, 1) := by decide +kernel
theorem dX6_shape_7 : decode cX6_shape 7 = .ok (.invokevirtual 195, 3) := by decide +kernel
theorem dX6_shape_10 : decode cX6_shape 10 = .ok (.ifCond .ne 9, 3) := by decide +kernel
theorem dX6_shape_13 : decode cX6_shape 13 = .ok (.aload_n 0, 1) := by decide +kernel
theorem dX6_shape_14 : decode cX6_shape 14 = .ok (.iconst 1, 1) := by decide +kernel
theorem dX6_shape_15 : decode cX6_shape 15 = .ok (.invokevirtual 120, 3) := by decide +kernel
theorem dX6_shape_18 : decode cX6_shape 18 = .ok (.ireturn, 1) := by decide +kernel
theorem dX6_shape_19 : decode cX6_shape 19 = .ok (.iload_n 2, 1) := by decide +kernel
theorem dX6_shape_20 : decode cX6_shape 20 = .ok (.iconst 0, 1) := by decide +kernel
theorem dX6_shape_21 : decode cX6_shape 21 = .ok (.iconst 5, 1) := by decide +kernel
theorem dX6_shape_22 : decode cX6_shape 22 = .ok (.invokestatic 32, 3) := by decide +kernel
theorem dX6_shape_25 : decode cX6_shape 25 = .ok (.ifCond .eq 12, 3) := by decide +kernel
theorem dX6_shape_28 : decode cX6_shape 28 = .ok (.aload_n 0, 1) := by decide +kernel
theorem dX6_shape_29 : decode cX6_shape 29 = .ok (.iload_n 1, 1) := by decide +kernel
theorem dX6_shape_30 : decode cX6_shape 30 = .ok (.iload_n 2, 1) := by decide +kernel
theorem dX6_shape_31 : decode cX6_shape 31 = .ok (.invokevirtual 207, 3) := by decide +kernel
theorem dX6_shape_34 : decode cX6_shape 34 = .ok (.goto 8, 3) := by decide +kernel
theorem dX6_shape_37 : decode cX6_shape 37 = .ok (.aload_n 0, 1) := by decide +kernel
theorem dX6_shape_38 : decode cX6_shape 38 = .ok (.iconst 2, 1) := by decide +kernel
theorem dX6_shape_39 : decode cX6_shape 39 = .ok (.invokevirtual 120, 3) := by decide +kernel
theorem dX6_shape_42 : decode cX6_shape 42 = .ok (.ireturn, 1) := by decide +kernel
theorem dX6_sumBy_0 : decode cX6_sumBy 0 = .ok (.aload_n 0, 1) := by decide +kernel
theorem dX6_sumBy_1 : decode cX6_sumBy 1 = .ok (.iload_n 1, 1) := by decide +kernel
theorem dX6_sumBy_2 : decode cX6_sumBy 2 = .ok (.iload_n 2, 1) := by decide +kernel
theorem dX6_sumBy_3 : decode cX6_sumBy 3 = .ok (.invokevirtual 114, 3) := by decide +kernel
theorem dX6_sumBy_6 : decode cX6_sumBy 6 = .ok (.iconst 0, 1) := by decide +kernel
theorem dX6_sumBy_7 : decode cX6_sumBy 7 = .ok (.istore_n 3, 1) := by decide +kernel
theorem dX6_sumBy_8 : decode cX6_sumBy 8 = .ok (.iconst 0, 1) := by decide +kernel
theorem dX6_sumBy_9 : decode cX6_sumBy 9 = .ok (.istore 4, 2) := by decide +kernel
theorem dX6_sumBy_11 : decode cX6_sumBy 11 = .ok (.iload 4, 2) := by decide +kernel
theorem dX6_sumBy_13 : decode cX6_sumBy 13 = .ok (.aload_n 0, 1) := by decide +kernel
theorem dX6_sumBy_14 : decode cX6_sumBy 14 = .ok (.getfield 98, 3) := by decide +kernel
theorem dX6_sumBy_17 : decode cX6_sumBy 17 = .ok (.if_icmp .ge 19, 3) := by decide +kernel
theorem dX6_sumBy_20 : decode cX6_sumBy 20 = .ok (.iload_n 3, 1) := by decide +kernel
theorem dX6_sumBy_21 : decode cX6_sumBy 21 = .ok (.aload_n 0, 1) := by decide +kernel
theorem dX6_sumBy_22 : decode cX6_sumBy 22 = .ok (.getfield 19, 3) := by decide +kernel
theorem dX6_sumBy_25 : decode cX6_sumBy 25 = .ok (.iload 4, 2) := by decide +kernel
theorem dX6_sumBy_27 : decode cX6_sumBy 27 = .ok (.iaload, 1) := by decide +kernel
theorem dX6_sumBy_28 : decode cX6_sumBy 28 = .ok (.iadd, 1) := by decide +kernel
theorem dX6_sumBy_29 : decode cX6_sumBy 29 = .ok (.istore_n 3, 1) := by decide +kernel
theorem dX6_sumBy_30 : decode cX6_sumBy 30 = .ok (.iinc 4 1, 3) := by decide +kernel
theorem dX6_sumBy_33 : decode cX6_sumBy 33 = .ok (.goto (-22), 3) := by decide +kernel
theorem dX6_sumBy_36 : decode cX6_sumBy 36 = .ok (.iload_n 3, 1) := by decide +kernel
theorem dX6_sumBy_37 : decode cX6_sumBy 37 = .ok (.ireturn, 1) := by decide +kernel
theorem dX6_tellsRow_0 : decode cX6_tellsRow 0 = .ok (.aload_n 0, 1) := by decide +kernel
theorem dX6_tellsRow_1 : decode cX6_tellsRow 1 = .ok (.iload_n 1, 1) := by decide +kernel
theorem dX6_tellsRow_2 : decode cX6_tellsRow 2 = .ok (.iconst 0, 1) := by decide +kernel
theorem dX6_tellsRow_3 : decode cX6_tellsRow 3 = .ok (.invokevirtual 108, 3) := by decide +kernel
theorem dX6_tellsRow_6 : decode cX6_tellsRow 6 = .ok (.istore_n 3, 1) := by decide +kernel
theorem dX6_tellsRow_7 : decode cX6_tellsRow 7 = .ok (.iload_n 2, 1) := by decide +kernel
theorem dX6_tellsRow_8 : decode cX6_tellsRow 8 = .ok (.tableswitch 66 0 4 #[36, 38, 45, 52, 59], 36) := by decide +kernel
theorem dX6_tellsRow_44 : decode cX6_tellsRow 44 = .ok (.iload_n 3, 1) := by decide +kernel
theorem dX6_tellsRow_45 : decode cX6_tellsRow 45 = .ok (.ireturn, 1) := by decide +kernel
theorem dX6_tellsRow_46 : decode cX6_tellsRow 46 = .ok (.aload_n 0, 1) := by decide +kernel
theorem dX6_tellsRow_47 : decode cX6_tellsRow 47 = .ok (.iload_n 3, 1) := by decide +kernel
theorem dX6_tellsRow_48 : decode cX6_tellsRow 48 = .ok (.iconst 0, 1) := by decide +kernel
theorem dX6_tellsRow_49 : decode cX6_tellsRow 49 = .ok (.invokevirtual 36, 3) := by decide +kernel
theorem dX6_tellsRow_52 : decode cX6_tellsRow 52 = .ok (.ireturn, 1) := by decide +kernel
theorem dX6_tellsRow_53 : decode cX6_tellsRow 53 = .ok (.aload_n 0, 1) := by decide +kernel
theorem dX6_tellsRow_54 : decode cX6_tellsRow 54 = .ok (.invokevirtual 44, 3) := by decide +kernel
theorem dX6_tellsRow_57 : decode cX6_tellsRow 57 = .ok (.iload_n 3, 1) := by decide +kernel
theorem dX6_tellsRow_58 : decode cX6_tellsRow 58 = .ok (.isub, 1) := by decide +kernel
theorem dX6_tellsRow_59 : decode cX6_tellsRow 59 = .ok (.ireturn, 1) := by decide +kernel
theorem dX6_tellsRow_60 : decode cX6_tellsRow 60 = .ok (.aload_n 0, 1) := by decide +kernel
theorem dX6_tellsRow_61 : decode cX6_tellsRow 61 = .ok (.iload_n 1, 1) := by decide +kernel
theorem dX6_tellsRow_62 : decode cX6_tellsRow 62 = .ok (.iconst 1, 1) := by decide +kernel
theorem dX6_tellsRow_63 : decode cX6_tellsRow 63 = .ok (.invokevirtual 108, 3) := by decide +kernel
theorem dX6_tellsRow_66 : decode cX6_tellsRow 66 = .ok (.ireturn, 1) := by decide +kernel
theorem dX6_tellsRow_67 : decode cX6_tellsRow 67 = .ok (.aload_n 0, 1) := by decide +kernel
theorem dX6_tellsRow_68 : decode cX6_tellsRow 68 = .ok (.iload_n 1, 1) := by decide +kernel
theorem dX6_tellsRow_69 : decode cX6_tellsRow 69 = .ok (.iload_n 3, 1) := by decide +kernel
theorem dX6_tellsRow_70 : decode cX6_tellsRow 70 = .ok (.invokevirtual 210, 3) := by decide +kernel
theorem dX6_tellsRow_73 : decode cX6_tellsRow 73 = .ok (.ireturn, 1) := by decide +kernel
theorem dX6_tellsRow_74 : decode cX6_tellsRow 74 = .ok (.aload_n 0, 1) := by decide +kernel
theorem dX6_tellsRow_75 : decode cX6_tellsRow 75 = .ok (.iload_n 1, 1) := by decide +kernel
theorem dX6_tellsRow_76 : decode cX6_tellsRow 76 = .ok (.aload_n 0, 1) := by decide +kernel
theorem dX6_tellsRow_77 : decode cX6_tellsRow 77 = .ok (.invokevirtual 44, 3) := by decide +kernel
theorem dX6_tellsRow_80 : decode cX6_tellsRow 80 = .ok (.invokevirtual 210, 3) := by decide +kernel
theorem dX6_tellsRow_83 : decode cX6_tellsRow 83 = .ok (.ireturn, 1) := by decide +kernel
theorem dX6_row_0 : decode cX6_row 0 = .ok (.aload_n 0, 1) := by decide +kernel
theorem dX6_row_1 : decode cX6_row 1 = .ok (.iconst 0, 1) := by decide +kernel
theorem dX6_row_2 : decode cX6_row 2 = .ok (.putfield 25, 3) := by decide +kernel
theorem dX6_row_5 : decode cX6_row 5 = .ok (.aload_n 0, 1) := by decide +kernel
theorem dX6_row_6 : decode cX6_row 6 = .ok (.iload_n 1, 1) := by decide +kernel
theorem dX6_row_7 : decode cX6_row 7 = .ok (.invokevirtual 133, 3) := by decide +kernel
theorem dX6_row_10 : decode cX6_row 10 = .ok (.ifCond .ne 9, 3) := by decide +kernel
theorem dX6_row_13 : decode cX6_row 13 = .ok (.aload_n 0, 1) := by decide +kernel
theorem dX6_row_14 : decode cX6_row 14 = .ok (.iconst 1, 1) := by decide +kernel
theorem dX6_row_15 : decode cX6_row 15 = .ok (.invokevirtual 120, 3) := by decide +kernel
theorem dX6_row_18 : decode cX6_row 18 = .ok (.ireturn, 1) := by decide +kernel
theorem dX6_row_19 : decode cX6_row 19 = .ok (.iload_n 2, 1) := by decide +kernel
theorem dX6_row_20 : decode cX6_row 20 = .ok (.iconst 0, 1) := by decide +kernel
theorem dX6_row_21 : decode cX6_row 21 = .ok (.iconst 5, 1) := by decide +kernel
theorem dX6_row_22 : decode cX6_row 22 = .ok (.invokestatic 32, 3) := by decide +kernel
theorem dX6_row_25 : decode cX6_row 25 = .ok (.ifCond .eq 12, 3) := by decide +kernel
theorem dX6_row_28 : decode cX6_row 28 = .ok (.aload_n 0, 1) := by decide +kernel
theorem dX6_row_29 : decode cX6_row 29 = .ok (.iload_n 1, 1) := by decide +kernel
theorem dX6_row_30 : decode cX6_row 30 = .ok (.iload_n 2, 1) := by decide +kernel
theorem dX6_row_31 : decode cX6_row 31 = .ok (.invokevirtual 213, 3) := by decide +kernel
theorem dX6_row_34 : decode cX6_row 34 = .ok (.goto 8, 3) := by decide +kernel
theorem dX6_row_37 : decode cX6_row 37 = .ok (.aload_n 0, 1) := by decide +kernel
theorem dX6_row_38 : decode cX6_row 38 = .ok (.iconst 2, 1) := by decide +kernel
theorem dX6_row_39 : decode cX6_row 39 = .ok (.invokevirtual 120, 3) := by decide +kernel
theorem dX6_row_42 : decode cX6_row 42 = .ok (.ireturn, 1) := by decide +kernel
theorem dX6_counts_0 : decode cX6_counts 0 = .ok (.iload_n 1, 1) := by decide +kernel
theorem dX6_counts_1 : decode cX6_counts 1 = .ok (.tableswitch 124 0 8 #[51, 58, 65, 72, 88, 95, 102, 109, 119], 51) := by decide +kernel
theorem dX6_counts_52 : decode cX6_counts 52 = .ok (.aload_n 0, 1) := by decide +kernel
theorem dX6_counts_53 : decode cX6_counts 53 = .ok (.getfield 7, 3) := by decide +kernel
theorem dX6_counts_56 : decode cX6_counts 56 = .ok (.iconst 0, 1) := by decide +kernel
theorem dX6_counts_57 : decode cX6_counts 57 = .ok (.iaload, 1) := by decide +kernel
theorem dX6_counts_58 : decode cX6_counts 58 = .ok (.ireturn, 1) := by decide +kernel
theorem dX6_counts_59 : decode cX6_counts 59 = .ok (.aload_n 0, 1) := by decide +kernel
theorem dX6_counts_60 : decode cX6_counts 60 = .ok (.getfield 7, 3) := by decide +kernel
theorem dX6_counts_63 : decode cX6_counts 63 = .ok (.iconst 1, 1) := by decide +kernel
theorem dX6_counts_64 : decode cX6_counts 64 = .ok (.iaload, 1) := by decide +kernel
theorem dX6_counts_65 : decode cX6_counts 65 = .ok (.ireturn, 1) := by decide +kernel
theorem dX6_counts_66 : decode cX6_counts 66 = .ok (.aload_n 0, 1) := by decide +kernel
theorem dX6_counts_67 : decode cX6_counts 67 = .ok (.getfield 7, 3) := by decide +kernel
theorem dX6_counts_70 : decode cX6_counts 70 = .ok (.iconst 2, 1) := by decide +kernel
theorem dX6_counts_71 : decode cX6_counts 71 = .ok (.iaload, 1) := by decide +kernel
theorem dX6_counts_72 : decode cX6_counts 72 = .ok (.ireturn, 1) := by decide +kernel
theorem dX6_counts_73 : decode cX6_counts 73 = .ok (.aload_n 0, 1) := by decide +kernel
theorem dX6_counts_74 : decode cX6_counts 74 = .ok (.getfield 7, 3) := by decide +kernel
theorem dX6_counts_77 : decode cX6_counts 77 = .ok (.iconst 2, 1) := by decide +kernel
theorem dX6_counts_78 : decode cX6_counts 78 = .ok (.iaload, 1) := by decide +kernel
theorem dX6_counts_79 : decode cX6_counts 79 = .ok (.aload_n 0, 1) := by decide +kernel
theorem dX6_counts_80 : decode cX6_counts 80 = .ok (.aload_n 0, 1) := by decide +kernel
theorem dX6_counts_81 : decode cX6_counts 81 = .ok (.invokevirtual 44, 3) := by decide +kernel
theorem dX6_counts_84 : decode cX6_counts 84 = .ok (.invokevirtual 201, 3) := by decide +kernel
theorem dX6_counts_87 : decode cX6_counts 87 = .ok (.isub, 1) := by decide +kernel
theorem dX6_counts_88 : decode cX6_counts 88 = .ok (.ireturn, 1) := by decide +kernel
theorem dX6_counts_89 : decode cX6_counts 89 = .ok (.aload_n 0, 1) := by decide +kernel
theorem dX6_counts_90 : decode cX6_counts 90 = .ok (.getfield 7, 3) := by decide +kernel
theorem dX6_counts_93 : decode cX6_counts 93 = .ok (.iconst 3, 1) := by decide +kernel
theorem dX6_counts_94 : decode cX6_counts 94 = .ok (.iaload, 1) := by decide +kernel
theorem dX6_counts_95 : decode cX6_counts 95 = .ok (.ireturn, 1) := by decide +kernel
theorem dX6_counts_96 : decode cX6_counts 96 = .ok (.aload_n 0, 1) := by decide +kernel
theorem dX6_counts_97 : decode cX6_counts 97 = .ok (.getfield 7, 3) := by decide +kernel
theorem dX6_counts_100 : decode cX6_counts 100 = .ok (.iconst 4, 1) := by decide +kernel
theorem dX6_counts_101 : decode cX6_counts 101 = .ok (.iaload, 1) := by decide +kernel
theorem dX6_counts_102 : decode cX6_counts 102 = .ok (.ireturn, 1) := by decide +kernel
theorem dX6_counts_103 : decode cX6_counts 103 = .ok (.aload_n 0, 1) := by decide +kernel
theorem dX6_counts_104 : decode cX6_counts 104 = .ok (.getfield 7, 3) := by decide +kernel
theorem dX6_counts_107 : decode cX6_counts 107 = .ok (.iconst 5, 1) := by decide +kernel
theorem dX6_counts_108 : decode cX6_counts 108 = .ok (.iaload, 1) := by decide +kernel
theorem dX6_counts_109 : decode cX6_counts 109 = .ok (.ireturn, 1) := by decide +kernel
theorem dX6_counts_110 : decode cX6_counts 110 = .ok (.aload_n 0, 1) := by decide +kernel
theorem dX6_counts_111 : decode cX6_counts 111 = .ok (.aload_n 0, 1) := by decide +kernel
theorem dX6_counts_112 : decode cX6_counts 112 = .ok (.invokevirtual 44, 3) := by decide +kernel
theorem dX6_counts_115 : decode cX6_counts 115 = .ok (.iconst 0, 1) := by decide +kernel
theorem dX6_counts_116 : decode cX6_counts 116 = .ok (.invokevirtual 36, 3) := by decide +kernel
theorem dX6_counts_119 : decode cX6_counts 119 = .ok (.ireturn, 1) := by decide +kernel
theorem dX6_counts_120 : decode cX6_counts 120 = .ok (.aload_n 0, 1) := by decide +kernel
theorem dX6_counts_121 : decode cX6_counts 121 = .ok (.invokevirtual 148, 3) := by decide +kernel
theorem dX6_counts_124 : decode cX6_counts 124 = .ok (.ireturn, 1) := by decide +kernel
theorem dX6_counts_125 : decode cX6_counts 125 = .ok (.aload_n 0, 1) := by decide +kernel
theorem dX6_counts_126 : decode cX6_counts 126 = .ok (.getfield 29, 3) := by decide +kernel
theorem dX6_counts_129 : decode cX6_counts 129 = .ok (.ireturn, 1) := by decide +kernel
theorem dX6_count_0 : decode cX6_count 0 = .ok (.aload_n 0, 1) := by decide +kernel
theorem dX6_count_1 : decode cX6_count 1 = .ok (.iconst 0, 1) := by decide +kernel
theorem dX6_count_2 : decode cX6_count 2 = .ok (.putfield 25, 3) := by decide +kernel
theorem dX6_count_5 : decode cX6_count 5 = .ok (.iload_n 1, 1) := by decide +kernel
theorem dX6_count_6 : decode cX6_count 6 = .ok (.iconst 0, 1) := by decide +kernel
theorem dX6_count_7 : decode cX6_count 7 = .ok (.bipush 9, 2) := by decide +kernel
theorem dX6_count_9 : decode cX6_count 9 = .ok (.invokestatic 32, 3) := by decide +kernel
theorem dX6_count_12 : decode cX6_count 12 = .ok (.ifCond .eq 11, 3) := by decide +kernel
theorem dX6_count_15 : decode cX6_count 15 = .ok (.aload_n 0, 1) := by decide +kernel
theorem dX6_count_16 : decode cX6_count 16 = .ok (.iload_n 1, 1) := by decide +kernel
theorem dX6_count_17 : decode cX6_count 17 = .ok (.invokevirtual 216, 3) := by decide +kernel
theorem dX6_count_20 : decode cX6_count 20 = .ok (.goto 8, 3) := by decide +kernel
theorem dX6_count_23 : decode cX6_count 23 = .ok (.aload_n 0, 1) := by decide +kernel
theorem dX6_count_24 : decode cX6_count 24 = .ok (.iconst 1, 1) := by decide +kernel
theorem dX6_count_25 : decode cX6_count 25 = .ok (.invokevirtual 120, 3) := by decide +kernel
theorem dX6_count_28 : decode cX6_count 28 = .ok (.ireturn, 1) := by decide +kernel
theorem dX6_losses_0 : decode cX6_losses 0 = .ok (.aload_n 0, 1) := by decide +kernel
theorem dX6_losses_1 : decode cX6_losses 1 = .ok (.iload_n 1, 1) := by decide +kernel
theorem dX6_losses_2 : decode cX6_losses 2 = .ok (.iconst 0, 1) := by decide +kernel
theorem dX6_losses_3 : decode cX6_losses 3 = .ok (.invokevirtual 108, 3) := by decide +kernel
theorem dX6_losses_6 : decode cX6_losses 6 = .ok (.istore_n 3, 1) := by decide +kernel
theorem dX6_losses_7 : decode cX6_losses 7 = .ok (.aload_n 0, 1) := by decide +kernel
theorem dX6_losses_8 : decode cX6_losses 8 = .ok (.iload_n 1, 1) := by decide +kernel
theorem dX6_losses_9 : decode cX6_losses 9 = .ok (.iload_n 2, 1) := by decide +kernel
theorem dX6_losses_10 : decode cX6_losses 10 = .ok (.invokevirtual 114, 3) := by decide +kernel
theorem dX6_losses_13 : decode cX6_losses 13 = .ok (.aload_n 0, 1) := by decide +kernel
theorem dX6_losses_14 : decode cX6_losses 14 = .ok (.iload_n 2, 1) := by decide +kernel
theorem dX6_losses_15 : decode cX6_losses 15 = .ok (.iload_n 3, 1) := by decide +kernel
theorem dX6_losses_16 : decode cX6_losses 16 = .ok (.invokevirtual 111, 3) := by decide +kernel
theorem dX6_losses_19 : decode cX6_losses 19 = .ok (.iconst 0, 1) := by decide +kernel
theorem dX6_losses_20 : decode cX6_losses 20 = .ok (.istore 4, 2) := by decide +kernel
theorem dX6_losses_22 : decode cX6_losses 22 = .ok (.iconst 0, 1) := by decide +kernel
theorem dX6_losses_23 : decode cX6_losses 23 = .ok (.istore 5, 2) := by decide +kernel
theorem dX6_losses_25 : decode cX6_losses 25 = .ok (.iload 5, 2) := by decide +kernel
theorem dX6_losses_27 : decode cX6_losses 27 = .ok (.aload_n 0, 1) := by decide +kernel
theorem dX6_losses_28 : decode cX6_losses 28 = .ok (.getfield 98, 3) := by decide +kernel
theorem dX6_losses_31 : decode cX6_losses 31 = .ok (.if_icmp .ge 38, 3) := by decide +kernel
theorem dX6_losses_34 : decode cX6_losses 34 = .ok (.iload 4, 2) := by decide +kernel
theorem dX6_losses_36 : decode cX6_losses 36 = .ok (.aload_n 0, 1) := by decide +kernel
theorem dX6_losses_37 : decode cX6_losses 37 = .ok (.getfield 19, 3) := by decide +kernel
theorem dX6_losses_40 : decode cX6_losses 40 = .ok (.iload 5, 2) := by decide +kernel
theorem dX6_losses_42 : decode cX6_losses 42 = .ok (.iaload, 1) := by decide +kernel
theorem dX6_losses_43 : decode cX6_losses 43 = .ok (.aload_n 0, 1) := by decide +kernel
theorem dX6_losses_44 : decode cX6_losses 44 = .ok (.iload_n 1, 1) := by decide +kernel
theorem dX6_losses_45 : decode cX6_losses 45 = .ok (.iconst 2, 1) := by decide +kernel
theorem dX6_losses_46 : decode cX6_losses 46 = .ok (.iload 5, 2) := by decide +kernel
theorem dX6_losses_48 : decode cX6_losses 48 = .ok (.iadd, 1) := by decide +kernel
theorem dX6_losses_49 : decode cX6_losses 49 = .ok (.invokevirtual 108, 3) := by decide +kernel
theorem dX6_losses_52 : decode cX6_losses 52 = .ok (.if_icmp .ne 7, 3) := by decide +kernel
theorem dX6_losses_55 : decode cX6_losses 55 = .ok (.iconst 0, 1) := by decide +kernel
theorem dX6_losses_56 : decode cX6_losses 56 = .ok (.goto 4, 3) := by decide +kernel
theorem dX6_losses_59 : decode cX6_losses 59 = .ok (.iconst 1, 1) := by decide +kernel
theorem dX6_losses_60 : decode cX6_losses 60 = .ok (.iadd, 1) := by decide +kernel
theorem dX6_losses_61 : decode cX6_losses 61 = .ok (.istore 4, 2) := by decide +kernel
theorem dX6_losses_63 : decode cX6_losses 63 = .ok (.iinc 5 1, 3) := by decide +kernel
theorem dX6_losses_66 : decode cX6_losses 66 = .ok (.goto (-41), 3) := by decide +kernel
theorem dX6_losses_69 : decode cX6_losses 69 = .ok (.iload 4, 2) := by decide +kernel
theorem dX6_losses_71 : decode cX6_losses 71 = .ok (.ireturn, 1) := by decide +kernel
theorem dX6_lost_0 : decode cX6_lost 0 = .ok (.aload_n 0, 1) := by decide +kernel
theorem dX6_lost_1 : decode cX6_lost 1 = .ok (.iconst 0, 1) := by decide +kernel
theorem dX6_lost_2 : decode cX6_lost 2 = .ok (.putfield 25, 3) := by decide +kernel
theorem dX6_lost_5 : decode cX6_lost 5 = .ok (.aload_n 0, 1) := by decide +kernel
theorem dX6_lost_6 : decode cX6_lost 6 = .ok (.iload_n 1, 1) := by decide +kernel
theorem dX6_lost_7 : decode cX6_lost 7 = .ok (.invokevirtual 133, 3) := by decide +kernel
theorem dX6_lost_10 : decode cX6_lost 10 = .ok (.ifCond .eq 20, 3) := by decide +kernel
theorem dX6_lost_13 : decode cX6_lost 13 = .ok (.aload_n 0, 1) := by decide +kernel
theorem dX6_lost_14 : decode cX6_lost 14 = .ok (.iload_n 2, 1) := by decide +kernel
theorem dX6_lost_15 : decode cX6_lost 15 = .ok (.invokevirtual 127, 3) := by decide +kernel
theorem dX6_lost_18 : decode cX6_lost 18 = .ok (.ifCond .eq 12, 3) := by decide +kernel
theorem dX6_lost_21 : decode cX6_lost 21 = .ok (.aload_n 0, 1) := by decide +kernel
theorem dX6_lost_22 : decode cX6_lost 22 = .ok (.iload_n 1, 1) := by decide +kernel
theorem dX6_lost_23 : decode cX6_lost 23 = .ok (.iload_n 2, 1) := by decide +kernel
theorem dX6_lost_24 : decode cX6_lost 24 = .ok (.invokevirtual 219, 3) := by decide +kernel
theorem dX6_lost_27 : decode cX6_lost 27 = .ok (.goto 8, 3) := by decide +kernel
theorem dX6_lost_30 : decode cX6_lost 30 = .ok (.aload_n 0, 1) := by decide +kernel
theorem dX6_lost_31 : decode cX6_lost 31 = .ok (.iconst 1, 1) := by decide +kernel
theorem dX6_lost_32 : decode cX6_lost 32 = .ok (.invokevirtual 120, 3) := by decide +kernel
theorem dX6_lost_35 : decode cX6_lost 35 = .ok (.ireturn, 1) := by decide +kernel
theorem dX6_against_0 : decode cX6_against 0 = .ok (.aload_n 0, 1) := by decide +kernel
theorem dX6_against_1 : decode cX6_against 1 = .ok (.iconst 0, 1) := by decide +kernel
theorem dX6_against_2 : decode cX6_against 2 = .ok (.putfield 25, 3) := by decide +kernel
theorem dX6_against_5 : decode cX6_against 5 = .ok (.aload_n 0, 1) := by decide +kernel
theorem dX6_against_6 : decode cX6_against 6 = .ok (.iload_n 1, 1) := by decide +kernel
theorem dX6_against_7 : decode cX6_against 7 = .ok (.invokevirtual 133, 3) := by decide +kernel
theorem dX6_against_10 : decode cX6_against 10 = .ok (.ifCond .eq 11, 3) := by decide +kernel
theorem dX6_against_13 : decode cX6_against 13 = .ok (.aload_n 0, 1) := by decide +kernel
theorem dX6_against_14 : decode cX6_against 14 = .ok (.iload_n 2, 1) := by decide +kernel
theorem dX6_against_15 : decode cX6_against 15 = .ok (.invokevirtual 127, 3) := by decide +kernel
theorem dX6_against_18 : decode cX6_against 18 = .ok (.ifCond .ne 9, 3) := by decide +kernel
theorem dX6_against_21 : decode cX6_against 21 = .ok (.aload_n 0, 1) := by decide +kernel
theorem dX6_against_22 : decode cX6_against 22 = .ok (.iconst 1, 1) := by decide +kernel
theorem dX6_against_23 : decode cX6_against 23 = .ok (.invokevirtual 120, 3) := by decide +kernel
theorem dX6_against_26 : decode cX6_against 26 = .ok (.ireturn, 1) := by decide +kernel
theorem dX6_against_27 : decode cX6_against 27 = .ok (.iload_n 3, 1) := by decide +kernel
theorem dX6_against_28 : decode cX6_against 28 = .ok (.invokestatic 51, 3) := by decide +kernel
theorem dX6_against_31 : decode cX6_against 31 = .ok (.ifCond .eq 13, 3) := by decide +kernel
theorem dX6_against_34 : decode cX6_against 34 = .ok (.aload_n 0, 1) := by decide +kernel
theorem dX6_against_35 : decode cX6_against 35 = .ok (.iload_n 1, 1) := by decide +kernel
theorem dX6_against_36 : decode cX6_against 36 = .ok (.iload_n 2, 1) := by decide +kernel
theorem dX6_against_37 : decode cX6_against 37 = .ok (.iload_n 3, 1) := by decide +kernel
theorem dX6_against_38 : decode cX6_against 38 = .ok (.invokevirtual 136, 3) := by decide +kernel
theorem dX6_against_41 : decode cX6_against 41 = .ok (.goto 8, 3) := by decide +kernel
theorem dX6_against_44 : decode cX6_against 44 = .ok (.aload_n 0, 1) := by decide +kernel
theorem dX6_against_45 : decode cX6_against 45 = .ok (.iconst 2, 1) := by decide +kernel
theorem dX6_against_46 : decode cX6_against 46 = .ok (.invokevirtual 120, 3) := by decide +kernel
theorem dX6_against_49 : decode cX6_against 49 = .ok (.ireturn, 1) := by decide +kernel
theorem dX6_steps_0 : decode cX6_steps 0 = .ok (.aload_n 0, 1) := by decide +kernel
theorem dX6_steps_1 : decode cX6_steps 1 = .ok (.getfield 7, 3) := by decide +kernel
theorem dX6_steps_4 : decode cX6_steps 4 = .ok (.iconst 2, 1) := by decide +kernel
theorem dX6_steps_5 : decode cX6_steps 5 = .ok (.iaload, 1) := by decide +kernel
theorem dX6_steps_6 : decode cX6_steps 6 = .ok (.aload_n 0, 1) := by decide +kernel
theorem dX6_steps_7 : decode cX6_steps 7 = .ok (.aload_n 0, 1) := by decide +kernel
theorem dX6_steps_8 : decode cX6_steps 8 = .ok (.invokevirtual 44, 3) := by decide +kernel
theorem dX6_steps_11 : decode cX6_steps 11 = .ok (.invokevirtual 201, 3) := by decide +kernel
theorem dX6_steps_14 : decode cX6_steps 14 = .ok (.isub, 1) := by decide +kernel
theorem dX6_steps_15 : decode cX6_steps 15 = .ok (.istore_n 1, 1) := by decide +kernel
theorem dX6_steps_16 : decode cX6_steps 16 = .ok (.aload_n 0, 1) := by decide +kernel
theorem dX6_steps_17 : decode cX6_steps 17 = .ok (.getfield 7, 3) := by decide +kernel
theorem dX6_steps_20 : decode cX6_steps 20 = .ok (.iconst 3, 1) := by decide +kernel
theorem dX6_steps_21 : decode cX6_steps 21 = .ok (.iaload, 1) := by decide +kernel
theorem dX6_steps_22 : decode cX6_steps 22 = .ok (.istore_n 2, 1) := by decide +kernel
theorem dX6_steps_23 : decode cX6_steps 23 = .ok (.iconst 0, 1) := by decide +kernel
theorem dX6_steps_24 : decode cX6_steps 24 = .ok (.istore_n 3, 1) := by decide +kernel
theorem dX6_steps_25 : decode cX6_steps 25 = .ok (.iload_n 1, 1) := by decide +kernel
theorem dX6_steps_26 : decode cX6_steps 26 = .ok (.ifCond .le 49, 3) := by decide +kernel
theorem dX6_steps_29 : decode cX6_steps 29 = .ok (.iload_n 2, 1) := by decide +kernel
theorem dX6_steps_30 : decode cX6_steps 30 = .ok (.aload_n 0, 1) := by decide +kernel
theorem dX6_steps_31 : decode cX6_steps 31 = .ok (.getfield 7, 3) := by decide +kernel
theorem dX6_steps_34 : decode cX6_steps 34 = .ok (.iconst 2, 1) := by decide +kernel
theorem dX6_steps_35 : decode cX6_steps 35 = .ok (.iaload, 1) := by decide +kernel
theorem dX6_steps_36 : decode cX6_steps 36 = .ok (.if_icmp .ge 7, 3) := by decide +kernel
theorem dX6_steps_39 : decode cX6_steps 39 = .ok (.iload_n 2, 1) := by decide +kernel
theorem dX6_steps_40 : decode cX6_steps 40 = .ok (.goto 4, 3) := by decide +kernel
theorem dX6_steps_43 : decode cX6_steps 43 = .ok (.iconst 0, 1) := by decide +kernel
theorem dX6_steps_44 : decode cX6_steps 44 = .ok (.istore_n 2, 1) := by decide +kernel
theorem dX6_steps_45 : decode cX6_steps 45 = .ok (.iload_n 1, 1) := by decide +kernel
theorem dX6_steps_46 : decode cX6_steps 46 = .ok (.aload_n 0, 1) := by decide +kernel
theorem dX6_steps_47 : decode cX6_steps 47 = .ok (.iload_n 2, 1) := by decide +kernel
theorem dX6_steps_48 : decode cX6_steps 48 = .ok (.iconst 0, 1) := by decide +kernel
theorem dX6_steps_49 : decode cX6_steps 49 = .ok (.invokevirtual 108, 3) := by decide +kernel
theorem dX6_steps_52 : decode cX6_steps 52 = .ok (.aload_n 0, 1) := by decide +kernel
theorem dX6_steps_53 : decode cX6_steps 53 = .ok (.invokevirtual 44, 3) := by decide +kernel
theorem dX6_steps_56 : decode cX6_steps 56 = .ok (.if_icmp .ge 7, 3) := by decide +kernel
theorem dX6_steps_59 : decode cX6_steps 59 = .ok (.iconst 1, 1) := by decide +kernel
theorem dX6_steps_60 : decode cX6_steps 60 = .ok (.goto 4, 3) := by decide +kernel
theorem dX6_steps_63 : decode cX6_steps 63 = .ok (.iconst 0, 1) := by decide +kernel
theorem dX6_steps_64 : decode cX6_steps 64 = .ok (.isub, 1) := by decide +kernel
theorem dX6_steps_65 : decode cX6_steps 65 = .ok (.istore_n 1, 1) := by decide +kernel
theorem dX6_steps_66 : decode cX6_steps 66 = .ok (.iinc 2 1, 3) := by decide +kernel
theorem dX6_steps_69 : decode cX6_steps 69 = .ok (.iinc 3 1, 3) := by decide +kernel
theorem dX6_steps_72 : decode cX6_steps 72 = .ok (.goto (-47), 3) := by decide +kernel
theorem dX6_steps_75 : decode cX6_steps 75 = .ok (.iload_n 3, 1) := by decide +kernel
theorem dX6_steps_76 : decode cX6_steps 76 = .ok (.ireturn, 1) := by decide +kernel
theorem dX6_toGo_0 : decode cX6_toGo 0 = .ok (.aload_n 0, 1) := by decide +kernel
theorem dX6_toGo_1 : decode cX6_toGo 1 = .ok (.iconst 0, 1) := by decide +kernel
theorem dX6_toGo_2 : decode cX6_toGo 2 = .ok (.putfield 25, 3) := by decide +kernel
theorem dX6_toGo_5 : decode cX6_toGo 5 = .ok (.aload_n 0, 1) := by decide +kernel
theorem dX6_toGo_6 : decode cX6_toGo 6 = .ok (.invokevirtual 222, 3) := by decide +kernel
theorem dX6_toGo_9 : decode cX6_toGo 9 = .ok (.ireturn, 1) := by decide +kernel
theorem dX6_found_0 : decode cX6_found 0 = .ok (.iconst 0, 1) := by decide +kernel
theorem dX6_found_1 : decode cX6_found 1 = .ok (.istore 4, 2) := by decide +kernel
theorem dX6_found_3 : decode cX6_found 3 = .ok (.iconst 0, 1) := by decide +kernel
theorem dX6_found_4 : decode cX6_found 4 = .ok (.istore 5, 2) := by decide +kernel
theorem dX6_found_6 : decode cX6_found 6 = .ok (.iload 5, 2) := by decide +kernel
theorem dX6_found_8 : decode cX6_found 8 = .ok (.aload_n 0, 1) := by decide +kernel
theorem dX6_found_9 : decode cX6_found 9 = .ok (.getfield 7, 3) := by decide +kernel
theorem dX6_found_12 : decode cX6_found 12 = .ok (.iconst 2, 1) := by decide +kernel
theorem dX6_found_13 : decode cX6_found 13 = .ok (.iaload, 1) := by decide +kernel
theorem dX6_found_14 : decode cX6_found 14 = .ok (.if_icmp .ge 34, 3) := by decide +kernel
theorem dX6_found_17 : decode cX6_found 17 = .ok (.iload 4, 2) := by decide +kernel
theorem dX6_found_19 : decode cX6_found 19 = .ok (.aload_n 0, 1) := by decide +kernel
theorem dX6_found_20 : decode cX6_found 20 = .ok (.iload 5, 2) := by decide +kernel
theorem dX6_found_22 : decode cX6_found 22 = .ok (.iload_n 1, 1) := by decide +kernel
theorem dX6_found_23 : decode cX6_found 23 = .ok (.iload_n 2, 1) := by decide +kernel
theorem dX6_found_24 : decode cX6_found 24 = .ok (.invokevirtual 192, 3) := by decide +kernel
theorem dX6_found_27 : decode cX6_found 27 = .ok (.iload_n 3, 1) := by decide +kernel
theorem dX6_found_28 : decode cX6_found 28 = .ok (.if_icmp .ne 10, 3) := by decide +kernel
theorem dX6_found_31 : decode cX6_found 31 = .ok (.iconst 1, 1) := by decide +kernel
theorem dX6_found_32 : decode cX6_found 32 = .ok (.iload 5, 2) := by decide +kernel
theorem dX6_found_34 : decode cX6_found 34 = .ok (.ishl, 1) := by decide +kernel
theorem dX6_found_35 : decode cX6_found 35 = .ok (.goto 4, 3) := by decide +kernel
theorem dX6_found_38 : decode cX6_found 38 = .ok (.iconst 0, 1) := by decide +kernel
theorem dX6_found_39 : decode cX6_found 39 = .ok (.ior, 1) := by decide +kernel
theorem dX6_found_40 : decode cX6_found 40 = .ok (.istore 4, 2) := by decide +kernel
theorem dX6_found_42 : decode cX6_found 42 = .ok (.iinc 5 1, 3) := by decide +kernel
theorem dX6_found_45 : decode cX6_found 45 = .ok (.goto (-39), 3) := by decide +kernel
theorem dX6_found_48 : decode cX6_found 48 = .ok (.iload 4, 2) := by decide +kernel
theorem dX6_found_50 : decode cX6_found 50 = .ok (.ireturn, 1) := by decide +kernel
theorem dX6_find_0 : decode cX6_find 0 = .ok (.aload_n 0, 1) := by decide +kernel
theorem dX6_find_1 : decode cX6_find 1 = .ok (.iconst 0, 1) := by decide +kernel
theorem dX6_find_2 : decode cX6_find 2 = .ok (.putfield 25, 3) := by decide +kernel
theorem dX6_find_5 : decode cX6_find 5 = .ok (.aload_n 0, 1) := by decide +kernel
theorem dX6_find_6 : decode cX6_find 6 = .ok (.iload_n 1, 1) := by decide +kernel
theorem dX6_find_7 : decode cX6_find 7 = .ok (.invokevirtual 127, 3) := by decide +kernel
theorem dX6_find_10 : decode cX6_find 10 = .ok (.ifCond .ne 9, 3) := by decide +kernel
theorem dX6_find_13 : decode cX6_find 13 = .ok (.aload_n 0, 1) := by decide +kernel
theorem dX6_find_14 : decode cX6_find 14 = .ok (.iconst 1, 1) := by decide +kernel
theorem dX6_find_15 : decode cX6_find 15 = .ok (.invokevirtual 120, 3) := by decide +kernel
theorem dX6_find_18 : decode cX6_find 18 = .ok (.ireturn, 1) := by decide +kernel
theorem dX6_find_19 : decode cX6_find 19 = .ok (.iload_n 2, 1) := by decide +kernel
theorem dX6_find_20 : decode cX6_find 20 = .ok (.invokestatic 51, 3) := by decide +kernel
theorem dX6_find_23 : decode cX6_find 23 = .ok (.ifCond .eq 23, 3) := by decide +kernel
theorem dX6_find_26 : decode cX6_find 26 = .ok (.iload_n 3, 1) := by decide +kernel
theorem dX6_find_27 : decode cX6_find 27 = .ok (.iconst 0, 1) := by decide +kernel
theorem dX6_find_28 : decode cX6_find 28 = .ok (.ldc 101, 2) := by decide +kernel
theorem dX6_find_30 : decode cX6_find 30 = .ok (.invokestatic 32, 3) := by decide +kernel
theorem dX6_find_33 : decode cX6_find 33 = .ok (.ifCond .eq 13, 3) := by decide +kernel
theorem dX6_find_36 : decode cX6_find 36 = .ok (.aload_n 0, 1) := by decide +kernel
theorem dX6_find_37 : decode cX6_find 37 = .ok (.iload_n 1, 1) := by decide +kernel
theorem dX6_find_38 : decode cX6_find 38 = .ok (.iload_n 2, 1) := by decide +kernel
theorem dX6_find_39 : decode cX6_find 39 = .ok (.iload_n 3, 1) := by decide +kernel
theorem dX6_find_40 : decode cX6_find 40 = .ok (.invokevirtual 225, 3) := by decide +kernel
theorem dX6_find_43 : decode cX6_find 43 = .ok (.goto 8, 3) := by decide +kernel
theorem dX6_find_46 : decode cX6_find 46 = .ok (.aload_n 0, 1) := by decide +kernel
theorem dX6_find_47 : decode cX6_find 47 = .ok (.iconst 2, 1) := by decide +kernel
theorem dX6_find_48 : decode cX6_find 48 = .ok (.invokevirtual 120, 3) := by decide +kernel
theorem dX6_find_51 : decode cX6_find 51 = .ok (.ireturn, 1) := by decide +kernel
theorem dX6_freshShare_0 : decode cX6_freshShare 0 = .ok (.aload_n 0, 1) := by decide +kernel
theorem dX6_freshShare_1 : decode cX6_freshShare 1 = .ok (.iconst 0, 1) := by decide +kernel
theorem dX6_freshShare_2 : decode cX6_freshShare 2 = .ok (.putfield 25, 3) := by decide +kernel
theorem dX6_freshShare_5 : decode cX6_freshShare 5 = .ok (.aload_n 0, 1) := by decide +kernel
theorem dX6_freshShare_6 : decode cX6_freshShare 6 = .ok (.getfield 7, 3) := by decide +kernel
theorem dX6_freshShare_9 : decode cX6_freshShare 9 = .ok (.iconst 2, 1) := by decide +kernel
theorem dX6_freshShare_10 : decode cX6_freshShare 10 = .ok (.iaload, 1) := by decide +kernel
theorem dX6_freshShare_11 : decode cX6_freshShare 11 = .ok (.ifCond .ne 7, 3) := by decide +kernel
theorem dX6_freshShare_14 : decode cX6_freshShare 14 = .ok (.dconst 1, 1) := by decide +kernel
theorem dX6_freshShare_15 : decode cX6_freshShare 15 = .ok (.goto 20, 3) := by decide +kernel
theorem dX6_freshShare_18 : decode cX6_freshShare 18 = .ok (.aload_n 0, 1) := by decide +kernel
theorem dX6_freshShare_19 : decode cX6_freshShare 19 = .ok (.aload_n 0, 1) := by decide +kernel
theorem dX6_freshShare_20 : decode cX6_freshShare 20 = .ok (.invokevirtual 44, 3) := by decide +kernel
theorem dX6_freshShare_23 : decode cX6_freshShare 23 = .ok (.invokevirtual 201, 3) := by decide +kernel
theorem dX6_freshShare_26 : decode cX6_freshShare 26 = .ok (.i2d, 1) := by decide +kernel
theorem dX6_freshShare_27 : decode cX6_freshShare 27 = .ok (.aload_n 0, 1) := by decide +kernel
theorem dX6_freshShare_28 : decode cX6_freshShare 28 = .ok (.getfield 7, 3) := by decide +kernel
theorem dX6_freshShare_31 : decode cX6_freshShare 31 = .ok (.iconst 2, 1) := by decide +kernel
theorem dX6_freshShare_32 : decode cX6_freshShare 32 = .ok (.iaload, 1) := by decide +kernel
theorem dX6_freshShare_33 : decode cX6_freshShare 33 = .ok (.i2d, 1) := by decide +kernel
theorem dX6_freshShare_34 : decode cX6_freshShare 34 = .ok (.ddiv, 1) := by decide +kernel
theorem dX6_freshShare_35 : decode cX6_freshShare 35 = .ok (.dreturn, 1) := by decide +kernel
theorem dX6_hashes_0 : decode cX6_hashes 0 = .ok (.aload_n 0, 1) := by decide +kernel
theorem dX6_hashes_1 : decode cX6_hashes 1 = .ok (.ldc2_w 228, 3) := by decide +kernel
theorem dX6_hashes_4 : decode cX6_hashes 4 = .ok (.aload_n 0, 1) := by decide +kernel
theorem dX6_hashes_5 : decode cX6_hashes 5 = .ok (.getfield 230, 3) := by decide +kernel
theorem dX6_hashes_8 : decode cX6_hashes 8 = .ok (.lmul, 1) := by decide +kernel
theorem dX6_hashes_9 : decode cX6_hashes 9 = .ok (.lload_n 1, 1) := by decide +kernel
theorem dX6_hashes_10 : decode cX6_hashes 10 = .ok (.ladd, 1) := by decide +kernel
theorem dX6_hashes_11 : decode cX6_hashes 11 = .ok (.putfield 230, 3) := by decide +kernel
theorem dX6_hashes_14 : decode cX6_hashes 14 = .ok (.return_, 1) := by decide +kernel
theorem dX6_hashesRow_0 : decode cX6_hashesRow 0 = .ok (.iconst 0, 1) := by decide +kernel
theorem dX6_hashesRow_1 : decode cX6_hashesRow 1 = .ok (.istore_n 2, 1) := by decide +kernel
theorem dX6_hashesRow_2 : decode cX6_hashesRow 2 = .ok (.iload_n 2, 1) := by decide +kernel
theorem dX6_hashesRow_3 : decode cX6_hashesRow 3 = .ok (.bipush 6, 2) := by decide +kernel
theorem dX6_hashesRow_5 : decode cX6_hashesRow 5 = .ok (.if_icmp .ge 20, 3) := by decide +kernel
theorem dX6_hashesRow_8 : decode cX6_hashesRow 8 = .ok (.aload_n 0, 1) := by decide +kernel
theorem dX6_hashesRow_9 : decode cX6_hashesRow 9 = .ok (.aload_n 0, 1) := by decide +kernel
theorem dX6_hashesRow_10 : decode cX6_hashesRow 10 = .ok (.iload_n 1, 1) := by decide +kernel
theorem dX6_hashesRow_11 : decode cX6_hashesRow 11 = .ok (.iload_n 2, 1) := by decide +kernel
theorem dX6_hashesRow_12 : decode cX6_hashesRow 12 = .ok (.invokevirtual 213, 3) := by decide +kernel
theorem dX6_hashesRow_15 : decode cX6_hashesRow 15 = .ok (.i2l, 1) := by decide +kernel
theorem dX6_hashesRow_16 : decode cX6_hashesRow 16 = .ok (.invokevirtual 234, 3) := by decide +kernel
theorem dX6_hashesRow_19 : decode cX6_hashesRow 19 = .ok (.iinc 2 1, 3) := by decide +kernel
theorem dX6_hashesRow_22 : decode cX6_hashesRow 22 = .ok (.goto (-20), 3) := by decide +kernel
theorem dX6_hashesRow_25 : decode cX6_hashesRow 25 = .ok (.aload_n 0, 1) := by decide +kernel
theorem dX6_hashesRow_26 : decode cX6_hashesRow 26 = .ok (.getfield 7, 3) := by decide +kernel
theorem dX6_hashesRow_29 : decode cX6_hashesRow 29 = .ok (.iconst 1, 1) := by decide +kernel
theorem dX6_hashesRow_30 : decode cX6_hashesRow 30 = .ok (.iaload, 1) := by decide +kernel
theorem dX6_hashesRow_31 : decode cX6_hashesRow 31 = .ok (.istore_n 2, 1) := by decide +kernel
theorem dX6_hashesRow_32 : decode cX6_hashesRow 32 = .ok (.iload_n 2, 1) := by decide +kernel
theorem dX6_hashesRow_33 : decode cX6_hashesRow 33 = .ok (.aload_n 0, 1) := by decide +kernel
theorem dX6_hashesRow_34 : decode cX6_hashesRow 34 = .ok (.getfield 7, 3) := by decide +kernel
theorem dX6_hashesRow_37 : decode cX6_hashesRow 37 = .ok (.iconst 0, 1) := by decide +kernel
theorem dX6_hashesRow_38 : decode cX6_hashesRow 38 = .ok (.iaload, 1) := by decide +kernel
theorem dX6_hashesRow_39 : decode cX6_hashesRow 39 = .ok (.if_icmp .ge 53, 3) := by decide +kernel
theorem dX6_hashesRow_42 : decode cX6_hashesRow 42 = .ok (.aload_n 0, 1) := by decide +kernel
theorem dX6_hashesRow_43 : decode cX6_hashesRow 43 = .ok (.iload_n 1, 1) := by decide +kernel
theorem dX6_hashesRow_44 : decode cX6_hashesRow 44 = .ok (.iload_n 2, 1) := by decide +kernel
theorem dX6_hashesRow_45 : decode cX6_hashesRow 45 = .ok (.invokevirtual 114, 3) := by decide +kernel
theorem dX6_hashesRow_48 : decode cX6_hashesRow 48 = .ok (.iconst 0, 1) := by decide +kernel
theorem dX6_hashesRow_49 : decode cX6_hashesRow 49 = .ok (.istore_n 3, 1) := by decide +kernel
theorem dX6_hashesRow_50 : decode cX6_hashesRow 50 = .ok (.iload_n 3, 1) := by decide +kernel
theorem dX6_hashesRow_51 : decode cX6_hashesRow 51 = .ok (.aload_n 0, 1) := by decide +kernel
theorem dX6_hashesRow_52 : decode cX6_hashesRow 52 = .ok (.getfield 98, 3) := by decide +kernel
theorem dX6_hashesRow_55 : decode cX6_hashesRow 55 = .ok (.if_icmp .ge 20, 3) := by decide +kernel
theorem dX6_hashesRow_58 : decode cX6_hashesRow 58 = .ok (.aload_n 0, 1) := by decide +kernel
theorem dX6_hashesRow_59 : decode cX6_hashesRow 59 = .ok (.aload_n 0, 1) := by decide +kernel
theorem dX6_hashesRow_60 : decode cX6_hashesRow 60 = .ok (.getfield 19, 3) := by decide +kernel
theorem dX6_hashesRow_63 : decode cX6_hashesRow 63 = .ok (.iload_n 3, 1) := by decide +kernel
theorem dX6_hashesRow_64 : decode cX6_hashesRow 64 = .ok (.iaload, 1) := by decide +kernel
theorem dX6_hashesRow_65 : decode cX6_hashesRow 65 = .ok (.i2l, 1) := by decide +kernel
theorem dX6_hashesRow_66 : decode cX6_hashesRow 66 = .ok (.invokevirtual 234, 3) := by decide +kernel
theorem dX6_hashesRow_69 : decode cX6_hashesRow 69 = .ok (.iinc 3 1, 3) := by decide +kernel
theorem dX6_hashesRow_72 : decode cX6_hashesRow 72 = .ok (.goto (-22), 3) := by decide +kernel
theorem dX6_hashesRow_75 : decode cX6_hashesRow 75 = .ok (.aload_n 0, 1) := by decide +kernel
theorem dX6_hashesRow_76 : decode cX6_hashesRow 76 = .ok (.aload_n 0, 1) := by decide +kernel
theorem dX6_hashesRow_77 : decode cX6_hashesRow 77 = .ok (.iload_n 1, 1) := by decide +kernel
theorem dX6_hashesRow_78 : decode cX6_hashesRow 78 = .ok (.iload_n 2, 1) := by decide +kernel
theorem dX6_hashesRow_79 : decode cX6_hashesRow 79 = .ok (.invokevirtual 219, 3) := by decide +kernel
theorem dX6_hashesRow_82 : decode cX6_hashesRow 82 = .ok (.i2l, 1) := by decide +kernel
theorem dX6_hashesRow_83 : decode cX6_hashesRow 83 = .ok (.invokevirtual 234, 3) := by decide +kernel
theorem dX6_hashesRow_86 : decode cX6_hashesRow 86 = .ok (.iinc 2 1, 3) := by decide +kernel
theorem dX6_hashesRow_89 : decode cX6_hashesRow 89 = .ok (.goto (-57), 3) := by decide +kernel
theorem dX6_hashesRow_92 : decode cX6_hashesRow 92 = .ok (.return_, 1) := by decide +kernel
theorem dX6_digest_0 : decode cX6_digest 0 = .ok (.aload_n 0, 1) := by decide +kernel
theorem dX6_digest_1 : decode cX6_digest 1 = .ok (.ldc2_w 238, 3) := by decide +kernel
theorem dX6_digest_4 : decode cX6_digest 4 = .ok (.putfield 230, 3) := by decide +kernel
theorem dX6_digest_7 : decode cX6_digest 7 = .ok (.iconst 0, 1) := by decide +kernel
theorem dX6_digest_8 : decode cX6_digest 8 = .ok (.istore_n 1, 1) := by decide +kernel
theorem dX6_digest_9 : decode cX6_digest 9 = .ok (.iload_n 1, 1) := by decide +kernel
theorem dX6_digest_10 : decode cX6_digest 10 = .ok (.bipush 10, 2) := by decide +kernel
theorem dX6_digest_12 : decode cX6_digest 12 = .ok (.if_icmp .ge 19, 3) := by decide +kernel
theorem dX6_digest_15 : decode cX6_digest 15 = .ok (.aload_n 0, 1) := by decide +kernel
theorem dX6_digest_16 : decode cX6_digest 16 = .ok (.aload_n 0, 1) := by decide +kernel
theorem dX6_digest_17 : decode cX6_digest 17 = .ok (.iload_n 1, 1) := by decide +kernel
theorem dX6_digest_18 : decode cX6_digest 18 = .ok (.invokevirtual 216, 3) := by decide +kernel
theorem dX6_digest_21 : decode cX6_digest 21 = .ok (.i2l, 1) := by decide +kernel
theorem dX6_digest_22 : decode cX6_digest 22 = .ok (.invokevirtual 234, 3) := by decide +kernel
theorem dX6_digest_25 : decode cX6_digest 25 = .ok (.iinc 1 1, 3) := by decide +kernel
theorem dX6_digest_28 : decode cX6_digest 28 = .ok (.goto (-19), 3) := by decide +kernel
theorem dX6_digest_31 : decode cX6_digest 31 = .ok (.iconst 0, 1) := by decide +kernel
theorem dX6_digest_32 : decode cX6_digest 32 = .ok (.istore_n 1, 1) := by decide +kernel
theorem dX6_digest_33 : decode cX6_digest 33 = .ok (.iload_n 1, 1) := by decide +kernel
theorem dX6_digest_34 : decode cX6_digest 34 = .ok (.aload_n 0, 1) := by decide +kernel
theorem dX6_digest_35 : decode cX6_digest 35 = .ok (.getfield 7, 3) := by decide +kernel
theorem dX6_digest_38 : decode cX6_digest 38 = .ok (.iconst 0, 1) := by decide +kernel
theorem dX6_digest_39 : decode cX6_digest 39 = .ok (.iaload, 1) := by decide +kernel
theorem dX6_digest_40 : decode cX6_digest 40 = .ok (.if_icmp .ge 70, 3) := by decide +kernel
theorem dX6_digest_43 : decode cX6_digest 43 = .ok (.iconst 0, 1) := by decide +kernel
theorem dX6_digest_44 : decode cX6_digest 44 = .ok (.istore_n 2, 1) := by decide +kernel
theorem dX6_digest_45 : decode cX6_digest 45 = .ok (.iload_n 2, 1) := by decide +kernel
theorem dX6_digest_46 : decode cX6_digest 46 = .ok (.bipush 6, 2) := by decide +kernel
theorem dX6_digest_48 : decode cX6_digest 48 = .ok (.if_icmp .ge 20, 3) := by decide +kernel
theorem dX6_digest_51 : decode cX6_digest 51 = .ok (.aload_n 0, 1) := by decide +kernel
theorem dX6_digest_52 : decode cX6_digest 52 = .ok (.aload_n 0, 1) := by decide +kernel
theorem dX6_digest_53 : decode cX6_digest 53 = .ok (.iload_n 1, 1) := by decide +kernel
theorem dX6_digest_54 : decode cX6_digest 54 = .ok (.iload_n 2, 1) := by decide +kernel
theorem dX6_digest_55 : decode cX6_digest 55 = .ok (.invokevirtual 207, 3) := by decide +kernel
theorem dX6_digest_58 : decode cX6_digest 58 = .ok (.i2l, 1) := by decide +kernel
theorem dX6_digest_59 : decode cX6_digest 59 = .ok (.invokevirtual 234, 3) := by decide +kernel
theorem dX6_digest_62 : decode cX6_digest 62 = .ok (.iinc 2 1, 3) := by decide +kernel
theorem dX6_digest_65 : decode cX6_digest 65 = .ok (.goto (-20), 3) := by decide +kernel
theorem dX6_digest_68 : decode cX6_digest 68 = .ok (.iconst 0, 1) := by decide +kernel
theorem dX6_digest_69 : decode cX6_digest 69 = .ok (.istore_n 2, 1) := by decide +kernel
theorem dX6_digest_70 : decode cX6_digest 70 = .ok (.iload_n 2, 1) := by decide +kernel
theorem dX6_digest_71 : decode cX6_digest 71 = .ok (.iconst 3, 1) := by decide +kernel
theorem dX6_digest_72 : decode cX6_digest 72 = .ok (.aload_n 0, 1) := by decide +kernel
theorem dX6_digest_73 : decode cX6_digest 73 = .ok (.iload_n 1, 1) := by decide +kernel
theorem dX6_digest_74 : decode cX6_digest 74 = .ok (.iconst 0, 1) := by decide +kernel
theorem dX6_digest_75 : decode cX6_digest 75 = .ok (.invokevirtual 36, 3) := by decide +kernel
theorem dX6_digest_78 : decode cX6_digest 78 = .ok (.imul, 1) := by decide +kernel
theorem dX6_digest_79 : decode cX6_digest 79 = .ok (.if_icmp .ge 25, 3) := by decide +kernel
theorem dX6_digest_82 : decode cX6_digest 82 = .ok (.aload_n 0, 1) := by decide +kernel
theorem dX6_digest_83 : decode cX6_digest 83 = .ok (.aload_n 0, 1) := by decide +kernel
theorem dX6_digest_84 : decode cX6_digest 84 = .ok (.iload_n 1, 1) := by decide +kernel
theorem dX6_digest_85 : decode cX6_digest 85 = .ok (.iload_n 2, 1) := by decide +kernel
theorem dX6_digest_86 : decode cX6_digest 86 = .ok (.iconst 3, 1) := by decide +kernel
theorem dX6_digest_87 : decode cX6_digest 87 = .ok (.idiv, 1) := by decide +kernel
theorem dX6_digest_88 : decode cX6_digest 88 = .ok (.iload_n 2, 1) := by decide +kernel
theorem dX6_digest_89 : decode cX6_digest 89 = .ok (.iconst 3, 1) := by decide +kernel
theorem dX6_digest_90 : decode cX6_digest 90 = .ok (.irem, 1) := by decide +kernel
theorem dX6_digest_91 : decode cX6_digest 91 = .ok (.invokevirtual 198, 3) := by decide +kernel
theorem dX6_digest_94 : decode cX6_digest 94 = .ok (.i2l, 1) := by decide +kernel
theorem dX6_digest_95 : decode cX6_digest 95 = .ok (.invokevirtual 234, 3) := by decide +kernel
theorem dX6_digest_98 : decode cX6_digest 98 = .ok (.iinc 2 1, 3) := by decide +kernel
theorem dX6_digest_101 : decode cX6_digest 101 = .ok (.goto (-31), 3) := by decide +kernel
theorem dX6_digest_104 : decode cX6_digest 104 = .ok (.iinc 1 1, 3) := by decide +kernel
theorem dX6_digest_107 : decode cX6_digest 107 = .ok (.goto (-74), 3) := by decide +kernel
theorem dX6_digest_110 : decode cX6_digest 110 = .ok (.iconst 0, 1) := by decide +kernel
theorem dX6_digest_111 : decode cX6_digest 111 = .ok (.istore_n 1, 1) := by decide +kernel
theorem dX6_digest_112 : decode cX6_digest 112 = .ok (.iload_n 1, 1) := by decide +kernel
theorem dX6_digest_113 : decode cX6_digest 113 = .ok (.aload_n 0, 1) := by decide +kernel
theorem dX6_digest_114 : decode cX6_digest 114 = .ok (.getfield 7, 3) := by decide +kernel
theorem dX6_digest_117 : decode cX6_digest 117 = .ok (.iconst 2, 1) := by decide +kernel
theorem dX6_digest_118 : decode cX6_digest 118 = .ok (.iaload, 1) := by decide +kernel
theorem dX6_digest_119 : decode cX6_digest 119 = .ok (.if_icmp .ge 14, 3) := by decide +kernel
theorem dX6_digest_122 : decode cX6_digest 122 = .ok (.aload_n 0, 1) := by decide +kernel
theorem dX6_digest_123 : decode cX6_digest 123 = .ok (.iload_n 1, 1) := by decide +kernel
theorem dX6_digest_124 : decode cX6_digest 124 = .ok (.invokevirtual 240, 3) := by decide +kernel
theorem dX6_digest_127 : decode cX6_digest 127 = .ok (.iinc 1 1, 3) := by decide +kernel
theorem dX6_digest_130 : decode cX6_digest 130 = .ok (.goto (-18), 3) := by decide +kernel
theorem dX6_digest_133 : decode cX6_digest 133 = .ok (.iconst 0, 1) := by decide +kernel
theorem dX6_digest_134 : decode cX6_digest 134 = .ok (.istore_n 1, 1) := by decide +kernel
theorem dX6_digest_135 : decode cX6_digest 135 = .ok (.iload_n 1, 1) := by decide +kernel
theorem dX6_digest_136 : decode cX6_digest 136 = .ok (.iconst 4, 1) := by decide +kernel
theorem dX6_digest_137 : decode cX6_digest 137 = .ok (.if_icmp .ge 23, 3) := by decide +kernel
theorem dX6_digest_140 : decode cX6_digest 140 = .ok (.aload_n 0, 1) := by decide +kernel
theorem dX6_digest_141 : decode cX6_digest 141 = .ok (.aload_n 0, 1) := by decide +kernel
theorem dX6_digest_142 : decode cX6_digest 142 = .ok (.getfield 7, 3) := by decide +kernel
theorem dX6_digest_145 : decode cX6_digest 145 = .ok (.bipush 6, 2) := by decide +kernel
theorem dX6_digest_147 : decode cX6_digest 147 = .ok (.iload_n 1, 1) := by decide +kernel
theorem dX6_digest_148 : decode cX6_digest 148 = .ok (.iadd, 1) := by decide +kernel
theorem dX6_digest_149 : decode cX6_digest 149 = .ok (.iaload, 1) := by decide +kernel
theorem dX6_digest_150 : decode cX6_digest 150 = .ok (.i2l, 1) := by decide +kernel
theorem dX6_digest_151 : decode cX6_digest 151 = .ok (.invokevirtual 234, 3) := by decide +kernel
theorem dX6_digest_154 : decode cX6_digest 154 = .ok (.iinc 1 1, 3) := by decide +kernel
theorem dX6_digest_157 : decode cX6_digest 157 = .ok (.goto (-22), 3) := by decide +kernel
theorem dX6_digest_160 : decode cX6_digest 160 = .ok (.aload_n 0, 1) := by decide +kernel
theorem dX6_digest_161 : decode cX6_digest 161 = .ok (.aload_n 0, 1) := by decide +kernel
theorem dX6_digest_162 : decode cX6_digest 162 = .ok (.invokevirtual 222, 3) := by decide +kernel
theorem dX6_digest_165 : decode cX6_digest 165 = .ok (.i2l, 1) := by decide +kernel
theorem dX6_digest_166 : decode cX6_digest 166 = .ok (.invokevirtual 234, 3) := by decide +kernel
theorem dX6_digest_169 : decode cX6_digest 169 = .ok (.aload_n 0, 1) := by decide +kernel
theorem dX6_digest_170 : decode cX6_digest 170 = .ok (.aload_n 0, 1) := by decide +kernel
theorem dX6_digest_171 : decode cX6_digest 171 = .ok (.aload_n 0, 1) := by decide +kernel
theorem dX6_digest_172 : decode cX6_digest 172 = .ok (.invokevirtual 44, 3) := by decide +kernel
theorem dX6_digest_175 : decode cX6_digest 175 = .ok (.iconst 0, 1) := by decide +kernel
theorem dX6_digest_176 : decode cX6_digest 176 = .ok (.iconst 5, 1) := by decide +kernel
theorem dX6_digest_177 : decode cX6_digest 177 = .ok (.invokevirtual 225, 3) := by decide +kernel
theorem dX6_digest_180 : decode cX6_digest 180 = .ok (.i2l, 1) := by decide +kernel
theorem dX6_digest_181 : decode cX6_digest 181 = .ok (.invokevirtual 234, 3) := by decide +kernel
theorem dX6_digest_184 : decode cX6_digest 184 = .ok (.aload_n 0, 1) := by decide +kernel
theorem dX6_digest_185 : decode cX6_digest 185 = .ok (.aload_n 0, 1) := by decide +kernel
theorem dX6_digest_186 : decode cX6_digest 186 = .ok (.invokevirtual 243, 3) := by decide +kernel
theorem dX6_digest_189 : decode cX6_digest 189 = .ok (.invokestatic 247, 3) := by decide +kernel
theorem dX6_digest_192 : decode cX6_digest 192 = .ok (.invokevirtual 234, 3) := by decide +kernel
theorem dX6_digest_195 : decode cX6_digest 195 = .ok (.aload_n 0, 1) := by decide +kernel
theorem dX6_digest_196 : decode cX6_digest 196 = .ok (.aload_n 0, 1) := by decide +kernel
theorem dX6_digest_197 : decode cX6_digest 197 = .ok (.getfield 151, 3) := by decide +kernel
theorem dX6_digest_200 : decode cX6_digest 200 = .ok (.i2l, 1) := by decide +kernel
theorem dX6_digest_201 : decode cX6_digest 201 = .ok (.invokevirtual 234, 3) := by decide +kernel
theorem dX6_digest_204 : decode cX6_digest 204 = .ok (.iconst 0, 1) := by decide +kernel
theorem dX6_digest_205 : decode cX6_digest 205 = .ok (.istore_n 1, 1) := by decide +kernel
theorem dX6_digest_206 : decode cX6_digest 206 = .ok (.iload_n 1, 1) := by decide +kernel
theorem dX6_digest_207 : decode cX6_digest 207 = .ok (.aload_n 0, 1) := by decide +kernel
theorem dX6_digest_208 : decode cX6_digest 208 = .ok (.getfield 151, 3) := by decide +kernel
theorem dX6_digest_211 : decode cX6_digest 211 = .ok (.if_icmp .ge 20, 3) := by decide +kernel
theorem dX6_digest_214 : decode cX6_digest 214 = .ok (.aload_n 0, 1) := by decide +kernel
theorem dX6_digest_215 : decode cX6_digest 215 = .ok (.aload_n 0, 1) := by decide +kernel
theorem dX6_digest_216 : decode cX6_digest 216 = .ok (.getfield 16, 3) := by decide +kernel
theorem dX6_digest_219 : decode cX6_digest 219 = .ok (.iload_n 1, 1) := by decide +kernel
theorem dX6_digest_220 : decode cX6_digest 220 = .ok (.iaload, 1) := by decide +kernel
theorem dX6_digest_221 : decode cX6_digest 221 = .ok (.i2l, 1) := by decide +kernel
theorem dX6_digest_222 : decode cX6_digest 222 = .ok (.invokevirtual 234, 3) := by decide +kernel
theorem dX6_digest_225 : decode cX6_digest 225 = .ok (.iinc 1 1, 3) := by decide +kernel
theorem dX6_digest_228 : decode cX6_digest 228 = .ok (.goto (-22), 3) := by decide +kernel
theorem dX6_digest_231 : decode cX6_digest 231 = .ok (.aload_n 0, 1) := by decide +kernel
theorem dX6_digest_232 : decode cX6_digest 232 = .ok (.iconst 0, 1) := by decide +kernel
theorem dX6_digest_233 : decode cX6_digest 233 = .ok (.putfield 25, 3) := by decide +kernel
theorem dX6_digest_236 : decode cX6_digest 236 = .ok (.aload_n 0, 1) := by decide +kernel
theorem dX6_digest_237 : decode cX6_digest 237 = .ok (.getfield 230, 3) := by decide +kernel
theorem dX6_digest_240 : decode cX6_digest 240 = .ok (.lreturn, 1) := by decide +kernel
theorem dJ9_min_7cf53_0 : decode cJ9_min_7cf53 0 = .ok (.iload_n 0, 1) := by decide +kernel
theorem dJ9_min_7cf53_1 : decode cJ9_min_7cf53 1 = .ok (.iload_n 1, 1) := by decide +kernel
theorem dJ9_min_7cf53_2 : decode cJ9_min_7cf53 2 = .ok (.if_icmp .gt 7, 3) := by decide +kernel
theorem dJ9_min_7cf53_5 : decode cJ9_min_7cf53 5 = .ok (.iload_n 0, 1) := by decide +kernel
theorem dJ9_min_7cf53_6 : decode cJ9_min_7cf53 6 = .ok (.goto 4, 3) := by decide +kernel
theorem dJ9_min_7cf53_9 : decode cJ9_min_7cf53 9 = .ok (.iload_n 1, 1) := by decide +kernel
theorem dJ9_min_7cf53_10 : decode cJ9_min_7cf53 10 = .ok (.ireturn, 1) := by decide +kernel
theorem dL_addNumber_0 : decode cL_addNumber 0 = .ok (.aload_n 3, 1) := by decide +kernel
theorem dL_addNumber_1 : decode cL_addNumber 1 = .ok (.iconst 0, 1) := by decide +kernel
theorem dL_addNumber_2 : decode cL_addNumber 2 = .ok (.aload_n 0, 1) := by decide +kernel
theorem dL_addNumber_3 : decode cL_addNumber 3 = .ok (.iload_n 1, 1) := by decide +kernel
theorem dL_addNumber_4 : decode cL_addNumber 4 = .ok (.iload_n 2, 1) := by decide +kernel
theorem dL_addNumber_5 : decode cL_addNumber 5 = .ok (.invokevirtual 7, 3) := by decide +kernel
theorem dL_addNumber_8 : decode cL_addNumber 8 = .ok (.i2l, 1) := by decide +kernel
theorem dL_addNumber_9 : decode cL_addNumber 9 = .ok (.lastore, 1) := by decide +kernel
theorem dL_addNumber_10 : decode cL_addNumber 10 = .ok (.goto 11, 3) := by decide +kernel
theorem dL_addNumber_13 : decode cL_addNumber 13 = .ok (.astore 4, 2) := by decide +kernel
theorem dL_addNumber_15 : decode cL_addNumber 15 = .ok (.iconst 1, 1) := by decide +kernel
theorem dL_addNumber_16 : decode cL_addNumber 16 = .ok (.ireturn, 1) := by decide +kernel
theorem dL_addNumber_17 : decode cL_addNumber 17 = .ok (.astore 4, 2) := by decide +kernel
theorem dL_addNumber_19 : decode cL_addNumber 19 = .ok (.iconst 2, 1) := by decide +kernel
theorem dL_addNumber_20 : decode cL_addNumber 20 = .ok (.ireturn, 1) := by decide +kernel
theorem dL_addNumber_21 : decode cL_addNumber 21 = .ok (.iconst 0, 1) := by decide +kernel
theorem dL_addNumber_22 : decode cL_addNumber 22 = .ok (.ireturn, 1) := by decide +kernel
theorem dL_addCopy_0 : decode cL_addCopy 0 = .ok (.aload 4, 2) := by decide +kernel
theorem dL_addCopy_2 : decode cL_addCopy 2 = .ok (.iconst 0, 1) := by decide +kernel
theorem dL_addCopy_3 : decode cL_addCopy 3 = .ok (.aload_n 0, 1) := by decide +kernel
theorem dL_addCopy_4 : decode cL_addCopy 4 = .ok (.iload_n 1, 1) := by decide +kernel
theorem dL_addCopy_5 : decode cL_addCopy 5 = .ok (.iload_n 2, 1) := by decide +kernel
theorem dL_addCopy_6 : decode cL_addCopy 6 = .ok (.iload_n 3, 1) := by decide +kernel
theorem dL_addCopy_7 : decode cL_addCopy 7 = .ok (.invokevirtual 17, 3) := by decide +kernel
theorem dL_addCopy_10 : decode cL_addCopy 10 = .ok (.i2l, 1) := by decide +kernel
theorem dL_addCopy_11 : decode cL_addCopy 11 = .ok (.lastore, 1) := by decide +kernel
theorem dL_addCopy_12 : decode cL_addCopy 12 = .ok (.goto 11, 3) := by decide +kernel
theorem dL_addCopy_15 : decode cL_addCopy 15 = .ok (.astore 5, 2) := by decide +kernel
theorem dL_addCopy_17 : decode cL_addCopy 17 = .ok (.iconst 1, 1) := by decide +kernel
theorem dL_addCopy_18 : decode cL_addCopy 18 = .ok (.ireturn, 1) := by decide +kernel
theorem dL_addCopy_19 : decode cL_addCopy 19 = .ok (.astore 5, 2) := by decide +kernel
theorem dL_addCopy_21 : decode cL_addCopy 21 = .ok (.iconst 2, 1) := by decide +kernel
theorem dL_addCopy_22 : decode cL_addCopy 22 = .ok (.ireturn, 1) := by decide +kernel
theorem dL_addCopy_23 : decode cL_addCopy 23 = .ok (.iconst 0, 1) := by decide +kernel
theorem dL_addCopy_24 : decode cL_addCopy 24 = .ok (.ireturn, 1) := by decide +kernel
theorem dL_drop_0 : decode cL_drop 0 = .ok (.aload_n 3, 1) := by decide +kernel
theorem dL_drop_1 : decode cL_drop 1 = .ok (.iconst 0, 1) := by decide +kernel
theorem dL_drop_2 : decode cL_drop 2 = .ok (.aload_n 0, 1) := by decide +kernel
theorem dL_drop_3 : decode cL_drop 3 = .ok (.iload_n 1, 1) := by decide +kernel
theorem dL_drop_4 : decode cL_drop 4 = .ok (.iload_n 2, 1) := by decide +kernel
theorem dL_drop_5 : decode cL_drop 5 = .ok (.invokevirtual 21, 3) := by decide +kernel
theorem dL_drop_8 : decode cL_drop 8 = .ok (.i2l, 1) := by decide +kernel
theorem dL_drop_9 : decode cL_drop 9 = .ok (.lastore, 1) := by decide +kernel
theorem dL_drop_10 : decode cL_drop 10 = .ok (.goto 11, 3) := by decide +kernel
theorem dL_drop_13 : decode cL_drop 13 = .ok (.astore 4, 2) := by decide +kernel
theorem dL_drop_15 : decode cL_drop 15 = .ok (.iconst 1, 1) := by decide +kernel
theorem dL_drop_16 : decode cL_drop 16 = .ok (.ireturn, 1) := by decide +kernel
theorem dL_drop_17 : decode cL_drop 17 = .ok (.astore 4, 2) := by decide +kernel
theorem dL_drop_19 : decode cL_drop 19 = .ok (.iconst 2, 1) := by decide +kernel
theorem dL_drop_20 : decode cL_drop 20 = .ok (.ireturn, 1) := by decide +kernel
theorem dL_drop_21 : decode cL_drop 21 = .ok (.iconst 0, 1) := by decide +kernel
theorem dL_drop_22 : decode cL_drop 22 = .ok (.ireturn, 1) := by decide +kernel
theorem dL_rename_0 : decode cL_rename 0 = .ok (.aload_n 3, 1) := by decide +kernel
theorem dL_rename_1 : decode cL_rename 1 = .ok (.iconst 0, 1) := by decide +kernel
theorem dL_rename_2 : decode cL_rename 2 = .ok (.aload_n 0, 1) := by decide +kernel
theorem dL_rename_3 : decode cL_rename 3 = .ok (.iload_n 1, 1) := by decide +kernel
theorem dL_rename_4 : decode cL_rename 4 = .ok (.iload_n 2, 1) := by decide +kernel
theorem dL_rename_5 : decode cL_rename 5 = .ok (.invokevirtual 24, 3) := by decide +kernel
theorem dL_rename_8 : decode cL_rename 8 = .ok (.i2l, 1) := by decide +kernel
theorem dL_rename_9 : decode cL_rename 9 = .ok (.lastore, 1) := by decide +kernel
theorem dL_rename_10 : decode cL_rename 10 = .ok (.goto 11, 3) := by decide +kernel
theorem dL_rename_13 : decode cL_rename 13 = .ok (.astore 4, 2) := by decide +kernel
theorem dL_rename_15 : decode cL_rename 15 = .ok (.iconst 1, 1) := by decide +kernel
theorem dL_rename_16 : decode cL_rename 16 = .ok (.ireturn, 1) := by decide +kernel
theorem dL_rename_17 : decode cL_rename 17 = .ok (.astore 4, 2) := by decide +kernel
theorem dL_rename_19 : decode cL_rename 19 = .ok (.iconst 2, 1) := by decide +kernel
theorem dL_rename_20 : decode cL_rename 20 = .ok (.ireturn, 1) := by decide +kernel
theorem dL_rename_21 : decode cL_rename 21 = .ok (.iconst 0, 1) := by decide +kernel
theorem dL_rename_22 : decode cL_rename 22 = .ok (.ireturn, 1) := by decide +kernel
theorem dL_insert_0 : decode cL_insert 0 = .ok (.aload_n 1, 1) := by decide +kernel
theorem dL_insert_1 : decode cL_insert 1 = .ok (.iconst 0, 1) := by decide +kernel
theorem dL_insert_2 : decode cL_insert 2 = .ok (.aload_n 0, 1) := by decide +kernel
theorem dL_insert_3 : decode cL_insert 3 = .ok (.invokevirtual 27, 3) := by decide +kernel
theorem dL_insert_6 : decode cL_insert 6 = .ok (.i2l, 1) := by decide +kernel
theorem dL_insert_7 : decode cL_insert 7 = .ok (.lastore, 1) := by decide +kernel
theorem dL_insert_8 : decode cL_insert 8 = .ok (.goto 6, 3) := by decide +kernel
theorem dL_insert_11 : decode cL_insert 11 = .ok (.astore_n 2, 1) := by decide +kernel
theorem dL_insert_12 : decode cL_insert 12 = .ok (.iconst 1, 1) := by decide +kernel
theorem dL_insert_13 : decode cL_insert 13 = .ok (.ireturn, 1) := by decide +kernel
theorem dL_insert_14 : decode cL_insert 14 = .ok (.iconst 0, 1) := by decide +kernel
theorem dL_insert_15 : decode cL_insert 15 = .ok (.ireturn, 1) := by decide +kernel
theorem dL_insertBy_0 : decode cL_insertBy 0 = .ok (.aload_n 2, 1) := by decide +kernel
theorem dL_insertBy_1 : decode cL_insertBy 1 = .ok (.iconst 0, 1) := by decide +kernel
theorem dL_insertBy_2 : decode cL_insertBy 2 = .ok (.aload_n 0, 1) := by decide +kernel
theorem dL_insertBy_3 : decode cL_insertBy 3 = .ok (.iload_n 1, 1) := by decide +kernel
theorem dL_insertBy_4 : decode cL_insertBy 4 = .ok (.invokevirtual 31, 3) := by decide +kernel
theorem dL_insertBy_7 : decode cL_insertBy 7 = .ok (.i2l, 1) := by decide +kernel
theorem dL_insertBy_8 : decode cL_insertBy 8 = .ok (.lastore, 1) := by decide +kernel
theorem dL_insertBy_9 : decode cL_insertBy 9 = .ok (.goto 9, 3) := by decide +kernel
theorem dL_insertBy_12 : decode cL_insertBy 12 = .ok (.astore_n 3, 1) := by decide +kernel
theorem dL_insertBy_13 : decode cL_insertBy 13 = .ok (.iconst 1, 1) := by decide +kernel
theorem dL_insertBy_14 : decode cL_insertBy 14 = .ok (.ireturn, 1) := by decide +kernel
theorem dL_insertBy_15 : decode cL_insertBy 15 = .ok (.astore_n 3, 1) := by decide +kernel
theorem dL_insertBy_16 : decode cL_insertBy 16 = .ok (.iconst 2, 1) := by decide +kernel
theorem dL_insertBy_17 : decode cL_insertBy 17 = .ok (.ireturn, 1) := by decide +kernel
theorem dL_insertBy_18 : decode cL_insertBy 18 = .ok (.iconst 0, 1) := by decide +kernel
theorem dL_insertBy_19 : decode cL_insertBy 19 = .ok (.ireturn, 1) := by decide +kernel
theorem dL_write_0 : decode cL_write 0 = .ok (.aload 5, 2) := by decide +kernel
theorem dL_write_2 : decode cL_write 2 = .ok (.iconst 0, 1) := by decide +kernel
theorem dL_write_3 : decode cL_write 3 = .ok (.aload_n 0, 1) := by decide +kernel
theorem dL_write_4 : decode cL_write 4 = .ok (.iload_n 1, 1) := by decide +kernel
theorem dL_write_5 : decode cL_write 5 = .ok (.iload_n 2, 1) := by decide +kernel
theorem dL_write_6 : decode cL_write 6 = .ok (.iload_n 3, 1) := by decide +kernel
theorem dL_write_7 : decode cL_write 7 = .ok (.iload 4, 2) := by decide +kernel
theorem dL_write_9 : decode cL_write 9 = .ok (.invokevirtual 37, 3) := by decide +kernel
theorem dL_write_12 : decode cL_write 12 = .ok (.i2l, 1) := by decide +kernel
theorem dL_write_13 : decode cL_write 13 = .ok (.lastore, 1) := by decide +kernel
theorem dL_write_14 : decode cL_write 14 = .ok (.goto 15, 3) := by decide +kernel
theorem dL_write_17 : decode cL_write 17 = .ok (.astore 6, 2) := by decide +kernel
theorem dL_write_19 : decode cL_write 19 = .ok (.iconst 1, 1) := by decide +kernel
theorem dL_write_20 : decode cL_write 20 = .ok (.ireturn, 1) := by decide +kernel
theorem dL_write_21 : decode cL_write 21 = .ok (.astore 6, 2) := by decide +kernel
theorem dL_write_23 : decode cL_write 23 = .ok (.iconst 2, 1) := by decide +kernel
theorem dL_write_24 : decode cL_write 24 = .ok (.ireturn, 1) := by decide +kernel
theorem dL_write_25 : decode cL_write 25 = .ok (.astore 6, 2) := by decide +kernel
theorem dL_write_27 : decode cL_write 27 = .ok (.iconst 3, 1) := by decide +kernel
theorem dL_write_28 : decode cL_write 28 = .ok (.ireturn, 1) := by decide +kernel
theorem dL_write_29 : decode cL_write 29 = .ok (.iconst 0, 1) := by decide +kernel
theorem dL_write_30 : decode cL_write 30 = .ok (.ireturn, 1) := by decide +kernel
theorem dL_remove_0 : decode cL_remove 0 = .ok (.aload_n 2, 1) := by decide +kernel
theorem dL_remove_1 : decode cL_remove 1 = .ok (.iconst 0, 1) := by decide +kernel
theorem dL_remove_2 : decode cL_remove 2 = .ok (.aload_n 0, 1) := by decide +kernel
theorem dL_remove_3 : decode cL_remove 3 = .ok (.iload_n 1, 1) := by decide +kernel
theorem dL_remove_4 : decode cL_remove 4 = .ok (.invokevirtual 41, 3) := by decide +kernel
theorem dL_remove_7 : decode cL_remove 7 = .ok (.i2l, 1) := by decide +kernel
theorem dL_remove_8 : decode cL_remove 8 = .ok (.lastore, 1) := by decide +kernel
theorem dL_remove_9 : decode cL_remove 9 = .ok (.goto 6, 3) := by decide +kernel
theorem dL_remove_12 : decode cL_remove 12 = .ok (.astore_n 3, 1) := by decide +kernel
theorem dL_remove_13 : decode cL_remove 13 = .ok (.iconst 1, 1) := by decide +kernel
theorem dL_remove_14 : decode cL_remove 14 = .ok (.ireturn, 1) := by decide +kernel
theorem dL_remove_15 : decode cL_remove 15 = .ok (.iconst 0, 1) := by decide +kernel
theorem dL_remove_16 : decode cL_remove 16 = .ok (.ireturn, 1) := by decide +kernel
theorem dL_goOn_0 : decode cL_goOn 0 = .ok (.aload_n 2, 1) := by decide +kernel
theorem dL_goOn_1 : decode cL_goOn 1 = .ok (.iconst 0, 1) := by decide +kernel
theorem dL_goOn_2 : decode cL_goOn 2 = .ok (.aload_n 0, 1) := by decide +kernel
theorem dL_goOn_3 : decode cL_goOn 3 = .ok (.iload_n 1, 1) := by decide +kernel
theorem dL_goOn_4 : decode cL_goOn 4 = .ok (.invokevirtual 44, 3) := by decide +kernel
theorem dL_goOn_7 : decode cL_goOn 7 = .ok (.i2l, 1) := by decide +kernel
theorem dL_goOn_8 : decode cL_goOn 8 = .ok (.lastore, 1) := by decide +kernel
theorem dL_goOn_9 : decode cL_goOn 9 = .ok (.goto 6, 3) := by decide +kernel
theorem dL_goOn_12 : decode cL_goOn 12 = .ok (.astore_n 3, 1) := by decide +kernel
theorem dL_goOn_13 : decode cL_goOn 13 = .ok (.iconst 1, 1) := by decide +kernel
theorem dL_goOn_14 : decode cL_goOn 14 = .ok (.ireturn, 1) := by decide +kernel
theorem dL_goOn_15 : decode cL_goOn 15 = .ok (.iconst 0, 1) := by decide +kernel
theorem dL_goOn_16 : decode cL_goOn 16 = .ok (.ireturn, 1) := by decide +kernel
theorem dL_hold_0 : decode cL_hold 0 = .ok (.aload_n 3, 1) := by decide +kernel
theorem dL_hold_1 : decode cL_hold 1 = .ok (.iconst 0, 1) := by decide +kernel
theorem dL_hold_2 : decode cL_hold 2 = .ok (.aload_n 0, 1) := by decide +kernel
theorem dL_hold_3 : decode cL_hold 3 = .ok (.iload_n 1, 1) := by decide +kernel
theorem dL_hold_4 : decode cL_hold 4 = .ok (.iload_n 2, 1) := by decide +kernel
theorem dL_hold_5 : decode cL_hold 5 = .ok (.invokevirtual 47, 3) := by decide +kernel
theorem dL_hold_8 : decode cL_hold 8 = .ok (.i2l, 1) := by decide +kernel
theorem dL_hold_9 : decode cL_hold 9 = .ok (.lastore, 1) := by decide +kernel
theorem dL_hold_10 : decode cL_hold 10 = .ok (.goto 7, 3) := by decide +kernel
theorem dL_hold_13 : decode cL_hold 13 = .ok (.astore 4, 2) := by decide +kernel
theorem dL_hold_15 : decode cL_hold 15 = .ok (.iconst 1, 1) := by decide +kernel
theorem dL_hold_16 : decode cL_hold 16 = .ok (.ireturn, 1) := by decide +kernel
theorem dL_hold_17 : decode cL_hold 17 = .ok (.iconst 0, 1) := by decide +kernel
theorem dL_hold_18 : decode cL_hold 18 = .ok (.ireturn, 1) := by decide +kernel
theorem dL_retire_0 : decode cL_retire 0 = .ok (.aload_n 2, 1) := by decide +kernel
theorem dL_retire_1 : decode cL_retire 1 = .ok (.iconst 0, 1) := by decide +kernel
theorem dL_retire_2 : decode cL_retire 2 = .ok (.aload_n 0, 1) := by decide +kernel
theorem dL_retire_3 : decode cL_retire 3 = .ok (.iload_n 1, 1) := by decide +kernel
theorem dL_retire_4 : decode cL_retire 4 = .ok (.invokevirtual 50, 3) := by decide +kernel
theorem dL_retire_7 : decode cL_retire 7 = .ok (.i2l, 1) := by decide +kernel
theorem dL_retire_8 : decode cL_retire 8 = .ok (.lastore, 1) := by decide +kernel
theorem dL_retire_9 : decode cL_retire 9 = .ok (.goto 9, 3) := by decide +kernel
theorem dL_retire_12 : decode cL_retire 12 = .ok (.astore_n 3, 1) := by decide +kernel
theorem dL_retire_13 : decode cL_retire 13 = .ok (.iconst 1, 1) := by decide +kernel
theorem dL_retire_14 : decode cL_retire 14 = .ok (.ireturn, 1) := by decide +kernel
theorem dL_retire_15 : decode cL_retire 15 = .ok (.astore_n 3, 1) := by decide +kernel
theorem dL_retire_16 : decode cL_retire 16 = .ok (.iconst 2, 1) := by decide +kernel
theorem dL_retire_17 : decode cL_retire 17 = .ok (.ireturn, 1) := by decide +kernel
theorem dL_retire_18 : decode cL_retire 18 = .ok (.iconst 0, 1) := by decide +kernel
theorem dL_retire_19 : decode cL_retire 19 = .ok (.ireturn, 1) := by decide +kernel
theorem dL_append_0 : decode cL_append 0 = .ok (.aload_n 2, 1) := by decide +kernel
theorem dL_append_1 : decode cL_append 1 = .ok (.iconst 0, 1) := by decide +kernel
theorem dL_append_2 : decode cL_append 2 = .ok (.aload_n 0, 1) := by decide +kernel
theorem dL_append_3 : decode cL_append 3 = .ok (.iload_n 1, 1) := by decide +kernel
theorem dL_append_4 : decode cL_append 4 = .ok (.invokevirtual 53, 3) := by decide +kernel
theorem dL_append_7 : decode cL_append 7 = .ok (.i2l, 1) := by decide +kernel
theorem dL_append_8 : decode cL_append 8 = .ok (.lastore, 1) := by decide +kernel
theorem dL_append_9 : decode cL_append 9 = .ok (.goto 9, 3) := by decide +kernel
theorem dL_append_12 : decode cL_append 12 = .ok (.astore_n 3, 1) := by decide +kernel
theorem dL_append_13 : decode cL_append 13 = .ok (.iconst 1, 1) := by decide +kernel
theorem dL_append_14 : decode cL_append 14 = .ok (.ireturn, 1) := by decide +kernel
theorem dL_append_15 : decode cL_append 15 = .ok (.astore_n 3, 1) := by decide +kernel
theorem dL_append_16 : decode cL_append 16 = .ok (.iconst 2, 1) := by decide +kernel
theorem dL_append_17 : decode cL_append 17 = .ok (.ireturn, 1) := by decide +kernel
theorem dL_append_18 : decode cL_append 18 = .ok (.iconst 0, 1) := by decide +kernel
theorem dL_append_19 : decode cL_append 19 = .ok (.ireturn, 1) := by decide +kernel
theorem dL_run_0 : decode cL_run 0 = .ok (.aload_n 1, 1) := by decide +kernel
theorem dL_run_1 : decode cL_run 1 = .ok (.iconst 0, 1) := by decide +kernel
theorem dL_run_2 : decode cL_run 2 = .ok (.aload_n 0, 1) := by decide +kernel
theorem dL_run_3 : decode cL_run 3 = .ok (.invokevirtual 56, 3) := by decide +kernel
theorem dL_run_6 : decode cL_run 6 = .ok (.i2l, 1) := by decide +kernel
theorem dL_run_7 : decode cL_run 7 = .ok (.lastore, 1) := by decide +kernel
theorem dL_run_8 : decode cL_run 8 = .ok (.goto 6, 3) := by decide +kernel
theorem dL_run_11 : decode cL_run 11 = .ok (.astore_n 2, 1) := by decide +kernel
theorem dL_run_12 : decode cL_run 12 = .ok (.iconst 1, 1) := by decide +kernel
theorem dL_run_13 : decode cL_run 13 = .ok (.ireturn, 1) := by decide +kernel
theorem dL_run_14 : decode cL_run 14 = .ok (.iconst 0, 1) := by decide +kernel
theorem dL_run_15 : decode cL_run 15 = .ok (.ireturn, 1) := by decide +kernel
theorem dL_undo_0 : decode cL_undo 0 = .ok (.aload_n 1, 1) := by decide +kernel
theorem dL_undo_1 : decode cL_undo 1 = .ok (.iconst 0, 1) := by decide +kernel
theorem dL_undo_2 : decode cL_undo 2 = .ok (.aload_n 0, 1) := by decide +kernel
theorem dL_undo_3 : decode cL_undo 3 = .ok (.invokevirtual 59, 3) := by decide +kernel
theorem dL_undo_6 : decode cL_undo 6 = .ok (.i2l, 1) := by decide +kernel
theorem dL_undo_7 : decode cL_undo 7 = .ok (.lastore, 1) := by decide +kernel
theorem dL_undo_8 : decode cL_undo 8 = .ok (.goto 6, 3) := by decide +kernel
theorem dL_undo_11 : decode cL_undo 11 = .ok (.astore_n 2, 1) := by decide +kernel
theorem dL_undo_12 : decode cL_undo 12 = .ok (.iconst 1, 1) := by decide +kernel
theorem dL_undo_13 : decode cL_undo 13 = .ok (.ireturn, 1) := by decide +kernel
theorem dL_undo_14 : decode cL_undo 14 = .ok (.iconst 0, 1) := by decide +kernel
theorem dL_undo_15 : decode cL_undo 15 = .ok (.ireturn, 1) := by decide +kernel
theorem dL_read_0 : decode cL_read 0 = .ok (.aload 4, 2) := by decide +kernel
theorem dL_read_2 : decode cL_read 2 = .ok (.iconst 0, 1) := by decide +kernel
theorem dL_read_3 : decode cL_read 3 = .ok (.aload_n 0, 1) := by decide +kernel
theorem dL_read_4 : decode cL_read 4 = .ok (.iload_n 1, 1) := by decide +kernel
theorem dL_read_5 : decode cL_read 5 = .ok (.iload_n 2, 1) := by decide +kernel
theorem dL_read_6 : decode cL_read 6 = .ok (.iload_n 3, 1) := by decide +kernel
theorem dL_read_7 : decode cL_read 7 = .ok (.invokevirtual 62, 3) := by decide +kernel
theorem dL_read_10 : decode cL_read 10 = .ok (.i2l, 1) := by decide +kernel
theorem dL_read_11 : decode cL_read 11 = .ok (.lastore, 1) := by decide +kernel
theorem dL_read_12 : decode cL_read 12 = .ok (.goto 11, 3) := by decide +kernel
theorem dL_read_15 : decode cL_read 15 = .ok (.astore 5, 2) := by decide +kernel
theorem dL_read_17 : decode cL_read 17 = .ok (.iconst 1, 1) := by decide +kernel
theorem dL_read_18 : decode cL_read 18 = .ok (.ireturn, 1) := by decide +kernel
theorem dL_read_19 : decode cL_read 19 = .ok (.astore 5, 2) := by decide +kernel
theorem dL_read_21 : decode cL_read 21 = .ok (.iconst 2, 1) := by decide +kernel
theorem dL_read_22 : decode cL_read 22 = .ok (.ireturn, 1) := by decide +kernel
theorem dL_read_23 : decode cL_read 23 = .ok (.iconst 0, 1) := by decide +kernel
theorem dL_read_24 : decode cL_read 24 = .ok (.ireturn, 1) := by decide +kernel
theorem dL_readAs_0 : decode cL_readAs 0 = .ok (.aload 4, 2) := by decide +kernel
theorem dL_readAs_2 : decode cL_readAs 2 = .ok (.iconst 0, 1) := by decide +kernel
theorem dL_readAs_3 : decode cL_readAs 3 = .ok (.aload_n 0, 1) := by decide +kernel
theorem dL_readAs_4 : decode cL_readAs 4 = .ok (.iload_n 1, 1) := by decide +kernel
theorem dL_readAs_5 : decode cL_readAs 5 = .ok (.iload_n 2, 1) := by decide +kernel
theorem dL_readAs_6 : decode cL_readAs 6 = .ok (.iload_n 3, 1) := by decide +kernel
theorem dL_readAs_7 : decode cL_readAs 7 = .ok (.invokevirtual 65, 3) := by decide +kernel
theorem dL_readAs_10 : decode cL_readAs 10 = .ok (.i2l, 1) := by decide +kernel
theorem dL_readAs_11 : decode cL_readAs 11 = .ok (.lastore, 1) := by decide +kernel
theorem dL_readAs_12 : decode cL_readAs 12 = .ok (.goto 11, 3) := by decide +kernel
theorem dL_readAs_15 : decode cL_readAs 15 = .ok (.astore 5, 2) := by decide +kernel
theorem dL_readAs_17 : decode cL_readAs 17 = .ok (.iconst 1, 1) := by decide +kernel
theorem dL_readAs_18 : decode cL_readAs 18 = .ok (.ireturn, 1) := by decide +kernel
theorem dL_readAs_19 : decode cL_readAs 19 = .ok (.astore 5, 2) := by decide +kernel
theorem dL_readAs_21 : decode cL_readAs 21 = .ok (.iconst 2, 1) := by decide +kernel
theorem dL_readAs_22 : decode cL_readAs 22 = .ok (.ireturn, 1) := by decide +kernel
theorem dL_readAs_23 : decode cL_readAs 23 = .ok (.iconst 0, 1) := by decide +kernel
theorem dL_readAs_24 : decode cL_readAs 24 = .ok (.ireturn, 1) := by decide +kernel
theorem dL_column_0 : decode cL_column 0 = .ok (.aload 4, 2) := by decide +kernel
theorem dL_column_2 : decode cL_column 2 = .ok (.iconst 0, 1) := by decide +kernel
theorem dL_column_3 : decode cL_column 3 = .ok (.aload_n 0, 1) := by decide +kernel
theorem dL_column_4 : decode cL_column 4 = .ok (.iload_n 1, 1) := by decide +kernel
theorem dL_column_5 : decode cL_column 5 = .ok (.iload_n 2, 1) := by decide +kernel
theorem dL_column_6 : decode cL_column 6 = .ok (.iload_n 3, 1) := by decide +kernel
theorem dL_column_7 : decode cL_column 7 = .ok (.invokevirtual 68, 3) := by decide +kernel
theorem dL_column_10 : decode cL_column 10 = .ok (.i2l, 1) := by decide +kernel
theorem dL_column_11 : decode cL_column 11 = .ok (.lastore, 1) := by decide +kernel
theorem dL_column_12 : decode cL_column 12 = .ok (.goto 11, 3) := by decide +kernel
theorem dL_column_15 : decode cL_column 15 = .ok (.astore 5, 2) := by decide +kernel
theorem dL_column_17 : decode cL_column 17 = .ok (.iconst 1, 1) := by decide +kernel
theorem dL_column_18 : decode cL_column 18 = .ok (.ireturn, 1) := by decide +kernel
theorem dL_column_19 : decode cL_column 19 = .ok (.astore 5, 2) := by decide +kernel
theorem dL_column_21 : decode cL_column 21 = .ok (.iconst 2, 1) := by decide +kernel
theorem dL_column_22 : decode cL_column 22 = .ok (.ireturn, 1) := by decide +kernel
theorem dL_column_23 : decode cL_column 23 = .ok (.iconst 0, 1) := by decide +kernel
theorem dL_column_24 : decode cL_column 24 = .ok (.ireturn, 1) := by decide +kernel
theorem dL_shape_0 : decode cL_shape 0 = .ok (.aload_n 3, 1) := by decide +kernel
theorem dL_shape_1 : decode cL_shape 1 = .ok (.iconst 0, 1) := by decide +kernel
theorem dL_shape_2 : decode cL_shape 2 = .ok (.aload_n 0, 1) := by decide +kernel
theorem dL_shape_3 : decode cL_shape 3 = .ok (.iload_n 1, 1) := by decide +kernel
theorem dL_shape_4 : decode cL_shape 4 = .ok (.iload_n 2, 1) := by decide +kernel
theorem dL_shape_5 : decode cL_shape 5 = .ok (.invokevirtual 71, 3) := by decide +kernel
theorem dL_shape_8 : decode cL_shape 8 = .ok (.i2l, 1) := by decide +kernel
theorem dL_shape_9 : decode cL_shape 9 = .ok (.lastore, 1) := by decide +kernel
theorem dL_shape_10 : decode cL_shape 10 = .ok (.goto 11, 3) := by decide +kernel
theorem dL_shape_13 : decode cL_shape 13 = .ok (.astore 4, 2) := by decide +kernel
theorem dL_shape_15 : decode cL_shape 15 = .ok (.iconst 1, 1) := by decide +kernel
theorem dL_shape_16 : decode cL_shape 16 = .ok (.ireturn, 1) := by decide +kernel
theorem dL_shape_17 : decode cL_shape 17 = .ok (.astore 4, 2) := by decide +kernel
theorem dL_shape_19 : decode cL_shape 19 = .ok (.iconst 2, 1) := by decide +kernel
theorem dL_shape_20 : decode cL_shape 20 = .ok (.ireturn, 1) := by decide +kernel
theorem dL_shape_21 : decode cL_shape 21 = .ok (.iconst 0, 1) := by decide +kernel
theorem dL_shape_22 : decode cL_shape 22 = .ok (.ireturn, 1) := by decide +kernel
theorem dL_row_0 : decode cL_row 0 = .ok (.aload_n 3, 1) := by decide +kernel
theorem dL_row_1 : decode cL_row 1 = .ok (.iconst 0, 1) := by decide +kernel
theorem dL_row_2 : decode cL_row 2 = .ok (.aload_n 0, 1) := by decide +kernel
theorem dL_row_3 : decode cL_row 3 = .ok (.iload_n 1, 1) := by decide +kernel
theorem dL_row_4 : decode cL_row 4 = .ok (.iload_n 2, 1) := by decide +kernel
theorem dL_row_5 : decode cL_row 5 = .ok (.invokevirtual 74, 3) := by decide +kernel
theorem dL_row_8 : decode cL_row 8 = .ok (.i2l, 1) := by decide +kernel
theorem dL_row_9 : decode cL_row 9 = .ok (.lastore, 1) := by decide +kernel
theorem dL_row_10 : decode cL_row 10 = .ok (.goto 11, 3) := by decide +kernel
theorem dL_row_13 : decode cL_row 13 = .ok (.astore 4, 2) := by decide +kernel
theorem dL_row_15 : decode cL_row 15 = .ok (.iconst 1, 1) := by decide +kernel
theorem dL_row_16 : decode cL_row 16 = .ok (.ireturn, 1) := by decide +kernel
theorem dL_row_17 : decode cL_row 17 = .ok (.astore 4, 2) := by decide +kernel
theorem dL_row_19 : decode cL_row 19 = .ok (.iconst 2, 1) := by decide +kernel
theorem dL_row_20 : decode cL_row 20 = .ok (.ireturn, 1) := by decide +kernel
theorem dL_row_21 : decode cL_row 21 = .ok (.iconst 0, 1) := by decide +kernel
theorem dL_row_22 : decode cL_row 22 = .ok (.ireturn, 1) := by decide +kernel
theorem dL_count_0 : decode cL_count 0 = .ok (.aload_n 2, 1) := by decide +kernel
theorem dL_count_1 : decode cL_count 1 = .ok (.iconst 0, 1) := by decide +kernel
theorem dL_count_2 : decode cL_count 2 = .ok (.aload_n 0, 1) := by decide +kernel
theorem dL_count_3 : decode cL_count 3 = .ok (.iload_n 1, 1) := by decide +kernel
theorem dL_count_4 : decode cL_count 4 = .ok (.invokevirtual 77, 3) := by decide +kernel
theorem dL_count_7 : decode cL_count 7 = .ok (.i2l, 1) := by decide +kernel
theorem dL_count_8 : decode cL_count 8 = .ok (.lastore, 1) := by decide +kernel
theorem dL_count_9 : decode cL_count 9 = .ok (.goto 6, 3) := by decide +kernel
theorem dL_count_12 : decode cL_count 12 = .ok (.astore_n 3, 1) := by decide +kernel
theorem dL_count_13 : decode cL_count 13 = .ok (.iconst 1, 1) := by decide +kernel
theorem dL_count_14 : decode cL_count 14 = .ok (.ireturn, 1) := by decide +kernel
theorem dL_count_15 : decode cL_count 15 = .ok (.iconst 0, 1) := by decide +kernel
theorem dL_count_16 : decode cL_count 16 = .ok (.ireturn, 1) := by decide +kernel
theorem dL_lost_0 : decode cL_lost 0 = .ok (.aload_n 3, 1) := by decide +kernel
theorem dL_lost_1 : decode cL_lost 1 = .ok (.iconst 0, 1) := by decide +kernel
theorem dL_lost_2 : decode cL_lost 2 = .ok (.aload_n 0, 1) := by decide +kernel
theorem dL_lost_3 : decode cL_lost 3 = .ok (.iload_n 1, 1) := by decide +kernel
theorem dL_lost_4 : decode cL_lost 4 = .ok (.iload_n 2, 1) := by decide +kernel
theorem dL_lost_5 : decode cL_lost 5 = .ok (.invokevirtual 80, 3) := by decide +kernel
theorem dL_lost_8 : decode cL_lost 8 = .ok (.i2l, 1) := by decide +kernel
theorem dL_lost_9 : decode cL_lost 9 = .ok (.lastore, 1) := by decide +kernel
theorem dL_lost_10 : decode cL_lost 10 = .ok (.goto 7, 3) := by decide +kernel
theorem dL_lost_13 : decode cL_lost 13 = .ok (.astore 4, 2) := by decide +kernel
theorem dL_lost_15 : decode cL_lost 15 = .ok (.iconst 1, 1) := by decide +kernel
theorem dL_lost_16 : decode cL_lost 16 = .ok (.ireturn, 1) := by decide +kernel
theorem dL_lost_17 : decode cL_lost 17 = .ok (.iconst 0, 1) := by decide +kernel
theorem dL_lost_18 : decode cL_lost 18 = .ok (.ireturn, 1) := by decide +kernel
theorem dL_against_0 : decode cL_against 0 = .ok (.aload 4, 2) := by decide +kernel
theorem dL_against_2 : decode cL_against 2 = .ok (.iconst 0, 1) := by decide +kernel
theorem dL_against_3 : decode cL_against 3 = .ok (.aload_n 0, 1) := by decide +kernel
theorem dL_against_4 : decode cL_against 4 = .ok (.iload_n 1, 1) := by decide +kernel
theorem dL_against_5 : decode cL_against 5 = .ok (.iload_n 2, 1) := by decide +kernel
theorem dL_against_6 : decode cL_against 6 = .ok (.iload_n 3, 1) := by decide +kernel
theorem dL_against_7 : decode cL_against 7 = .ok (.invokevirtual 83, 3) := by decide +kernel
theorem dL_against_10 : decode cL_against 10 = .ok (.i2l, 1) := by decide +kernel
theorem dL_against_11 : decode cL_against 11 = .ok (.lastore, 1) := by decide +kernel
theorem dL_against_12 : decode cL_against 12 = .ok (.goto 11, 3) := by decide +kernel
theorem dL_against_15 : decode cL_against 15 = .ok (.astore 5, 2) := by decide +kernel
theorem dL_against_17 : decode cL_against 17 = .ok (.iconst 1, 1) := by decide +kernel
theorem dL_against_18 : decode cL_against 18 = .ok (.ireturn, 1) := by decide +kernel
theorem dL_against_19 : decode cL_against 19 = .ok (.astore 5, 2) := by decide +kernel
theorem dL_against_21 : decode cL_against 21 = .ok (.iconst 2, 1) := by decide +kernel
theorem dL_against_22 : decode cL_against 22 = .ok (.ireturn, 1) := by decide +kernel
theorem dL_against_23 : decode cL_against 23 = .ok (.iconst 0, 1) := by decide +kernel
theorem dL_against_24 : decode cL_against 24 = .ok (.ireturn, 1) := by decide +kernel
theorem dL_find_0 : decode cL_find 0 = .ok (.aload 4, 2) := by decide +kernel
theorem dL_find_2 : decode cL_find 2 = .ok (.iconst 0, 1) := by decide +kernel
theorem dL_find_3 : decode cL_find 3 = .ok (.aload_n 0, 1) := by decide +kernel
theorem dL_find_4 : decode cL_find 4 = .ok (.iload_n 1, 1) := by decide +kernel
theorem dL_find_5 : decode cL_find 5 = .ok (.iload_n 2, 1) := by decide +kernel
theorem dL_find_6 : decode cL_find 6 = .ok (.iload_n 3, 1) := by decide +kernel
theorem dL_find_7 : decode cL_find 7 = .ok (.invokevirtual 86, 3) := by decide +kernel
theorem dL_find_10 : decode cL_find 10 = .ok (.i2l, 1) := by decide +kernel
theorem dL_find_11 : decode cL_find 11 = .ok (.lastore, 1) := by decide +kernel
theorem dL_find_12 : decode cL_find 12 = .ok (.goto 11, 3) := by decide +kernel
theorem dL_find_15 : decode cL_find 15 = .ok (.astore 5, 2) := by decide +kernel
theorem dL_find_17 : decode cL_find 17 = .ok (.iconst 1, 1) := by decide +kernel
theorem dL_find_18 : decode cL_find 18 = .ok (.ireturn, 1) := by decide +kernel
theorem dL_find_19 : decode cL_find 19 = .ok (.astore 5, 2) := by decide +kernel
theorem dL_find_21 : decode cL_find 21 = .ok (.iconst 2, 1) := by decide +kernel
theorem dL_find_22 : decode cL_find 22 = .ok (.ireturn, 1) := by decide +kernel
theorem dL_find_23 : decode cL_find 23 = .ok (.iconst 0, 1) := by decide +kernel
theorem dL_find_24 : decode cL_find 24 = .ok (.ireturn, 1) := by decide +kernel
theorem dL_law_0 : decode cL_law 0 = .ok (.new 8, 3) := by decide +kernel
theorem dL_law_3 : decode cL_law 3 = .ok (.dup, 1) := by decide +kernel
theorem dL_law_4 : decode cL_law 4 = .ok (.invokespecial 89, 3) := by decide +kernel
theorem dL_law_7 : decode cL_law 7 = .ok (.astore_n 1, 1) := by decide +kernel
theorem dL_law_8 : decode cL_law 8 = .ok (.new 90, 3) := by decide +kernel
theorem dL_law_11 : decode cL_law 11 = .ok (.dup, 1) := by decide +kernel
theorem dL_law_12 : decode cL_law 12 = .ok (.invokespecial 92, 3) := by decide +kernel
theorem dL_law_15 : decode cL_law 15 = .ok (.astore_n 2, 1) := by decide +kernel
theorem dL_law_16 : decode cL_law 16 = .ok (.iconst 1, 1) := by decide +kernel
theorem dL_law_17 : decode cL_law 17 = .ok (.newarray .long, 2) := by decide +kernel
theorem dL_law_19 : decode cL_law 19 = .ok (.astore_n 3, 1) := by decide +kernel
theorem dL_law_20 : decode cL_law 20 = .ok (.iconst 0, 1) := by decide +kernel
theorem dL_law_21 : decode cL_law 21 = .ok (.istore 4, 2) := by decide +kernel
theorem dL_law_23 : decode cL_law 23 = .ok (.iload 4, 2) := by decide +kernel
theorem dL_law_25 : decode cL_law 25 = .ok (.aload_n 0, 1) := by decide +kernel
theorem dL_law_26 : decode cL_law 26 = .ok (.arraylength, 1) := by decide +kernel
theorem dL_law_27 : decode cL_law 27 = .ok (.iconst 5, 1) := by decide +kernel
theorem dL_law_28 : decode cL_law 28 = .ok (.isub, 1) := by decide +kernel
theorem dL_law_29 : decode cL_law 29 = .ok (.if_icmp .gt 1751, 3) := by decide +kernel
theorem dL_law_32 : decode cL_law 32 = .ok (.aload_n 0, 1) := by decide +kernel
theorem dL_law_33 : decode cL_law 33 = .ok (.iload 4, 2) := by decide +kernel
theorem dL_law_35 : decode cL_law 35 = .ok (.iaload, 1) := by decide +kernel
theorem dL_law_36 : decode cL_law 36 = .ok (.bipush 31, 2) := by decide +kernel
theorem dL_law_38 : decode cL_law 38 = .ok (.iand, 1) := by decide +kernel
theorem dL_law_39 : decode cL_law 39 = .ok (.tableswitch 1735 0 27 #[125, 193, 273, 341, 409, 453, 509, 601, 657, 713, 781, 837, 893, 906, 919, 963, 1007, 1087, 1167, 1247, 1315, 1383, 1439, 1507, 1587, 1600, 1680, 1721], 125) := by decide +kernel
theorem dL_law_164 : decode cL_law 164 = .ok (.aload_n 1, 1) := by decide +kernel
theorem dL_law_165 : decode cL_law 165 = .ok (.aload_n 0, 1) := by decide +kernel
theorem dL_law_166 : decode cL_law 166 = .ok (.iload 4, 2) := by decide +kernel
theorem dL_law_168 : decode cL_law 168 = .ok (.iconst 1, 1) := by decide +kernel
theorem dL_law_169 : decode cL_law 169 = .ok (.iadd, 1) := by decide +kernel
theorem dL_law_170 : decode cL_law 170 = .ok (.iaload, 1) := by decide +kernel
theorem dL_law_171 : decode cL_law 171 = .ok (.aload_n 0, 1) := by decide +kernel
theorem dL_law_172 : decode cL_law 172 = .ok (.iload 4, 2) := by decide +kernel
theorem dL_law_174 : decode cL_law 174 = .ok (.iconst 2, 1) := by decide +kernel
theorem dL_law_175 : decode cL_law 175 = .ok (.iadd, 1) := by decide +kernel
theorem dL_law_176 : decode cL_law 176 = .ok (.iaload, 1) := by decide +kernel
theorem dL_law_177 : decode cL_law 177 = .ok (.aload_n 3, 1) := by decide +kernel
theorem dL_law_178 : decode cL_law 178 = .ok (.invokestatic 93, 3) := by decide +kernel
theorem dL_law_181 : decode cL_law 181 = .ok (.istore 5, 2) := by decide +kernel
theorem dL_law_183 : decode cL_law 183 = .ok (.aload_n 2, 1) := by decide +kernel
theorem dL_law_184 : decode cL_law 184 = .ok (.aload_n 0, 1) := by decide +kernel
theorem dL_law_185 : decode cL_law 185 = .ok (.iload 4, 2) := by decide +kernel
theorem dL_law_187 : decode cL_law 187 = .ok (.iconst 1, 1) := by decide +kernel
theorem dL_law_188 : decode cL_law 188 = .ok (.iadd, 1) := by decide +kernel
theorem dL_law_189 : decode cL_law 189 = .ok (.iaload, 1) := by decide +kernel
theorem dL_law_190 : decode cL_law 190 = .ok (.aload_n 0, 1) := by decide +kernel
theorem dL_law_191 : decode cL_law 191 = .ok (.iload 4, 2) := by decide +kernel
theorem dL_law_193 : decode cL_law 193 = .ok (.iconst 2, 1) := by decide +kernel
theorem dL_law_194 : decode cL_law 194 = .ok (.iadd, 1) := by decide +kernel
theorem dL_law_195 : decode cL_law 195 = .ok (.iaload, 1) := by decide +kernel
theorem dL_law_196 : decode cL_law 196 = .ok (.invokevirtual 98, 3) := by decide +kernel
theorem dL_law_199 : decode cL_law 199 = .ok (.istore 6, 2) := by decide +kernel
theorem dL_law_201 : decode cL_law 201 = .ok (.aload_n 2, 1) := by decide +kernel
theorem dL_law_202 : decode cL_law 202 = .ok (.invokevirtual 99, 3) := by decide +kernel
theorem dL_law_205 : decode cL_law 205 = .ok (.iload 5, 2) := by decide +kernel
theorem dL_law_207 : decode cL_law 207 = .ok (.if_icmp .eq 5, 3) := by decide +kernel
theorem dL_law_210 : decode cL_law 210 = .ok (.iconst 0, 1) := by decide +kernel
theorem dL_law_211 : decode cL_law 211 = .ok (.ireturn, 1) := by decide +kernel
theorem dL_law_212 : decode cL_law 212 = .ok (.iload 5, 2) := by decide +kernel
theorem dL_law_214 : decode cL_law 214 = .ok (.ifCond .ne 15, 3) := by decide +kernel
theorem dL_law_217 : decode cL_law 217 = .ok (.aload_n 3, 1) := by decide +kernel
theorem dL_law_218 : decode cL_law 218 = .ok (.iconst 0, 1) := by decide +kernel
theorem dL_law_219 : decode cL_law 219 = .ok (.laload, 1) := by decide +kernel
theorem dL_law_220 : decode cL_law 220 = .ok (.iload 6, 2) := by decide +kernel
theorem dL_law_222 : decode cL_law 222 = .ok (.i2l, 1) := by decide +kernel
theorem dL_law_223 : decode cL_law 223 = .ok (.lcmp, 1) := by decide +kernel
theorem dL_law_224 : decode cL_law 224 = .ok (.ifCond .eq 5, 3) := by decide +kernel
theorem dL_law_227 : decode cL_law 227 = .ok (.iconst 0, 1) := by decide +kernel
theorem dL_law_228 : decode cL_law 228 = .ok (.ireturn, 1) := by decide +kernel
theorem dL_law_229 : decode cL_law 229 = .ok (.goto 1545, 3) := by decide +kernel
theorem dL_law_232 : decode cL_law 232 = .ok (.aload_n 1, 1) := by decide +kernel
theorem dL_law_233 : decode cL_law 233 = .ok (.aload_n 0, 1) := by decide +kernel
theorem dL_law_234 : decode cL_law 234 = .ok (.iload 4, 2) := by decide +kernel
theorem dL_law_236 : decode cL_law 236 = .ok (.iconst 1, 1) := by decide +kernel
theorem dL_law_237 : decode cL_law 237 = .ok (.iadd, 1) := by decide +kernel
theorem dL_law_238 : decode cL_law 238 = .ok (.iaload, 1) := by decide +kernel
theorem dL_law_239 : decode cL_law 239 = .ok (.aload_n 0, 1) := by decide +kernel
theorem dL_law_240 : decode cL_law 240 = .ok (.iload 4, 2) := by decide +kernel
theorem dL_law_242 : decode cL_law 242 = .ok (.iconst 2, 1) := by decide +kernel
theorem dL_law_243 : decode cL_law 243 = .ok (.iadd, 1) := by decide +kernel
theorem dL_law_244 : decode cL_law 244 = .ok (.iaload, 1) := by decide +kernel
theorem dL_law_245 : decode cL_law 245 = .ok (.aload_n 0, 1) := by decide +kernel
theorem dL_law_246 : decode cL_law 246 = .ok (.iload 4, 2) := by decide +kernel
theorem dL_law_248 : decode cL_law 248 = .ok (.iconst 3, 1) := by decide +kernel
theorem dL_law_249 : decode cL_law 249 = .ok (.iadd, 1) := by decide +kernel
theorem dL_law_250 : decode cL_law 250 = .ok (.iaload, 1) := by decide +kernel
theorem dL_law_251 : decode cL_law 251 = .ok (.aload_n 3, 1) := by decide +kernel
theorem dL_law_252 : decode cL_law 252 = .ok (.invokestatic 102, 3) := by decide +kernel
theorem dL_law_255 : decode cL_law 255 = .ok (.istore 5, 2) := by decide +kernel
theorem dL_law_257 : decode cL_law 257 = .ok (.aload_n 2, 1) := by decide +kernel
theorem dL_law_258 : decode cL_law 258 = .ok (.aload_n 0, 1) := by decide +kernel
theorem dL_law_259 : decode cL_law 259 = .ok (.iload 4, 2) := by decide +kernel
theorem dL_law_261 : decode cL_law 261 = .ok (.iconst 1, 1) := by decide +kernel
theorem dL_law_262 : decode cL_law 262 = .ok (.iadd, 1) := by decide +kernel
theorem dL_law_263 : decode cL_law 263 = .ok (.iaload, 1) := by decide +kernel
theorem dL_law_264 : decode cL_law 264 = .ok (.aload_n 0, 1) := by decide +kernel
theorem dL_law_265 : decode cL_law 265 = .ok (.iload 4, 2) := by decide +kernel
theorem dL_law_267 : decode cL_law 267 = .ok (.iconst 2, 1) := by decide +kernel
theorem dL_law_268 : decode cL_law 268 = .ok (.iadd, 1) := by decide +kernel
theorem dL_law_269 : decode cL_law 269 = .ok (.iaload, 1) := by decide +kernel
theorem dL_law_270 : decode cL_law 270 = .ok (.aload_n 0, 1) := by decide +kernel
theorem dL_law_271 : decode cL_law 271 = .ok (.iload 4, 2) := by decide +kernel
theorem dL_law_273 : decode cL_law 273 = .ok (.iconst 3, 1) := by decide +kernel
theorem dL_law_274 : decode cL_law 274 = .ok (.iadd, 1) := by decide +kernel
theorem dL_law_275 : decode cL_law 275 = .ok (.iaload, 1) := by decide +kernel
theorem dL_law_276 : decode cL_law 276 = .ok (.invokevirtual 105, 3) := by decide +kernel
theorem dL_law_279 : decode cL_law 279 = .ok (.istore 6, 2) := by decide +kernel
theorem dL_law_281 : decode cL_law 281 = .ok (.aload_n 2, 1) := by decide +kernel
theorem dL_law_282 : decode cL_law 282 = .ok (.invokevirtual 99, 3) := by decide +kernel
theorem dL_law_285 : decode cL_law 285 = .ok (.iload 5, 2) := by decide +kernel
theorem dL_law_287 : decode cL_law 287 = .ok (.if_icmp .eq 5, 3) := by decide +kernel
theorem dL_law_290 : decode cL_law 290 = .ok (.iconst 0, 1) := by decide +kernel
theorem dL_law_291 : decode cL_law 291 = .ok (.ireturn, 1) := by decide +kernel
theorem dL_law_292 : decode cL_law 292 = .ok (.iload 5, 2) := by decide +kernel
theorem dL_law_294 : decode cL_law 294 = .ok (.ifCond .ne 15, 3) := by decide +kernel
theorem dL_law_297 : decode cL_law 297 = .ok (.aload_n 3, 1) := by decide +kernel
theorem dL_law_298 : decode cL_law 298 = .ok (.iconst 0, 1) := by decide +kernel
theorem dL_law_299 : decode cL_law 299 = .ok (.laload, 1) := by decide +kernel
theorem dL_law_300 : decode cL_law 300 = .ok (.iload 6, 2) := by decide +kernel
theorem dL_law_302 : decode cL_law 302 = .ok (.i2l, 1) := by decide +kernel
theorem dL_law_303 : decode cL_law 303 = .ok (.lcmp, 1) := by decide +kernel
theorem dL_law_304 : decode cL_law 304 = .ok (.ifCond .eq 5, 3) := by decide +kernel
theorem dL_law_307 : decode cL_law 307 = .ok (.iconst 0, 1) := by decide +kernel
theorem dL_law_308 : decode cL_law 308 = .ok (.ireturn, 1) := by decide +kernel
theorem dL_law_309 : decode cL_law 309 = .ok (.goto 1465, 3) := by decide +kernel
theorem dL_law_312 : decode cL_law 312 = .ok (.aload_n 1, 1) := by decide +kernel
theorem dL_law_313 : decode cL_law 313 = .ok (.aload_n 0, 1) := by decide +kernel
theorem dL_law_314 : decode cL_law 314 = .ok (.iload 4, 2) := by decide +kernel
theorem dL_law_316 : decode cL_law 316 = .ok (.iconst 1, 1) := by decide +kernel
theorem dL_law_317 : decode cL_law 317 = .ok (.iadd, 1) := by decide +kernel
theorem dL_law_318 : decode cL_law 318 = .ok (.iaload, 1) := by decide +kernel
theorem dL_law_319 : decode cL_law 319 = .ok (.aload_n 0, 1) := by decide +kernel
theorem dL_law_320 : decode cL_law 320 = .ok (.iload 4, 2) := by decide +kernel
theorem dL_law_322 : decode cL_law 322 = .ok (.iconst 2, 1) := by decide +kernel
theorem dL_law_323 : decode cL_law 323 = .ok (.iadd, 1) := by decide +kernel
theorem dL_law_324 : decode cL_law 324 = .ok (.iaload, 1) := by decide +kernel
theorem dL_law_325 : decode cL_law 325 = .ok (.aload_n 3, 1) := by decide +kernel
theorem dL_law_326 : decode cL_law 326 = .ok (.invokestatic 106, 3) := by decide +kernel
theorem dL_law_329 : decode cL_law 329 = .ok (.istore 5, 2) := by decide +kernel
theorem dL_law_331 : decode cL_law 331 = .ok (.aload_n 2, 1) := by decide +kernel
theorem dL_law_332 : decode cL_law 332 = .ok (.aload_n 0, 1) := by decide +kernel
theorem dL_law_333 : decode cL_law 333 = .ok (.iload 4, 2) := by decide +kernel
theorem dL_law_335 : decode cL_law 335 = .ok (.iconst 1, 1) := by decide +kernel
theorem dL_law_336 : decode cL_law 336 = .ok (.iadd, 1) := by decide +kernel
theorem dL_law_337 : decode cL_law 337 = .ok (.iaload, 1) := by decide +kernel
theorem dL_law_338 : decode cL_law 338 = .ok (.aload_n 0, 1) := by decide +kernel
theorem dL_law_339 : decode cL_law 339 = .ok (.iload 4, 2) := by decide +kernel
theorem dL_law_341 : decode cL_law 341 = .ok (.iconst 2, 1) := by decide +kernel
theorem dL_law_342 : decode cL_law 342 = .ok (.iadd, 1) := by decide +kernel
theorem dL_law_343 : decode cL_law 343 = .ok (.iaload, 1) := by decide +kernel
theorem dL_law_344 : decode cL_law 344 = .ok (.invokevirtual 108, 3) := by decide +kernel
theorem dL_law_347 : decode cL_law 347 = .ok (.istore 6, 2) := by decide +kernel
theorem dL_law_349 : decode cL_law 349 = .ok (.aload_n 2, 1) := by decide +kernel
theorem dL_law_350 : decode cL_law 350 = .ok (.invokevirtual 99, 3) := by decide +kernel
theorem dL_law_353 : decode cL_law 353 = .ok (.iload 5, 2) := by decide +kernel
theorem dL_law_355 : decode cL_law 355 = .ok (.if_icmp .eq 5, 3) := by decide +kernel
theorem dL_law_358 : decode cL_law 358 = .ok (.iconst 0, 1) := by decide +kernel
theorem dL_law_359 : decode cL_law 359 = .ok (.ireturn, 1) := by decide +kernel
theorem dL_law_360 : decode cL_law 360 = .ok (.iload 5, 2) := by decide +kernel
theorem dL_law_362 : decode cL_law 362 = .ok (.ifCond .ne 15, 3) := by decide +kernel
theorem dL_law_365 : decode cL_law 365 = .ok (.aload_n 3, 1) := by decide +kernel
theorem dL_law_366 : decode cL_law 366 = .ok (.iconst 0, 1) := by decide +kernel
theorem dL_law_367 : decode cL_law 367 = .ok (.laload, 1) := by decide +kernel
theorem dL_law_368 : decode cL_law 368 = .ok (.iload 6, 2) := by decide +kernel
theorem dL_law_370 : decode cL_law 370 = .ok (.i2l, 1) := by decide +kernel
theorem dL_law_371 : decode cL_law 371 = .ok (.lcmp, 1) := by decide +kernel
theorem dL_law_372 : decode cL_law 372 = .ok (.ifCond .eq 5, 3) := by decide +kernel
theorem dL_law_375 : decode cL_law 375 = .ok (.iconst 0, 1) := by decide +kernel
theorem dL_law_376 : decode cL_law 376 = .ok (.ireturn, 1) := by decide +kernel
theorem dL_law_377 : decode cL_law 377 = .ok (.goto 1397, 3) := by decide +kernel
theorem dL_law_380 : decode cL_law 380 = .ok (.aload_n 1, 1) := by decide +kernel
theorem dL_law_381 : decode cL_law 381 = .ok (.aload_n 0, 1) := by decide +kernel
theorem dL_law_382 : decode cL_law 382 = .ok (.iload 4, 2) := by decide +kernel
theorem dL_law_384 : decode cL_law 384 = .ok (.iconst 1, 1) := by decide +kernel
theorem dL_law_385 : decode cL_law 385 = .ok (.iadd, 1) := by decide +kernel
theorem dL_law_386 : decode cL_law 386 = .ok (.iaload, 1) := by decide +kernel
theorem dL_law_387 : decode cL_law 387 = .ok (.aload_n 0, 1) := by decide +kernel
theorem dL_law_388 : decode cL_law 388 = .ok (.iload 4, 2) := by decide +kernel
theorem dL_law_390 : decode cL_law 390 = .ok (.iconst 2, 1) := by decide +kernel
theorem dL_law_391 : decode cL_law 391 = .ok (.iadd, 1) := by decide +kernel
theorem dL_law_392 : decode cL_law 392 = .ok (.iaload, 1) := by decide +kernel
theorem dL_law_393 : decode cL_law 393 = .ok (.aload_n 3, 1) := by decide +kernel
theorem dL_law_394 : decode cL_law 394 = .ok (.invokestatic 109, 3) := by decide +kernel
theorem dL_law_397 : decode cL_law 397 = .ok (.istore 5, 2) := by decide +kernel
theorem dL_law_399 : decode cL_law 399 = .ok (.aload_n 2, 1) := by decide +kernel
theorem dL_law_400 : decode cL_law 400 = .ok (.aload_n 0, 1) := by decide +kernel
theorem dL_law_401 : decode cL_law 401 = .ok (.iload 4, 2) := by decide +kernel
theorem dL_law_403 : decode cL_law 403 = .ok (.iconst 1, 1) := by decide +kernel
theorem dL_law_404 : decode cL_law 404 = .ok (.iadd, 1) := by decide +kernel
theorem dL_law_405 : decode cL_law 405 = .ok (.iaload, 1) := by decide +kernel
theorem dL_law_406 : decode cL_law 406 = .ok (.aload_n 0, 1) := by decide +kernel
theorem dL_law_407 : decode cL_law 407 = .ok (.iload 4, 2) := by decide +kernel
theorem dL_law_409 : decode cL_law 409 = .ok (.iconst 2, 1) := by decide +kernel
theorem dL_law_410 : decode cL_law 410 = .ok (.iadd, 1) := by decide +kernel
theorem dL_law_411 : decode cL_law 411 = .ok (.iaload, 1) := by decide +kernel
theorem dL_law_412 : decode cL_law 412 = .ok (.invokevirtual 111, 3) := by decide +kernel
theorem dL_law_415 : decode cL_law 415 = .ok (.istore 6, 2) := by decide +kernel
theorem dL_law_417 : decode cL_law 417 = .ok (.aload_n 2, 1) := by decide +kernel
theorem dL_law_418 : decode cL_law 418 = .ok (.invokevirtual 99, 3) := by decide +kernel
theorem dL_law_421 : decode cL_law 421 = .ok (.iload 5, 2) := by decide +kernel
theorem dL_law_423 : decode cL_law 423 = .ok (.if_icmp .eq 5, 3) := by decide +kernel
theorem dL_law_426 : decode cL_law 426 = .ok (.iconst 0, 1) := by decide +kernel
theorem dL_law_427 : decode cL_law 427 = .ok (.ireturn, 1) := by decide +kernel
theorem dL_law_428 : decode cL_law 428 = .ok (.iload 5, 2) := by decide +kernel
theorem dL_law_430 : decode cL_law 430 = .ok (.ifCond .ne 15, 3) := by decide +kernel
theorem dL_law_433 : decode cL_law 433 = .ok (.aload_n 3, 1) := by decide +kernel
theorem dL_law_434 : decode cL_law 434 = .ok (.iconst 0, 1) := by decide +kernel
theorem dL_law_435 : decode cL_law 435 = .ok (.laload, 1) := by decide +kernel
theorem dL_law_436 : decode cL_law 436 = .ok (.iload 6, 2) := by decide +kernel
theorem dL_law_438 : decode cL_law 438 = .ok (.i2l, 1) := by decide +kernel
theorem dL_law_439 : decode cL_law 439 = .ok (.lcmp, 1) := by decide +kernel
theorem dL_law_440 : decode cL_law 440 = .ok (.ifCond .eq 5, 3) := by decide +kernel
theorem dL_law_443 : decode cL_law 443 = .ok (.iconst 0, 1) := by decide +kernel
theorem dL_law_444 : decode cL_law 444 = .ok (.ireturn, 1) := by decide +kernel
theorem dL_law_445 : decode cL_law 445 = .ok (.goto 1329, 3) := by decide +kernel
theorem dL_law_448 : decode cL_law 448 = .ok (.aload_n 1, 1) := by decide +kernel
theorem dL_law_449 : decode cL_law 449 = .ok (.aload_n 3, 1) := by decide +kernel
theorem dL_law_450 : decode cL_law 450 = .ok (.invokestatic 112, 3) := by decide +kernel
theorem dL_law_453 : decode cL_law 453 = .ok (.istore 5, 2) := by decide +kernel
theorem dL_law_455 : decode cL_law 455 = .ok (.aload_n 2, 1) := by decide +kernel
theorem dL_law_456 : decode cL_law 456 = .ok (.invokevirtual 115, 3) := by decide +kernel
theorem dL_law_459 : decode cL_law 459 = .ok (.istore 6, 2) := by decide +kernel
theorem dL_law_461 : decode cL_law 461 = .ok (.aload_n 2, 1) := by decide +kernel
theorem dL_law_462 : decode cL_law 462 = .ok (.invokevirtual 99, 3) := by decide +kernel
theorem dL_law_465 : decode cL_law 465 = .ok (.iload 5, 2) := by decide +kernel
theorem dL_law_467 : decode cL_law 467 = .ok (.if_icmp .eq 5, 3) := by decide +kernel
theorem dL_law_470 : decode cL_law 470 = .ok (.iconst 0, 1) := by decide +kernel
theorem dL_law_471 : decode cL_law 471 = .ok (.ireturn, 1) := by decide +kernel
theorem dL_law_472 : decode cL_law 472 = .ok (.iload 5, 2) := by decide +kernel
theorem dL_law_474 : decode cL_law 474 = .ok (.ifCond .ne 15, 3) := by decide +kernel
theorem dL_law_477 : decode cL_law 477 = .ok (.aload_n 3, 1) := by decide +kernel
theorem dL_law_478 : decode cL_law 478 = .ok (.iconst 0, 1) := by decide +kernel
theorem dL_law_479 : decode cL_law 479 = .ok (.laload, 1) := by decide +kernel
theorem dL_law_480 : decode cL_law 480 = .ok (.iload 6, 2) := by decide +kernel
theorem dL_law_482 : decode cL_law 482 = .ok (.i2l, 1) := by decide +kernel
theorem dL_law_483 : decode cL_law 483 = .ok (.lcmp, 1) := by decide +kernel
theorem dL_law_484 : decode cL_law 484 = .ok (.ifCond .eq 5, 3) := by decide +kernel
theorem dL_law_487 : decode cL_law 487 = .ok (.iconst 0, 1) := by decide +kernel
theorem dL_law_488 : decode cL_law 488 = .ok (.ireturn, 1) := by decide +kernel
theorem dL_law_489 : decode cL_law 489 = .ok (.goto 1285, 3) := by decide +kernel
theorem dL_law_492 : decode cL_law 492 = .ok (.aload_n 1, 1) := by decide +kernel
theorem dL_law_493 : decode cL_law 493 = .ok (.aload_n 0, 1) := by decide +kernel
theorem dL_law_494 : decode cL_law 494 = .ok (.iload 4, 2) := by decide +kernel
theorem dL_law_496 : decode cL_law 496 = .ok (.iconst 1, 1) := by decide +kernel
theorem dL_law_497 : decode cL_law 497 = .ok (.iadd, 1) := by decide +kernel
theorem dL_law_498 : decode cL_law 498 = .ok (.iaload, 1) := by decide +kernel
theorem dL_law_499 : decode cL_law 499 = .ok (.aload_n 3, 1) := by decide +kernel
theorem dL_law_500 : decode cL_law 500 = .ok (.invokestatic 116, 3) := by decide +kernel
theorem dL_law_503 : decode cL_law 503 = .ok (.istore 5, 2) := by decide +kernel
theorem dL_law_505 : decode cL_law 505 = .ok (.aload_n 2, 1) := by decide +kernel
theorem dL_law_506 : decode cL_law 506 = .ok (.aload_n 0, 1) := by decide +kernel
theorem dL_law_507 : decode cL_law 507 = .ok (.iload 4, 2) := by decide +kernel
theorem dL_law_509 : decode cL_law 509 = .ok (.iconst 1, 1) := by decide +kernel
theorem dL_law_510 : decode cL_law 510 = .ok (.iadd, 1) := by decide +kernel
theorem dL_law_511 : decode cL_law 511 = .ok (.iaload, 1) := by decide +kernel
theorem dL_law_512 : decode cL_law 512 = .ok (.invokevirtual 119, 3) := by decide +kernel
theorem dL_law_515 : decode cL_law 515 = .ok (.istore 6, 2) := by decide +kernel
theorem dL_law_517 : decode cL_law 517 = .ok (.aload_n 2, 1) := by decide +kernel
theorem dL_law_518 : decode cL_law 518 = .ok (.invokevirtual 99, 3) := by decide +kernel
theorem dL_law_521 : decode cL_law 521 = .ok (.iload 5, 2) := by decide +kernel
theorem dL_law_523 : decode cL_law 523 = .ok (.if_icmp .eq 5, 3) := by decide +kernel
theorem dL_law_526 : decode cL_law 526 = .ok (.iconst 0, 1) := by decide +kernel
theorem dL_law_527 : decode cL_law 527 = .ok (.ireturn, 1) := by decide +kernel
theorem dL_law_528 : decode cL_law 528 = .ok (.iload 5, 2) := by decide +kernel
theorem dL_law_530 : decode cL_law 530 = .ok (.ifCond .ne 15, 3) := by decide +kernel
theorem dL_law_533 : decode cL_law 533 = .ok (.aload_n 3, 1) := by decide +kernel
theorem dL_law_534 : decode cL_law 534 = .ok (.iconst 0, 1) := by decide +kernel
theorem dL_law_535 : decode cL_law 535 = .ok (.laload, 1) := by decide +kernel
theorem dL_law_536 : decode cL_law 536 = .ok (.iload 6, 2) := by decide +kernel
theorem dL_law_538 : decode cL_law 538 = .ok (.i2l, 1) := by decide +kernel
theorem dL_law_539 : decode cL_law 539 = .ok (.lcmp, 1) := by decide +kernel
theorem dL_law_540 : decode cL_law 540 = .ok (.ifCond .eq 5, 3) := by decide +kernel
theorem dL_law_543 : decode cL_law 543 = .ok (.iconst 0, 1) := by decide +kernel
theorem dL_law_544 : decode cL_law 544 = .ok (.ireturn, 1) := by decide +kernel
theorem dL_law_545 : decode cL_law 545 = .ok (.goto 1229, 3) := by decide +kernel
theorem dL_law_548 : decode cL_law 548 = .ok (.aload_n 1, 1) := by decide +kernel
theorem dL_law_549 : decode cL_law 549 = .ok (.aload_n 0, 1) := by decide +kernel
theorem dL_law_550 : decode cL_law 550 = .ok (.iload 4, 2) := by decide +kernel
theorem dL_law_552 : decode cL_law 552 = .ok (.iconst 1, 1) := by decide +kernel
theorem dL_law_553 : decode cL_law 553 = .ok (.iadd, 1) := by decide +kernel
theorem dL_law_554 : decode cL_law 554 = .ok (.iaload, 1) := by decide +kernel
theorem dL_law_555 : decode cL_law 555 = .ok (.aload_n 0, 1) := by decide +kernel
theorem dL_law_556 : decode cL_law 556 = .ok (.iload 4, 2) := by decide +kernel
theorem dL_law_558 : decode cL_law 558 = .ok (.iconst 2, 1) := by decide +kernel
theorem dL_law_559 : decode cL_law 559 = .ok (.iadd, 1) := by decide +kernel
theorem dL_law_560 : decode cL_law 560 = .ok (.iaload, 1) := by decide +kernel
theorem dL_law_561 : decode cL_law 561 = .ok (.aload_n 0, 1) := by decide +kernel
theorem dL_law_562 : decode cL_law 562 = .ok (.iload 4, 2) := by decide +kernel
theorem dL_law_564 : decode cL_law 564 = .ok (.iconst 3, 1) := by decide +kernel
theorem dL_law_565 : decode cL_law 565 = .ok (.iadd, 1) := by decide +kernel
theorem dL_law_566 : decode cL_law 566 = .ok (.iaload, 1) := by decide +kernel
theorem dL_law_567 : decode cL_law 567 = .ok (.aload_n 0, 1) := by decide +kernel
theorem dL_law_568 : decode cL_law 568 = .ok (.iload 4, 2) := by decide +kernel
theorem dL_law_570 : decode cL_law 570 = .ok (.iconst 4, 1) := by decide +kernel
theorem dL_law_571 : decode cL_law 571 = .ok (.iadd, 1) := by decide +kernel
theorem dL_law_572 : decode cL_law 572 = .ok (.iaload, 1) := by decide +kernel
theorem dL_law_573 : decode cL_law 573 = .ok (.aload_n 3, 1) := by decide +kernel
theorem dL_law_574 : decode cL_law 574 = .ok (.invokestatic 120, 3) := by decide +kernel
theorem dL_law_577 : decode cL_law 577 = .ok (.istore 5, 2) := by decide +kernel
theorem dL_law_579 : decode cL_law 579 = .ok (.aload_n 2, 1) := by decide +kernel
theorem dL_law_580 : decode cL_law 580 = .ok (.aload_n 0, 1) := by decide +kernel
theorem dL_law_581 : decode cL_law 581 = .ok (.iload 4, 2) := by decide +kernel
theorem dL_law_583 : decode cL_law 583 = .ok (.iconst 1, 1) := by decide +kernel
theorem dL_law_584 : decode cL_law 584 = .ok (.iadd, 1) := by decide +kernel
theorem dL_law_585 : decode cL_law 585 = .ok (.iaload, 1) := by decide +kernel
theorem dL_law_586 : decode cL_law 586 = .ok (.aload_n 0, 1) := by decide +kernel
theorem dL_law_587 : decode cL_law 587 = .ok (.iload 4, 2) := by decide +kernel
theorem dL_law_589 : decode cL_law 589 = .ok (.iconst 2, 1) := by decide +kernel
theorem dL_law_590 : decode cL_law 590 = .ok (.iadd, 1) := by decide +kernel
theorem dL_law_591 : decode cL_law 591 = .ok (.iaload, 1) := by decide +kernel
theorem dL_law_592 : decode cL_law 592 = .ok (.aload_n 0, 1) := by decide +kernel
theorem dL_law_593 : decode cL_law 593 = .ok (.iload 4, 2) := by decide +kernel
theorem dL_law_595 : decode cL_law 595 = .ok (.iconst 3, 1) := by decide +kernel
theorem dL_law_596 : decode cL_law 596 = .ok (.iadd, 1) := by decide +kernel
theorem dL_law_597 : decode cL_law 597 = .ok (.iaload, 1) := by decide +kernel
theorem dL_law_598 : decode cL_law 598 = .ok (.aload_n 0, 1) := by decide +kernel
theorem dL_law_599 : decode cL_law 599 = .ok (.iload 4, 2) := by decide +kernel
theorem dL_law_601 : decode cL_law 601 = .ok (.iconst 4, 1) := by decide +kernel
theorem dL_law_602 : decode cL_law 602 = .ok (.iadd, 1) := by decide +kernel
theorem dL_law_603 : decode cL_law 603 = .ok (.iaload, 1) := by decide +kernel
theorem dL_law_604 : decode cL_law 604 = .ok (.invokevirtual 123, 3) := by decide +kernel
theorem dL_law_607 : decode cL_law 607 = .ok (.istore 6, 2) := by decide +kernel
theorem dL_law_609 : decode cL_law 609 = .ok (.aload_n 2, 1) := by decide +kernel
theorem dL_law_610 : decode cL_law 610 = .ok (.invokevirtual 99, 3) := by decide +kernel
theorem dL_law_613 : decode cL_law 613 = .ok (.iload 5, 2) := by decide +kernel
theorem dL_law_615 : decode cL_law 615 = .ok (.if_icmp .eq 5, 3) := by decide +kernel
theorem dL_law_618 : decode cL_law 618 = .ok (.iconst 0, 1) := by decide +kernel
theorem dL_law_619 : decode cL_law 619 = .ok (.ireturn, 1) := by decide +kernel
theorem dL_law_620 : decode cL_law 620 = .ok (.iload 5, 2) := by decide +kernel
theorem dL_law_622 : decode cL_law 622 = .ok (.ifCond .ne 15, 3) := by decide +kernel
theorem dL_law_625 : decode cL_law 625 = .ok (.aload_n 3, 1) := by decide +kernel
theorem dL_law_626 : decode cL_law 626 = .ok (.iconst 0, 1) := by decide +kernel
theorem dL_law_627 : decode cL_law 627 = .ok (.laload, 1) := by decide +kernel
theorem dL_law_628 : decode cL_law 628 = .ok (.iload 6, 2) := by decide +kernel
theorem dL_law_630 : decode cL_law 630 = .ok (.i2l, 1) := by decide +kernel
theorem dL_law_631 : decode cL_law 631 = .ok (.lcmp, 1) := by decide +kernel
theorem dL_law_632 : decode cL_law 632 = .ok (.ifCond .eq 5, 3) := by decide +kernel
theorem dL_law_635 : decode cL_law 635 = .ok (.iconst 0, 1) := by decide +kernel
theorem dL_law_636 : decode cL_law 636 = .ok (.ireturn, 1) := by decide +kernel
theorem dL_law_637 : decode cL_law 637 = .ok (.goto 1137, 3) := by decide +kernel
theorem dL_law_640 : decode cL_law 640 = .ok (.aload_n 1, 1) := by decide +kernel
theorem dL_law_641 : decode cL_law 641 = .ok (.aload_n 0, 1) := by decide +kernel
theorem dL_law_642 : decode cL_law 642 = .ok (.iload 4, 2) := by decide +kernel
theorem dL_law_644 : decode cL_law 644 = .ok (.iconst 1, 1) := by decide +kernel
theorem dL_law_645 : decode cL_law 645 = .ok (.iadd, 1) := by decide +kernel
theorem dL_law_646 : decode cL_law 646 = .ok (.iaload, 1) := by decide +kernel
theorem dL_law_647 : decode cL_law 647 = .ok (.aload_n 3, 1) := by decide +kernel
theorem dL_law_648 : decode cL_law 648 = .ok (.invokestatic 124, 3) := by decide +kernel
theorem dL_law_651 : decode cL_law 651 = .ok (.istore 5, 2) := by decide +kernel
theorem dL_law_653 : decode cL_law 653 = .ok (.aload_n 2, 1) := by decide +kernel
theorem dL_law_654 : decode cL_law 654 = .ok (.aload_n 0, 1) := by decide +kernel
theorem dL_law_655 : decode cL_law 655 = .ok (.iload 4, 2) := by decide +kernel
theorem dL_law_657 : decode cL_law 657 = .ok (.iconst 1, 1) := by decide +kernel
theorem dL_law_658 : decode cL_law 658 = .ok (.iadd, 1) := by decide +kernel
theorem dL_law_659 : decode cL_law 659 = .ok (.iaload, 1) := by decide +kernel
theorem dL_law_660 : decode cL_law 660 = .ok (.invokevirtual 126, 3) := by decide +kernel
theorem dL_law_663 : decode cL_law 663 = .ok (.istore 6, 2) := by decide +kernel
theorem dL_law_665 : decode cL_law 665 = .ok (.aload_n 2, 1) := by decide +kernel
theorem dL_law_666 : decode cL_law 666 = .ok (.invokevirtual 99, 3) := by decide +kernel
theorem dL_law_669 : decode cL_law 669 = .ok (.iload 5, 2) := by decide +kernel
theorem dL_law_671 : decode cL_law 671 = .ok (.if_icmp .eq 5, 3) := by decide +kernel
theorem dL_law_674 : decode cL_law 674 = .ok (.iconst 0, 1) := by decide +kernel
theorem dL_law_675 : decode cL_law 675 = .ok (.ireturn, 1) := by decide +kernel
theorem dL_law_676 : decode cL_law 676 = .ok (.iload 5, 2) := by decide +kernel
theorem dL_law_678 : decode cL_law 678 = .ok (.ifCond .ne 15, 3) := by decide +kernel
theorem dL_law_681 : decode cL_law 681 = .ok (.aload_n 3, 1) := by decide +kernel
theorem dL_law_682 : decode cL_law 682 = .ok (.iconst 0, 1) := by decide +kernel
theorem dL_law_683 : decode cL_law 683 = .ok (.laload, 1) := by decide +kernel
theorem dL_law_684 : decode cL_law 684 = .ok (.iload 6, 2) := by decide +kernel
theorem dL_law_686 : decode cL_law 686 = .ok (.i2l, 1) := by decide +kernel
theorem dL_law_687 : decode cL_law 687 = .ok (.lcmp, 1) := by decide +kernel
theorem dL_law_688 : decode cL_law 688 = .ok (.ifCond .eq 5, 3) := by decide +kernel
theorem dL_law_691 : decode cL_law 691 = .ok (.iconst 0, 1) := by decide +kernel
theorem dL_law_692 : decode cL_law 692 = .ok (.ireturn, 1) := by decide +kernel
theorem dL_law_693 : decode cL_law 693 = .ok (.goto 1081, 3) := by decide +kernel
theorem dL_law_696 : decode cL_law 696 = .ok (.aload_n 1, 1) := by decide +kernel
theorem dL_law_697 : decode cL_law 697 = .ok (.aload_n 0, 1) := by decide +kernel
theorem dL_law_698 : decode cL_law 698 = .ok (.iload 4, 2) := by decide +kernel
theorem dL_law_700 : decode cL_law 700 = .ok (.iconst 1, 1) := by decide +kernel
theorem dL_law_701 : decode cL_law 701 = .ok (.iadd, 1) := by decide +kernel
theorem dL_law_702 : decode cL_law 702 = .ok (.iaload, 1) := by decide +kernel
theorem dL_law_703 : decode cL_law 703 = .ok (.aload_n 3, 1) := by decide +kernel
theorem dL_law_704 : decode cL_law 704 = .ok (.invokestatic 127, 3) := by decide +kernel
theorem dL_law_707 : decode cL_law 707 = .ok (.istore 5, 2) := by decide +kernel
theorem dL_law_709 : decode cL_law 709 = .ok (.aload_n 2, 1) := by decide +kernel
theorem dL_law_710 : decode cL_law 710 = .ok (.aload_n 0, 1) := by decide +kernel
theorem dL_law_711 : decode cL_law 711 = .ok (.iload 4, 2) := by decide +kernel
theorem dL_law_713 : decode cL_law 713 = .ok (.iconst 1, 1) := by decide +kernel
theorem dL_law_714 : decode cL_law 714 = .ok (.iadd, 1) := by decide +kernel
theorem dL_law_715 : decode cL_law 715 = .ok (.iaload, 1) := by decide +kernel
theorem dL_law_716 : decode cL_law 716 = .ok (.invokevirtual 129, 3) := by decide +kernel
theorem dL_law_719 : decode cL_law 719 = .ok (.istore 6, 2) := by decide +kernel
theorem dL_law_721 : decode cL_law 721 = .ok (.aload_n 2, 1) := by decide +kernel
theorem dL_law_722 : decode cL_law 722 = .ok (.invokevirtual 99, 3) := by decide +kernel
theorem dL_law_725 : decode cL_law 725 = .ok (.iload 5, 2) := by decide +kernel
theorem dL_law_727 : decode cL_law 727 = .ok (.if_icmp .eq 5, 3) := by decide +kernel
theorem dL_law_730 : decode cL_law 730 = .ok (.iconst 0, 1) := by decide +kernel
theorem dL_law_731 : decode cL_law 731 = .ok (.ireturn, 1) := by decide +kernel
theorem dL_law_732 : decode cL_law 732 = .ok (.iload 5, 2) := by decide +kernel
theorem dL_law_734 : decode cL_law 734 = .ok (.ifCond .ne 15, 3) := by decide +kernel
theorem dL_law_737 : decode cL_law 737 = .ok (.aload_n 3, 1) := by decide +kernel
theorem dL_law_738 : decode cL_law 738 = .ok (.iconst 0, 1) := by decide +kernel
theorem dL_law_739 : decode cL_law 739 = .ok (.laload, 1) := by decide +kernel
theorem dL_law_740 : decode cL_law 740 = .ok (.iload 6, 2) := by decide +kernel
theorem dL_law_742 : decode cL_law 742 = .ok (.i2l, 1) := by decide +kernel
theorem dL_law_743 : decode cL_law 743 = .ok (.lcmp, 1) := by decide +kernel
theorem dL_law_744 : decode cL_law 744 = .ok (.ifCond .eq 5, 3) := by decide +kernel
theorem dL_law_747 : decode cL_law 747 = .ok (.iconst 0, 1) := by decide +kernel
theorem dL_law_748 : decode cL_law 748 = .ok (.ireturn, 1) := by decide +kernel
theorem dL_law_749 : decode cL_law 749 = .ok (.goto 1025, 3) := by decide +kernel
theorem dL_law_752 : decode cL_law 752 = .ok (.aload_n 1, 1) := by decide +kernel
theorem dL_law_753 : decode cL_law 753 = .ok (.aload_n 0, 1) := by decide +kernel
theorem dL_law_754 : decode cL_law 754 = .ok (.iload 4, 2) := by decide +kernel
theorem dL_law_756 : decode cL_law 756 = .ok (.iconst 1, 1) := by decide +kernel
theorem dL_law_757 : decode cL_law 757 = .ok (.iadd, 1) := by decide +kernel
theorem dL_law_758 : decode cL_law 758 = .ok (.iaload, 1) := by decide +kernel
theorem dL_law_759 : decode cL_law 759 = .ok (.aload_n 0, 1) := by decide +kernel
theorem dL_law_760 : decode cL_law 760 = .ok (.iload 4, 2) := by decide +kernel
theorem dL_law_762 : decode cL_law 762 = .ok (.iconst 2, 1) := by decide +kernel
theorem dL_law_763 : decode cL_law 763 = .ok (.iadd, 1) := by decide +kernel
theorem dL_law_764 : decode cL_law 764 = .ok (.iaload, 1) := by decide +kernel
theorem dL_law_765 : decode cL_law 765 = .ok (.aload_n 3, 1) := by decide +kernel
theorem dL_law_766 : decode cL_law 766 = .ok (.invokestatic 130, 3) := by decide +kernel
theorem dL_law_769 : decode cL_law 769 = .ok (.istore 5, 2) := by decide +kernel
theorem dL_law_771 : decode cL_law 771 = .ok (.aload_n 2, 1) := by decide +kernel
theorem dL_law_772 : decode cL_law 772 = .ok (.aload_n 0, 1) := by decide +kernel
theorem dL_law_773 : decode cL_law 773 = .ok (.iload 4, 2) := by decide +kernel
theorem dL_law_775 : decode cL_law 775 = .ok (.iconst 1, 1) := by decide +kernel
theorem dL_law_776 : decode cL_law 776 = .ok (.iadd, 1) := by decide +kernel
theorem dL_law_777 : decode cL_law 777 = .ok (.iaload, 1) := by decide +kernel
theorem dL_law_778 : decode cL_law 778 = .ok (.aload_n 0, 1) := by decide +kernel
theorem dL_law_779 : decode cL_law 779 = .ok (.iload 4, 2) := by decide +kernel
theorem dL_law_781 : decode cL_law 781 = .ok (.iconst 2, 1) := by decide +kernel
theorem dL_law_782 : decode cL_law 782 = .ok (.iadd, 1) := by decide +kernel
theorem dL_law_783 : decode cL_law 783 = .ok (.iaload, 1) := by decide +kernel
theorem dL_law_784 : decode cL_law 784 = .ok (.invokevirtual 132, 3) := by decide +kernel
theorem dL_law_787 : decode cL_law 787 = .ok (.istore 6, 2) := by decide +kernel
theorem dL_law_789 : decode cL_law 789 = .ok (.aload_n 2, 1) := by decide +kernel
theorem dL_law_790 : decode cL_law 790 = .ok (.invokevirtual 99, 3) := by decide +kernel
theorem dL_law_793 : decode cL_law 793 = .ok (.iload 5, 2) := by decide +kernel
theorem dL_law_795 : decode cL_law 795 = .ok (.if_icmp .eq 5, 3) := by decide +kernel
theorem dL_law_798 : decode cL_law 798 = .ok (.iconst 0, 1) := by decide +kernel
theorem dL_law_799 : decode cL_law 799 = .ok (.ireturn, 1) := by decide +kernel
theorem dL_law_800 : decode cL_law 800 = .ok (.iload 5, 2) := by decide +kernel
theorem dL_law_802 : decode cL_law 802 = .ok (.ifCond .ne 15, 3) := by decide +kernel
theorem dL_law_805 : decode cL_law 805 = .ok (.aload_n 3, 1) := by decide +kernel
theorem dL_law_806 : decode cL_law 806 = .ok (.iconst 0, 1) := by decide +kernel
theorem dL_law_807 : decode cL_law 807 = .ok (.laload, 1) := by decide +kernel
theorem dL_law_808 : decode cL_law 808 = .ok (.iload 6, 2) := by decide +kernel
theorem dL_law_810 : decode cL_law 810 = .ok (.i2l, 1) := by decide +kernel
theorem dL_law_811 : decode cL_law 811 = .ok (.lcmp, 1) := by decide +kernel
theorem dL_law_812 : decode cL_law 812 = .ok (.ifCond .eq 5, 3) := by decide +kernel
theorem dL_law_815 : decode cL_law 815 = .ok (.iconst 0, 1) := by decide +kernel
theorem dL_law_816 : decode cL_law 816 = .ok (.ireturn, 1) := by decide +kernel
theorem dL_law_817 : decode cL_law 817 = .ok (.goto 957, 3) := by decide +kernel
theorem dL_law_820 : decode cL_law 820 = .ok (.aload_n 1, 1) := by decide +kernel
theorem dL_law_821 : decode cL_law 821 = .ok (.aload_n 0, 1) := by decide +kernel
theorem dL_law_822 : decode cL_law 822 = .ok (.iload 4, 2) := by decide +kernel
theorem dL_law_824 : decode cL_law 824 = .ok (.iconst 1, 1) := by decide +kernel
theorem dL_law_825 : decode cL_law 825 = .ok (.iadd, 1) := by decide +kernel
theorem dL_law_826 : decode cL_law 826 = .ok (.iaload, 1) := by decide +kernel
theorem dL_law_827 : decode cL_law 827 = .ok (.aload_n 3, 1) := by decide +kernel
theorem dL_law_828 : decode cL_law 828 = .ok (.invokestatic 133, 3) := by decide +kernel
theorem dL_law_831 : decode cL_law 831 = .ok (.istore 5, 2) := by decide +kernel
theorem dL_law_833 : decode cL_law 833 = .ok (.aload_n 2, 1) := by decide +kernel
theorem dL_law_834 : decode cL_law 834 = .ok (.aload_n 0, 1) := by decide +kernel
theorem dL_law_835 : decode cL_law 835 = .ok (.iload 4, 2) := by decide +kernel
theorem dL_law_837 : decode cL_law 837 = .ok (.iconst 1, 1) := by decide +kernel
theorem dL_law_838 : decode cL_law 838 = .ok (.iadd, 1) := by decide +kernel
theorem dL_law_839 : decode cL_law 839 = .ok (.iaload, 1) := by decide +kernel
theorem dL_law_840 : decode cL_law 840 = .ok (.invokevirtual 135, 3) := by decide +kernel
theorem dL_law_843 : decode cL_law 843 = .ok (.istore 6, 2) := by decide +kernel
theorem dL_law_845 : decode cL_law 845 = .ok (.aload_n 2, 1) := by decide +kernel
theorem dL_law_846 : decode cL_law 846 = .ok (.invokevirtual 99, 3) := by decide +kernel
theorem dL_law_849 : decode cL_law 849 = .ok (.iload 5, 2) := by decide +kernel
theorem dL_law_851 : decode cL_law 851 = .ok (.if_icmp .eq 5, 3) := by decide +kernel
theorem dL_law_854 : decode cL_law 854 = .ok (.iconst 0, 1) := by decide +kernel
theorem dL_law_855 : decode cL_law 855 = .ok (.ireturn, 1) := by decide +kernel
theorem dL_law_856 : decode cL_law 856 = .ok (.iload 5, 2) := by decide +kernel
theorem dL_law_858 : decode cL_law 858 = .ok (.ifCond .ne 15, 3) := by decide +kernel
theorem dL_law_861 : decode cL_law 861 = .ok (.aload_n 3, 1) := by decide +kernel
theorem dL_law_862 : decode cL_law 862 = .ok (.iconst 0, 1) := by decide +kernel
theorem dL_law_863 : decode cL_law 863 = .ok (.laload, 1) := by decide +kernel
theorem dL_law_864 : decode cL_law 864 = .ok (.iload 6, 2) := by decide +kernel
theorem dL_law_866 : decode cL_law 866 = .ok (.i2l, 1) := by decide +kernel
theorem dL_law_867 : decode cL_law 867 = .ok (.lcmp, 1) := by decide +kernel
theorem dL_law_868 : decode cL_law 868 = .ok (.ifCond .eq 5, 3) := by decide +kernel
theorem dL_law_871 : decode cL_law 871 = .ok (.iconst 0, 1) := by decide +kernel
theorem dL_law_872 : decode cL_law 872 = .ok (.ireturn, 1) := by decide +kernel
theorem dL_law_873 : decode cL_law 873 = .ok (.goto 901, 3) := by decide +kernel
theorem dL_law_876 : decode cL_law 876 = .ok (.aload_n 1, 1) := by decide +kernel
theorem dL_law_877 : decode cL_law 877 = .ok (.aload_n 0, 1) := by decide +kernel
theorem dL_law_878 : decode cL_law 878 = .ok (.iload 4, 2) := by decide +kernel
theorem dL_law_880 : decode cL_law 880 = .ok (.iconst 1, 1) := by decide +kernel
theorem dL_law_881 : decode cL_law 881 = .ok (.iadd, 1) := by decide +kernel
theorem dL_law_882 : decode cL_law 882 = .ok (.iaload, 1) := by decide +kernel
theorem dL_law_883 : decode cL_law 883 = .ok (.aload_n 3, 1) := by decide +kernel
theorem dL_law_884 : decode cL_law 884 = .ok (.invokestatic 136, 3) := by decide +kernel
theorem dL_law_887 : decode cL_law 887 = .ok (.istore 5, 2) := by decide +kernel
theorem dL_law_889 : decode cL_law 889 = .ok (.aload_n 2, 1) := by decide +kernel
theorem dL_law_890 : decode cL_law 890 = .ok (.aload_n 0, 1) := by decide +kernel
theorem dL_law_891 : decode cL_law 891 = .ok (.iload 4, 2) := by decide +kernel
theorem dL_law_893 : decode cL_law 893 = .ok (.iconst 1, 1) := by decide +kernel
theorem dL_law_894 : decode cL_law 894 = .ok (.iadd, 1) := by decide +kernel
theorem dL_law_895 : decode cL_law 895 = .ok (.iaload, 1) := by decide +kernel
theorem dL_law_896 : decode cL_law 896 = .ok (.invokevirtual 138, 3) := by decide +kernel
theorem dL_law_899 : decode cL_law 899 = .ok (.istore 6, 2) := by decide +kernel
theorem dL_law_901 : decode cL_law 901 = .ok (.aload_n 2, 1) := by decide +kernel
theorem dL_law_902 : decode cL_law 902 = .ok (.invokevirtual 99, 3) := by decide +kernel
theorem dL_law_905 : decode cL_law 905 = .ok (.iload 5, 2) := by decide +kernel
theorem dL_law_907 : decode cL_law 907 = .ok (.if_icmp .eq 5, 3) := by decide +kernel
theorem dL_law_910 : decode cL_law 910 = .ok (.iconst 0, 1) := by decide +kernel
theorem dL_law_911 : decode cL_law 911 = .ok (.ireturn, 1) := by decide +kernel
theorem dL_law_912 : decode cL_law 912 = .ok (.iload 5, 2) := by decide +kernel
theorem dL_law_914 : decode cL_law 914 = .ok (.ifCond .ne 15, 3) := by decide +kernel
theorem dL_law_917 : decode cL_law 917 = .ok (.aload_n 3, 1) := by decide +kernel
theorem dL_law_918 : decode cL_law 918 = .ok (.iconst 0, 1) := by decide +kernel
theorem dL_law_919 : decode cL_law 919 = .ok (.laload, 1) := by decide +kernel
theorem dL_law_920 : decode cL_law 920 = .ok (.iload 6, 2) := by decide +kernel
theorem dL_law_922 : decode cL_law 922 = .ok (.i2l, 1) := by decide +kernel
theorem dL_law_923 : decode cL_law 923 = .ok (.lcmp, 1) := by decide +kernel
theorem dL_law_924 : decode cL_law 924 = .ok (.ifCond .eq 5, 3) := by decide +kernel
theorem dL_law_927 : decode cL_law 927 = .ok (.iconst 0, 1) := by decide +kernel
theorem dL_law_928 : decode cL_law 928 = .ok (.ireturn, 1) := by decide +kernel
theorem dL_law_929 : decode cL_law 929 = .ok (.goto 845, 3) := by decide +kernel
theorem dL_law_932 : decode cL_law 932 = .ok (.aload_n 1, 1) := by decide +kernel
theorem dL_law_933 : decode cL_law 933 = .ok (.invokevirtual 139, 3) := by decide +kernel
theorem dL_law_936 : decode cL_law 936 = .ok (.aload_n 2, 1) := by decide +kernel
theorem dL_law_937 : decode cL_law 937 = .ok (.invokevirtual 142, 3) := by decide +kernel
theorem dL_law_940 : decode cL_law 940 = .ok (.if_icmp .eq 834, 3) := by decide +kernel
theorem dL_law_943 : decode cL_law 943 = .ok (.iconst 0, 1) := by decide +kernel
theorem dL_law_944 : decode cL_law 944 = .ok (.ireturn, 1) := by decide +kernel
theorem dL_law_945 : decode cL_law 945 = .ok (.aload_n 1, 1) := by decide +kernel
theorem dL_law_946 : decode cL_law 946 = .ok (.invokevirtual 143, 3) := by decide +kernel
theorem dL_law_949 : decode cL_law 949 = .ok (.aload_n 2, 1) := by decide +kernel
theorem dL_law_950 : decode cL_law 950 = .ok (.invokevirtual 146, 3) := by decide +kernel
theorem dL_law_953 : decode cL_law 953 = .ok (.if_icmp .eq 821, 3) := by decide +kernel
theorem dL_law_956 : decode cL_law 956 = .ok (.iconst 0, 1) := by decide +kernel
theorem dL_law_957 : decode cL_law 957 = .ok (.ireturn, 1) := by decide +kernel
theorem dL_law_958 : decode cL_law 958 = .ok (.aload_n 1, 1) := by decide +kernel
theorem dL_law_959 : decode cL_law 959 = .ok (.aload_n 3, 1) := by decide +kernel
theorem dL_law_960 : decode cL_law 960 = .ok (.invokestatic 147, 3) := by decide +kernel
theorem dL_law_963 : decode cL_law 963 = .ok (.istore 5, 2) := by decide +kernel
theorem dL_law_965 : decode cL_law 965 = .ok (.aload_n 2, 1) := by decide +kernel
theorem dL_law_966 : decode cL_law 966 = .ok (.invokevirtual 149, 3) := by decide +kernel
theorem dL_law_969 : decode cL_law 969 = .ok (.istore 6, 2) := by decide +kernel
theorem dL_law_971 : decode cL_law 971 = .ok (.aload_n 2, 1) := by decide +kernel
theorem dL_law_972 : decode cL_law 972 = .ok (.invokevirtual 99, 3) := by decide +kernel
theorem dL_law_975 : decode cL_law 975 = .ok (.iload 5, 2) := by decide +kernel
theorem dL_law_977 : decode cL_law 977 = .ok (.if_icmp .eq 5, 3) := by decide +kernel
theorem dL_law_980 : decode cL_law 980 = .ok (.iconst 0, 1) := by decide +kernel
theorem dL_law_981 : decode cL_law 981 = .ok (.ireturn, 1) := by decide +kernel
theorem dL_law_982 : decode cL_law 982 = .ok (.iload 5, 2) := by decide +kernel
theorem dL_law_984 : decode cL_law 984 = .ok (.ifCond .ne 15, 3) := by decide +kernel
theorem dL_law_987 : decode cL_law 987 = .ok (.aload_n 3, 1) := by decide +kernel
theorem dL_law_988 : decode cL_law 988 = .ok (.iconst 0, 1) := by decide +kernel
theorem dL_law_989 : decode cL_law 989 = .ok (.laload, 1) := by decide +kernel
theorem dL_law_990 : decode cL_law 990 = .ok (.iload 6, 2) := by decide +kernel
theorem dL_law_992 : decode cL_law 992 = .ok (.i2l, 1) := by decide +kernel
theorem dL_law_993 : decode cL_law 993 = .ok (.lcmp, 1) := by decide +kernel
theorem dL_law_994 : decode cL_law 994 = .ok (.ifCond .eq 5, 3) := by decide +kernel
theorem dL_law_997 : decode cL_law 997 = .ok (.iconst 0, 1) := by decide +kernel
theorem dL_law_998 : decode cL_law 998 = .ok (.ireturn, 1) := by decide +kernel
theorem dL_law_999 : decode cL_law 999 = .ok (.goto 775, 3) := by decide +kernel
theorem dL_law_1002 : decode cL_law 1002 = .ok (.aload_n 1, 1) := by decide +kernel
theorem dL_law_1003 : decode cL_law 1003 = .ok (.aload_n 3, 1) := by decide +kernel
theorem dL_law_1004 : decode cL_law 1004 = .ok (.invokestatic 150, 3) := by decide +kernel
theorem dL_law_1007 : decode cL_law 1007 = .ok (.istore 5, 2) := by decide +kernel
theorem dL_law_1009 : decode cL_law 1009 = .ok (.aload_n 2, 1) := by decide +kernel
theorem dL_law_1010 : decode cL_law 1010 = .ok (.invokevirtual 152, 3) := by decide +kernel
theorem dL_law_1013 : decode cL_law 1013 = .ok (.istore 6, 2) := by decide +kernel
theorem dL_law_1015 : decode cL_law 1015 = .ok (.aload_n 2, 1) := by decide +kernel
theorem dL_law_1016 : decode cL_law 1016 = .ok (.invokevirtual 99, 3) := by decide +kernel
theorem dL_law_1019 : decode cL_law 1019 = .ok (.iload 5, 2) := by decide +kernel
theorem dL_law_1021 : decode cL_law 1021 = .ok (.if_icmp .eq 5, 3) := by decide +kernel
theorem dL_law_1024 : decode cL_law 1024 = .ok (.iconst 0, 1) := by decide +kernel
theorem dL_law_1025 : decode cL_law 1025 = .ok (.ireturn, 1) := by decide +kernel
theorem dL_law_1026 : decode cL_law 1026 = .ok (.iload 5, 2) := by decide +kernel
theorem dL_law_1028 : decode cL_law 1028 = .ok (.ifCond .ne 15, 3) := by decide +kernel
theorem dL_law_1031 : decode cL_law 1031 = .ok (.aload_n 3, 1) := by decide +kernel
theorem dL_law_1032 : decode cL_law 1032 = .ok (.iconst 0, 1) := by decide +kernel
theorem dL_law_1033 : decode cL_law 1033 = .ok (.laload, 1) := by decide +kernel
theorem dL_law_1034 : decode cL_law 1034 = .ok (.iload 6, 2) := by decide +kernel
theorem dL_law_1036 : decode cL_law 1036 = .ok (.i2l, 1) := by decide +kernel
theorem dL_law_1037 : decode cL_law 1037 = .ok (.lcmp, 1) := by decide +kernel
theorem dL_law_1038 : decode cL_law 1038 = .ok (.ifCond .eq 5, 3) := by decide +kernel
theorem dL_law_1041 : decode cL_law 1041 = .ok (.iconst 0, 1) := by decide +kernel
theorem dL_law_1042 : decode cL_law 1042 = .ok (.ireturn, 1) := by decide +kernel
theorem dL_law_1043 : decode cL_law 1043 = .ok (.goto 731, 3) := by decide +kernel
theorem dL_law_1046 : decode cL_law 1046 = .ok (.aload_n 1, 1) := by decide +kernel
theorem dL_law_1047 : decode cL_law 1047 = .ok (.aload_n 0, 1) := by decide +kernel
theorem dL_law_1048 : decode cL_law 1048 = .ok (.iload 4, 2) := by decide +kernel
theorem dL_law_1050 : decode cL_law 1050 = .ok (.iconst 1, 1) := by decide +kernel
theorem dL_law_1051 : decode cL_law 1051 = .ok (.iadd, 1) := by decide +kernel
theorem dL_law_1052 : decode cL_law 1052 = .ok (.iaload, 1) := by decide +kernel
theorem dL_law_1053 : decode cL_law 1053 = .ok (.aload_n 0, 1) := by decide +kernel
theorem dL_law_1054 : decode cL_law 1054 = .ok (.iload 4, 2) := by decide +kernel
theorem dL_law_1056 : decode cL_law 1056 = .ok (.iconst 2, 1) := by decide +kernel
theorem dL_law_1057 : decode cL_law 1057 = .ok (.iadd, 1) := by decide +kernel
theorem dL_law_1058 : decode cL_law 1058 = .ok (.iaload, 1) := by decide +kernel
theorem dL_law_1059 : decode cL_law 1059 = .ok (.aload_n 0, 1) := by decide +kernel
theorem dL_law_1060 : decode cL_law 1060 = .ok (.iload 4, 2) := by decide +kernel
theorem dL_law_1062 : decode cL_law 1062 = .ok (.iconst 3, 1) := by decide +kernel
theorem dL_law_1063 : decode cL_law 1063 = .ok (.iadd, 1) := by decide +kernel
theorem dL_law_1064 : decode cL_law 1064 = .ok (.iaload, 1) := by decide +kernel
theorem dL_law_1065 : decode cL_law 1065 = .ok (.aload_n 3, 1) := by decide +kernel
theorem dL_law_1066 : decode cL_law 1066 = .ok (.invokestatic 153, 3) := by decide +kernel
theorem dL_law_1069 : decode cL_law 1069 = .ok (.istore 5, 2) := by decide +kernel
theorem dL_law_1071 : decode cL_law 1071 = .ok (.aload_n 2, 1) := by decide +kernel
theorem dL_law_1072 : decode cL_law 1072 = .ok (.aload_n 0, 1) := by decide +kernel
theorem dL_law_1073 : decode cL_law 1073 = .ok (.iload 4, 2) := by decide +kernel
theorem dL_law_1075 : decode cL_law 1075 = .ok (.iconst 1, 1) := by decide +kernel
theorem dL_law_1076 : decode cL_law 1076 = .ok (.iadd, 1) := by decide +kernel
theorem dL_law_1077 : decode cL_law 1077 = .ok (.iaload, 1) := by decide +kernel
theorem dL_law_1078 : decode cL_law 1078 = .ok (.aload_n 0, 1) := by decide +kernel
theorem dL_law_1079 : decode cL_law 1079 = .ok (.iload 4, 2) := by decide +kernel
theorem dL_law_1081 : decode cL_law 1081 = .ok (.iconst 2, 1) := by decide +kernel
theorem dL_law_1082 : decode cL_law 1082 = .ok (.iadd, 1) := by decide +kernel
theorem dL_law_1083 : decode cL_law 1083 = .ok (.iaload, 1) := by decide +kernel
theorem dL_law_1084 : decode cL_law 1084 = .ok (.aload_n 0, 1) := by decide +kernel
theorem dL_law_1085 : decode cL_law 1085 = .ok (.iload 4, 2) := by decide +kernel
theorem dL_law_1087 : decode cL_law 1087 = .ok (.iconst 3, 1) := by decide +kernel
theorem dL_law_1088 : decode cL_law 1088 = .ok (.iadd, 1) := by decide +kernel
theorem dL_law_1089 : decode cL_law 1089 = .ok (.iaload, 1) := by decide +kernel
theorem dL_law_1090 : decode cL_law 1090 = .ok (.invokevirtual 155, 3) := by decide +kernel
theorem dL_law_1093 : decode cL_law 1093 = .ok (.istore 6, 2) := by decide +kernel
theorem dL_law_1095 : decode cL_law 1095 = .ok (.aload_n 2, 1) := by decide +kernel
theorem dL_law_1096 : decode cL_law 1096 = .ok (.invokevirtual 99, 3) := by decide +kernel
theorem dL_law_1099 : decode cL_law 1099 = .ok (.iload 5, 2) := by decide +kernel
theorem dL_law_1101 : decode cL_law 1101 = .ok (.if_icmp .eq 5, 3) := by decide +kernel
theorem dL_law_1104 : decode cL_law 1104 = .ok (.iconst 0, 1) := by decide +kernel
theorem dL_law_1105 : decode cL_law 1105 = .ok (.ireturn, 1) := by decide +kernel
theorem dL_law_1106 : decode cL_law 1106 = .ok (.iload 5, 2) := by decide +kernel
theorem dL_law_1108 : decode cL_law 1108 = .ok (.ifCond .ne 15, 3) := by decide +kernel
theorem dL_law_1111 : decode cL_law 1111 = .ok (.aload_n 3, 1) := by decide +kernel
theorem dL_law_1112 : decode cL_law 1112 = .ok (.iconst 0, 1) := by decide +kernel
theorem dL_law_1113 : decode cL_law 1113 = .ok (.laload, 1) := by decide +kernel
theorem dL_law_1114 : decode cL_law 1114 = .ok (.iload 6, 2) := by decide +kernel
theorem dL_law_1116 : decode cL_law 1116 = .ok (.i2l, 1) := by decide +kernel
theorem dL_law_1117 : decode cL_law 1117 = .ok (.lcmp, 1) := by decide +kernel
theorem dL_law_1118 : decode cL_law 1118 = .ok (.ifCond .eq 5, 3) := by decide +kernel
theorem dL_law_1121 : decode cL_law 1121 = .ok (.iconst 0, 1) := by decide +kernel
theorem dL_law_1122 : decode cL_law 1122 = .ok (.ireturn, 1) := by decide +kernel
theorem dL_law_1123 : decode cL_law 1123 = .ok (.goto 651, 3) := by decide +kernel
theorem dL_law_1126 : decode cL_law 1126 = .ok (.aload_n 1, 1) := by decide +kernel
theorem dL_law_1127 : decode cL_law 1127 = .ok (.aload_n 0, 1) := by decide +kernel
theorem dL_law_1128 : decode cL_law 1128 = .ok (.iload 4, 2) := by decide +kernel
theorem dL_law_1130 : decode cL_law 1130 = .ok (.iconst 1, 1) := by decide +kernel
theorem dL_law_1131 : decode cL_law 1131 = .ok (.iadd, 1) := by decide +kernel
theorem dL_law_1132 : decode cL_law 1132 = .ok (.iaload, 1) := by decide +kernel
theorem dL_law_1133 : decode cL_law 1133 = .ok (.aload_n 0, 1) := by decide +kernel
theorem dL_law_1134 : decode cL_law 1134 = .ok (.iload 4, 2) := by decide +kernel
theorem dL_law_1136 : decode cL_law 1136 = .ok (.iconst 2, 1) := by decide +kernel
theorem dL_law_1137 : decode cL_law 1137 = .ok (.iadd, 1) := by decide +kernel
theorem dL_law_1138 : decode cL_law 1138 = .ok (.iaload, 1) := by decide +kernel
theorem dL_law_1139 : decode cL_law 1139 = .ok (.aload_n 0, 1) := by decide +kernel
theorem dL_law_1140 : decode cL_law 1140 = .ok (.iload 4, 2) := by decide +kernel
theorem dL_law_1142 : decode cL_law 1142 = .ok (.iconst 3, 1) := by decide +kernel
theorem dL_law_1143 : decode cL_law 1143 = .ok (.iadd, 1) := by decide +kernel
theorem dL_law_1144 : decode cL_law 1144 = .ok (.iaload, 1) := by decide +kernel
theorem dL_law_1145 : decode cL_law 1145 = .ok (.aload_n 3, 1) := by decide +kernel
theorem dL_law_1146 : decode cL_law 1146 = .ok (.invokestatic 156, 3) := by decide +kernel
theorem dL_law_1149 : decode cL_law 1149 = .ok (.istore 5, 2) := by decide +kernel
theorem dL_law_1151 : decode cL_law 1151 = .ok (.aload_n 2, 1) := by decide +kernel
theorem dL_law_1152 : decode cL_law 1152 = .ok (.aload_n 0, 1) := by decide +kernel
theorem dL_law_1153 : decode cL_law 1153 = .ok (.iload 4, 2) := by decide +kernel
theorem dL_law_1155 : decode cL_law 1155 = .ok (.iconst 1, 1) := by decide +kernel
theorem dL_law_1156 : decode cL_law 1156 = .ok (.iadd, 1) := by decide +kernel
theorem dL_law_1157 : decode cL_law 1157 = .ok (.iaload, 1) := by decide +kernel
theorem dL_law_1158 : decode cL_law 1158 = .ok (.aload_n 0, 1) := by decide +kernel
theorem dL_law_1159 : decode cL_law 1159 = .ok (.iload 4, 2) := by decide +kernel
theorem dL_law_1161 : decode cL_law 1161 = .ok (.iconst 2, 1) := by decide +kernel
theorem dL_law_1162 : decode cL_law 1162 = .ok (.iadd, 1) := by decide +kernel
theorem dL_law_1163 : decode cL_law 1163 = .ok (.iaload, 1) := by decide +kernel
theorem dL_law_1164 : decode cL_law 1164 = .ok (.aload_n 0, 1) := by decide +kernel
theorem dL_law_1165 : decode cL_law 1165 = .ok (.iload 4, 2) := by decide +kernel
theorem dL_law_1167 : decode cL_law 1167 = .ok (.iconst 3, 1) := by decide +kernel
theorem dL_law_1168 : decode cL_law 1168 = .ok (.iadd, 1) := by decide +kernel
theorem dL_law_1169 : decode cL_law 1169 = .ok (.iaload, 1) := by decide +kernel
theorem dL_law_1170 : decode cL_law 1170 = .ok (.invokevirtual 158, 3) := by decide +kernel
theorem dL_law_1173 : decode cL_law 1173 = .ok (.istore 6, 2) := by decide +kernel
theorem dL_law_1175 : decode cL_law 1175 = .ok (.aload_n 2, 1) := by decide +kernel
theorem dL_law_1176 : decode cL_law 1176 = .ok (.invokevirtual 99, 3) := by decide +kernel
theorem dL_law_1179 : decode cL_law 1179 = .ok (.iload 5, 2) := by decide +kernel
theorem dL_law_1181 : decode cL_law 1181 = .ok (.if_icmp .eq 5, 3) := by decide +kernel
theorem dL_law_1184 : decode cL_law 1184 = .ok (.iconst 0, 1) := by decide +kernel
theorem dL_law_1185 : decode cL_law 1185 = .ok (.ireturn, 1) := by decide +kernel
theorem dL_law_1186 : decode cL_law 1186 = .ok (.iload 5, 2) := by decide +kernel
theorem dL_law_1188 : decode cL_law 1188 = .ok (.ifCond .ne 15, 3) := by decide +kernel
theorem dL_law_1191 : decode cL_law 1191 = .ok (.aload_n 3, 1) := by decide +kernel
theorem dL_law_1192 : decode cL_law 1192 = .ok (.iconst 0, 1) := by decide +kernel
theorem dL_law_1193 : decode cL_law 1193 = .ok (.laload, 1) := by decide +kernel
theorem dL_law_1194 : decode cL_law 1194 = .ok (.iload 6, 2) := by decide +kernel
theorem dL_law_1196 : decode cL_law 1196 = .ok (.i2l, 1) := by decide +kernel
theorem dL_law_1197 : decode cL_law 1197 = .ok (.lcmp, 1) := by decide +kernel
theorem dL_law_1198 : decode cL_law 1198 = .ok (.ifCond .eq 5, 3) := by decide +kernel
theorem dL_law_1201 : decode cL_law 1201 = .ok (.iconst 0, 1) := by decide +kernel
theorem dL_law_1202 : decode cL_law 1202 = .ok (.ireturn, 1) := by decide +kernel
theorem dL_law_1203 : decode cL_law 1203 = .ok (.goto 571, 3) := by decide +kernel
theorem dL_law_1206 : decode cL_law 1206 = .ok (.aload_n 1, 1) := by decide +kernel
theorem dL_law_1207 : decode cL_law 1207 = .ok (.aload_n 0, 1) := by decide +kernel
theorem dL_law_1208 : decode cL_law 1208 = .ok (.iload 4, 2) := by decide +kernel
theorem dL_law_1210 : decode cL_law 1210 = .ok (.iconst 1, 1) := by decide +kernel
theorem dL_law_1211 : decode cL_law 1211 = .ok (.iadd, 1) := by decide +kernel
theorem dL_law_1212 : decode cL_law 1212 = .ok (.iaload, 1) := by decide +kernel
theorem dL_law_1213 : decode cL_law 1213 = .ok (.aload_n 0, 1) := by decide +kernel
theorem dL_law_1214 : decode cL_law 1214 = .ok (.iload 4, 2) := by decide +kernel
theorem dL_law_1216 : decode cL_law 1216 = .ok (.iconst 2, 1) := by decide +kernel
theorem dL_law_1217 : decode cL_law 1217 = .ok (.iadd, 1) := by decide +kernel
theorem dL_law_1218 : decode cL_law 1218 = .ok (.iaload, 1) := by decide +kernel
theorem dL_law_1219 : decode cL_law 1219 = .ok (.aload_n 0, 1) := by decide +kernel
theorem dL_law_1220 : decode cL_law 1220 = .ok (.iload 4, 2) := by decide +kernel
theorem dL_law_1222 : decode cL_law 1222 = .ok (.iconst 3, 1) := by decide +kernel
theorem dL_law_1223 : decode cL_law 1223 = .ok (.iadd, 1) := by decide +kernel
theorem dL_law_1224 : decode cL_law 1224 = .ok (.iaload, 1) := by decide +kernel
theorem dL_law_1225 : decode cL_law 1225 = .ok (.aload_n 3, 1) := by decide +kernel
theorem dL_law_1226 : decode cL_law 1226 = .ok (.invokestatic 159, 3) := by decide +kernel
theorem dL_law_1229 : decode cL_law 1229 = .ok (.istore 5, 2) := by decide +kernel
theorem dL_law_1231 : decode cL_law 1231 = .ok (.aload_n 2, 1) := by decide +kernel
theorem dL_law_1232 : decode cL_law 1232 = .ok (.aload_n 0, 1) := by decide +kernel
theorem dL_law_1233 : decode cL_law 1233 = .ok (.iload 4, 2) := by decide +kernel
theorem dL_law_1235 : decode cL_law 1235 = .ok (.iconst 1, 1) := by decide +kernel
theorem dL_law_1236 : decode cL_law 1236 = .ok (.iadd, 1) := by decide +kernel
theorem dL_law_1237 : decode cL_law 1237 = .ok (.iaload, 1) := by decide +kernel
theorem dL_law_1238 : decode cL_law 1238 = .ok (.aload_n 0, 1) := by decide +kernel
theorem dL_law_1239 : decode cL_law 1239 = .ok (.iload 4, 2) := by decide +kernel
theorem dL_law_1241 : decode cL_law 1241 = .ok (.iconst 2, 1) := by decide +kernel
theorem dL_law_1242 : decode cL_law 1242 = .ok (.iadd, 1) := by decide +kernel
theorem dL_law_1243 : decode cL_law 1243 = .ok (.iaload, 1) := by decide +kernel
theorem dL_law_1244 : decode cL_law 1244 = .ok (.aload_n 0, 1) := by decide +kernel
theorem dL_law_1245 : decode cL_law 1245 = .ok (.iload 4, 2) := by decide +kernel
theorem dL_law_1247 : decode cL_law 1247 = .ok (.iconst 3, 1) := by decide +kernel
theorem dL_law_1248 : decode cL_law 1248 = .ok (.iadd, 1) := by decide +kernel
theorem dL_law_1249 : decode cL_law 1249 = .ok (.iaload, 1) := by decide +kernel
theorem dL_law_1250 : decode cL_law 1250 = .ok (.invokevirtual 161, 3) := by decide +kernel
theorem dL_law_1253 : decode cL_law 1253 = .ok (.istore 6, 2) := by decide +kernel
theorem dL_law_1255 : decode cL_law 1255 = .ok (.aload_n 2, 1) := by decide +kernel
theorem dL_law_1256 : decode cL_law 1256 = .ok (.invokevirtual 99, 3) := by decide +kernel
theorem dL_law_1259 : decode cL_law 1259 = .ok (.iload 5, 2) := by decide +kernel
theorem dL_law_1261 : decode cL_law 1261 = .ok (.if_icmp .eq 5, 3) := by decide +kernel
theorem dL_law_1264 : decode cL_law 1264 = .ok (.iconst 0, 1) := by decide +kernel
theorem dL_law_1265 : decode cL_law 1265 = .ok (.ireturn, 1) := by decide +kernel
theorem dL_law_1266 : decode cL_law 1266 = .ok (.iload 5, 2) := by decide +kernel
theorem dL_law_1268 : decode cL_law 1268 = .ok (.ifCond .ne 15, 3) := by decide +kernel
theorem dL_law_1271 : decode cL_law 1271 = .ok (.aload_n 3, 1) := by decide +kernel
theorem dL_law_1272 : decode cL_law 1272 = .ok (.iconst 0, 1) := by decide +kernel
theorem dL_law_1273 : decode cL_law 1273 = .ok (.laload, 1) := by decide +kernel
theorem dL_law_1274 : decode cL_law 1274 = .ok (.iload 6, 2) := by decide +kernel
theorem dL_law_1276 : decode cL_law 1276 = .ok (.i2l, 1) := by decide +kernel
theorem dL_law_1277 : decode cL_law 1277 = .ok (.lcmp, 1) := by decide +kernel
theorem dL_law_1278 : decode cL_law 1278 = .ok (.ifCond .eq 5, 3) := by decide +kernel
theorem dL_law_1281 : decode cL_law 1281 = .ok (.iconst 0, 1) := by decide +kernel
theorem dL_law_1282 : decode cL_law 1282 = .ok (.ireturn, 1) := by decide +kernel
theorem dL_law_1283 : decode cL_law 1283 = .ok (.goto 491, 3) := by decide +kernel
theorem dL_law_1286 : decode cL_law 1286 = .ok (.aload_n 1, 1) := by decide +kernel
theorem dL_law_1287 : decode cL_law 1287 = .ok (.aload_n 0, 1) := by decide +kernel
theorem dL_law_1288 : decode cL_law 1288 = .ok (.iload 4, 2) := by decide +kernel
theorem dL_law_1290 : decode cL_law 1290 = .ok (.iconst 1, 1) := by decide +kernel
theorem dL_law_1291 : decode cL_law 1291 = .ok (.iadd, 1) := by decide +kernel
theorem dL_law_1292 : decode cL_law 1292 = .ok (.iaload, 1) := by decide +kernel
theorem dL_law_1293 : decode cL_law 1293 = .ok (.aload_n 0, 1) := by decide +kernel
theorem dL_law_1294 : decode cL_law 1294 = .ok (.iload 4, 2) := by decide +kernel
theorem dL_law_1296 : decode cL_law 1296 = .ok (.iconst 2, 1) := by decide +kernel
theorem dL_law_1297 : decode cL_law 1297 = .ok (.iadd, 1) := by decide +kernel
theorem dL_law_1298 : decode cL_law 1298 = .ok (.iaload, 1) := by decide +kernel
theorem dL_law_1299 : decode cL_law 1299 = .ok (.aload_n 3, 1) := by decide +kernel
theorem dL_law_1300 : decode cL_law 1300 = .ok (.invokestatic 162, 3) := by decide +kernel
theorem dL_law_1303 : decode cL_law 1303 = .ok (.istore 5, 2) := by decide +kernel
theorem dL_law_1305 : decode cL_law 1305 = .ok (.aload_n 2, 1) := by decide +kernel
theorem dL_law_1306 : decode cL_law 1306 = .ok (.aload_n 0, 1) := by decide +kernel
theorem dL_law_1307 : decode cL_law 1307 = .ok (.iload 4, 2) := by decide +kernel
theorem dL_law_1309 : decode cL_law 1309 = .ok (.iconst 1, 1) := by decide +kernel
theorem dL_law_1310 : decode cL_law 1310 = .ok (.iadd, 1) := by decide +kernel
theorem dL_law_1311 : decode cL_law 1311 = .ok (.iaload, 1) := by decide +kernel
theorem dL_law_1312 : decode cL_law 1312 = .ok (.aload_n 0, 1) := by decide +kernel
theorem dL_law_1313 : decode cL_law 1313 = .ok (.iload 4, 2) := by decide +kernel
theorem dL_law_1315 : decode cL_law 1315 = .ok (.iconst 2, 1) := by decide +kernel
theorem dL_law_1316 : decode cL_law 1316 = .ok (.iadd, 1) := by decide +kernel
theorem dL_law_1317 : decode cL_law 1317 = .ok (.iaload, 1) := by decide +kernel
theorem dL_law_1318 : decode cL_law 1318 = .ok (.invokevirtual 164, 3) := by decide +kernel
theorem dL_law_1321 : decode cL_law 1321 = .ok (.istore 6, 2) := by decide +kernel
theorem dL_law_1323 : decode cL_law 1323 = .ok (.aload_n 2, 1) := by decide +kernel
theorem dL_law_1324 : decode cL_law 1324 = .ok (.invokevirtual 99, 3) := by decide +kernel
theorem dL_law_1327 : decode cL_law 1327 = .ok (.iload 5, 2) := by decide +kernel
theorem dL_law_1329 : decode cL_law 1329 = .ok (.if_icmp .eq 5, 3) := by decide +kernel
theorem dL_law_1332 : decode cL_law 1332 = .ok (.iconst 0, 1) := by decide +kernel
theorem dL_law_1333 : decode cL_law 1333 = .ok (.ireturn, 1) := by decide +kernel
theorem dL_law_1334 : decode cL_law 1334 = .ok (.iload 5, 2) := by decide +kernel
theorem dL_law_1336 : decode cL_law 1336 = .ok (.ifCond .ne 15, 3) := by decide +kernel
theorem dL_law_1339 : decode cL_law 1339 = .ok (.aload_n 3, 1) := by decide +kernel
theorem dL_law_1340 : decode cL_law 1340 = .ok (.iconst 0, 1) := by decide +kernel
theorem dL_law_1341 : decode cL_law 1341 = .ok (.laload, 1) := by decide +kernel
theorem dL_law_1342 : decode cL_law 1342 = .ok (.iload 6, 2) := by decide +kernel
theorem dL_law_1344 : decode cL_law 1344 = .ok (.i2l, 1) := by decide +kernel
theorem dL_law_1345 : decode cL_law 1345 = .ok (.lcmp, 1) := by decide +kernel
theorem dL_law_1346 : decode cL_law 1346 = .ok (.ifCond .eq 5, 3) := by decide +kernel
theorem dL_law_1349 : decode cL_law 1349 = .ok (.iconst 0, 1) := by decide +kernel
theorem dL_law_1350 : decode cL_law 1350 = .ok (.ireturn, 1) := by decide +kernel
theorem dL_law_1351 : decode cL_law 1351 = .ok (.goto 423, 3) := by decide +kernel
theorem dL_law_1354 : decode cL_law 1354 = .ok (.aload_n 1, 1) := by decide +kernel
theorem dL_law_1355 : decode cL_law 1355 = .ok (.aload_n 0, 1) := by decide +kernel
theorem dL_law_1356 : decode cL_law 1356 = .ok (.iload 4, 2) := by decide +kernel
theorem dL_law_1358 : decode cL_law 1358 = .ok (.iconst 1, 1) := by decide +kernel
theorem dL_law_1359 : decode cL_law 1359 = .ok (.iadd, 1) := by decide +kernel
theorem dL_law_1360 : decode cL_law 1360 = .ok (.iaload, 1) := by decide +kernel
theorem dL_law_1361 : decode cL_law 1361 = .ok (.aload_n 0, 1) := by decide +kernel
theorem dL_law_1362 : decode cL_law 1362 = .ok (.iload 4, 2) := by decide +kernel
theorem dL_law_1364 : decode cL_law 1364 = .ok (.iconst 2, 1) := by decide +kernel
theorem dL_law_1365 : decode cL_law 1365 = .ok (.iadd, 1) := by decide +kernel
theorem dL_law_1366 : decode cL_law 1366 = .ok (.iaload, 1) := by decide +kernel
theorem dL_law_1367 : decode cL_law 1367 = .ok (.aload_n 3, 1) := by decide +kernel
theorem dL_law_1368 : decode cL_law 1368 = .ok (.invokestatic 165, 3) := by decide +kernel
theorem dL_law_1371 : decode cL_law 1371 = .ok (.istore 5, 2) := by decide +kernel
theorem dL_law_1373 : decode cL_law 1373 = .ok (.aload_n 2, 1) := by decide +kernel
theorem dL_law_1374 : decode cL_law 1374 = .ok (.aload_n 0, 1) := by decide +kernel
theorem dL_law_1375 : decode cL_law 1375 = .ok (.iload 4, 2) := by decide +kernel
theorem dL_law_1377 : decode cL_law 1377 = .ok (.iconst 1, 1) := by decide +kernel
theorem dL_law_1378 : decode cL_law 1378 = .ok (.iadd, 1) := by decide +kernel
theorem dL_law_1379 : decode cL_law 1379 = .ok (.iaload, 1) := by decide +kernel
theorem dL_law_1380 : decode cL_law 1380 = .ok (.aload_n 0, 1) := by decide +kernel
theorem dL_law_1381 : decode cL_law 1381 = .ok (.iload 4, 2) := by decide +kernel
theorem dL_law_1383 : decode cL_law 1383 = .ok (.iconst 2, 1) := by decide +kernel
theorem dL_law_1384 : decode cL_law 1384 = .ok (.iadd, 1) := by decide +kernel
theorem dL_law_1385 : decode cL_law 1385 = .ok (.iaload, 1) := by decide +kernel
theorem dL_law_1386 : decode cL_law 1386 = .ok (.invokevirtual 167, 3) := by decide +kernel
theorem dL_law_1389 : decode cL_law 1389 = .ok (.istore 6, 2) := by decide +kernel
theorem dL_law_1391 : decode cL_law 1391 = .ok (.aload_n 2, 1) := by decide +kernel
theorem dL_law_1392 : decode cL_law 1392 = .ok (.invokevirtual 99, 3) := by decide +kernel
theorem dL_law_1395 : decode cL_law 1395 = .ok (.iload 5, 2) := by decide +kernel
theorem dL_law_1397 : decode cL_law 1397 = .ok (.if_icmp .eq 5, 3) := by decide +kernel
theorem dL_law_1400 : decode cL_law 1400 = .ok (.iconst 0, 1) := by decide +kernel
theorem dL_law_1401 : decode cL_law 1401 = .ok (.ireturn, 1) := by decide +kernel
theorem dL_law_1402 : decode cL_law 1402 = .ok (.iload 5, 2) := by decide +kernel
theorem dL_law_1404 : decode cL_law 1404 = .ok (.ifCond .ne 15, 3) := by decide +kernel
theorem dL_law_1407 : decode cL_law 1407 = .ok (.aload_n 3, 1) := by decide +kernel
theorem dL_law_1408 : decode cL_law 1408 = .ok (.iconst 0, 1) := by decide +kernel
theorem dL_law_1409 : decode cL_law 1409 = .ok (.laload, 1) := by decide +kernel
theorem dL_law_1410 : decode cL_law 1410 = .ok (.iload 6, 2) := by decide +kernel
theorem dL_law_1412 : decode cL_law 1412 = .ok (.i2l, 1) := by decide +kernel
theorem dL_law_1413 : decode cL_law 1413 = .ok (.lcmp, 1) := by decide +kernel
theorem dL_law_1414 : decode cL_law 1414 = .ok (.ifCond .eq 5, 3) := by decide +kernel
theorem dL_law_1417 : decode cL_law 1417 = .ok (.iconst 0, 1) := by decide +kernel
theorem dL_law_1418 : decode cL_law 1418 = .ok (.ireturn, 1) := by decide +kernel
theorem dL_law_1419 : decode cL_law 1419 = .ok (.goto 355, 3) := by decide +kernel
theorem dL_law_1422 : decode cL_law 1422 = .ok (.aload_n 1, 1) := by decide +kernel
theorem dL_law_1423 : decode cL_law 1423 = .ok (.aload_n 0, 1) := by decide +kernel
theorem dL_law_1424 : decode cL_law 1424 = .ok (.iload 4, 2) := by decide +kernel
theorem dL_law_1426 : decode cL_law 1426 = .ok (.iconst 1, 1) := by decide +kernel
theorem dL_law_1427 : decode cL_law 1427 = .ok (.iadd, 1) := by decide +kernel
theorem dL_law_1428 : decode cL_law 1428 = .ok (.iaload, 1) := by decide +kernel
theorem dL_law_1429 : decode cL_law 1429 = .ok (.aload_n 3, 1) := by decide +kernel
theorem dL_law_1430 : decode cL_law 1430 = .ok (.invokestatic 168, 3) := by decide +kernel
theorem dL_law_1433 : decode cL_law 1433 = .ok (.istore 5, 2) := by decide +kernel
theorem dL_law_1435 : decode cL_law 1435 = .ok (.aload_n 2, 1) := by decide +kernel
theorem dL_law_1436 : decode cL_law 1436 = .ok (.aload_n 0, 1) := by decide +kernel
theorem dL_law_1437 : decode cL_law 1437 = .ok (.iload 4, 2) := by decide +kernel
theorem dL_law_1439 : decode cL_law 1439 = .ok (.iconst 1, 1) := by decide +kernel
theorem dL_law_1440 : decode cL_law 1440 = .ok (.iadd, 1) := by decide +kernel
theorem dL_law_1441 : decode cL_law 1441 = .ok (.iaload, 1) := by decide +kernel
theorem dL_law_1442 : decode cL_law 1442 = .ok (.invokevirtual 170, 3) := by decide +kernel
theorem dL_law_1445 : decode cL_law 1445 = .ok (.istore 6, 2) := by decide +kernel
theorem dL_law_1447 : decode cL_law 1447 = .ok (.aload_n 2, 1) := by decide +kernel
theorem dL_law_1448 : decode cL_law 1448 = .ok (.invokevirtual 99, 3) := by decide +kernel
theorem dL_law_1451 : decode cL_law 1451 = .ok (.iload 5, 2) := by decide +kernel
theorem dL_law_1453 : decode cL_law 1453 = .ok (.if_icmp .eq 5, 3) := by decide +kernel
theorem dL_law_1456 : decode cL_law 1456 = .ok (.iconst 0, 1) := by decide +kernel
theorem dL_law_1457 : decode cL_law 1457 = .ok (.ireturn, 1) := by decide +kernel
theorem dL_law_1458 : decode cL_law 1458 = .ok (.iload 5, 2) := by decide +kernel
theorem dL_law_1460 : decode cL_law 1460 = .ok (.ifCond .ne 15, 3) := by decide +kernel
theorem dL_law_1463 : decode cL_law 1463 = .ok (.aload_n 3, 1) := by decide +kernel
theorem dL_law_1464 : decode cL_law 1464 = .ok (.iconst 0, 1) := by decide +kernel
theorem dL_law_1465 : decode cL_law 1465 = .ok (.laload, 1) := by decide +kernel
theorem dL_law_1466 : decode cL_law 1466 = .ok (.iload 6, 2) := by decide +kernel
theorem dL_law_1468 : decode cL_law 1468 = .ok (.i2l, 1) := by decide +kernel
theorem dL_law_1469 : decode cL_law 1469 = .ok (.lcmp, 1) := by decide +kernel
theorem dL_law_1470 : decode cL_law 1470 = .ok (.ifCond .eq 5, 3) := by decide +kernel
theorem dL_law_1473 : decode cL_law 1473 = .ok (.iconst 0, 1) := by decide +kernel
theorem dL_law_1474 : decode cL_law 1474 = .ok (.ireturn, 1) := by decide +kernel
theorem dL_law_1475 : decode cL_law 1475 = .ok (.goto 299, 3) := by decide +kernel
theorem dL_law_1478 : decode cL_law 1478 = .ok (.aload_n 1, 1) := by decide +kernel
theorem dL_law_1479 : decode cL_law 1479 = .ok (.aload_n 0, 1) := by decide +kernel
theorem dL_law_1480 : decode cL_law 1480 = .ok (.iload 4, 2) := by decide +kernel
theorem dL_law_1482 : decode cL_law 1482 = .ok (.iconst 1, 1) := by decide +kernel
theorem dL_law_1483 : decode cL_law 1483 = .ok (.iadd, 1) := by decide +kernel
theorem dL_law_1484 : decode cL_law 1484 = .ok (.iaload, 1) := by decide +kernel
theorem dL_law_1485 : decode cL_law 1485 = .ok (.aload_n 0, 1) := by decide +kernel
theorem dL_law_1486 : decode cL_law 1486 = .ok (.iload 4, 2) := by decide +kernel
theorem dL_law_1488 : decode cL_law 1488 = .ok (.iconst 2, 1) := by decide +kernel
theorem dL_law_1489 : decode cL_law 1489 = .ok (.iadd, 1) := by decide +kernel
theorem dL_law_1490 : decode cL_law 1490 = .ok (.iaload, 1) := by decide +kernel
theorem dL_law_1491 : decode cL_law 1491 = .ok (.aload_n 3, 1) := by decide +kernel
theorem dL_law_1492 : decode cL_law 1492 = .ok (.invokestatic 171, 3) := by decide +kernel
theorem dL_law_1495 : decode cL_law 1495 = .ok (.istore 5, 2) := by decide +kernel
theorem dL_law_1497 : decode cL_law 1497 = .ok (.aload_n 2, 1) := by decide +kernel
theorem dL_law_1498 : decode cL_law 1498 = .ok (.aload_n 0, 1) := by decide +kernel
theorem dL_law_1499 : decode cL_law 1499 = .ok (.iload 4, 2) := by decide +kernel
theorem dL_law_1501 : decode cL_law 1501 = .ok (.iconst 1, 1) := by decide +kernel
theorem dL_law_1502 : decode cL_law 1502 = .ok (.iadd, 1) := by decide +kernel
theorem dL_law_1503 : decode cL_law 1503 = .ok (.iaload, 1) := by decide +kernel
theorem dL_law_1504 : decode cL_law 1504 = .ok (.aload_n 0, 1) := by decide +kernel
theorem dL_law_1505 : decode cL_law 1505 = .ok (.iload 4, 2) := by decide +kernel
theorem dL_law_1507 : decode cL_law 1507 = .ok (.iconst 2, 1) := by decide +kernel
theorem dL_law_1508 : decode cL_law 1508 = .ok (.iadd, 1) := by decide +kernel
theorem dL_law_1509 : decode cL_law 1509 = .ok (.iaload, 1) := by decide +kernel
theorem dL_law_1510 : decode cL_law 1510 = .ok (.invokevirtual 173, 3) := by decide +kernel
theorem dL_law_1513 : decode cL_law 1513 = .ok (.istore 6, 2) := by decide +kernel
theorem dL_law_1515 : decode cL_law 1515 = .ok (.aload_n 2, 1) := by decide +kernel
theorem dL_law_1516 : decode cL_law 1516 = .ok (.invokevirtual 99, 3) := by decide +kernel
theorem dL_law_1519 : decode cL_law 1519 = .ok (.iload 5, 2) := by decide +kernel
theorem dL_law_1521 : decode cL_law 1521 = .ok (.if_icmp .eq 5, 3) := by decide +kernel
theorem dL_law_1524 : decode cL_law 1524 = .ok (.iconst 0, 1) := by decide +kernel
theorem dL_law_1525 : decode cL_law 1525 = .ok (.ireturn, 1) := by decide +kernel
theorem dL_law_1526 : decode cL_law 1526 = .ok (.iload 5, 2) := by decide +kernel
theorem dL_law_1528 : decode cL_law 1528 = .ok (.ifCond .ne 15, 3) := by decide +kernel
theorem dL_law_1531 : decode cL_law 1531 = .ok (.aload_n 3, 1) := by decide +kernel
theorem dL_law_1532 : decode cL_law 1532 = .ok (.iconst 0, 1) := by decide +kernel
theorem dL_law_1533 : decode cL_law 1533 = .ok (.laload, 1) := by decide +kernel
theorem dL_law_1534 : decode cL_law 1534 = .ok (.iload 6, 2) := by decide +kernel
theorem dL_law_1536 : decode cL_law 1536 = .ok (.i2l, 1) := by decide +kernel
theorem dL_law_1537 : decode cL_law 1537 = .ok (.lcmp, 1) := by decide +kernel
theorem dL_law_1538 : decode cL_law 1538 = .ok (.ifCond .eq 5, 3) := by decide +kernel
theorem dL_law_1541 : decode cL_law 1541 = .ok (.iconst 0, 1) := by decide +kernel
theorem dL_law_1542 : decode cL_law 1542 = .ok (.ireturn, 1) := by decide +kernel
theorem dL_law_1543 : decode cL_law 1543 = .ok (.goto 231, 3) := by decide +kernel
theorem dL_law_1546 : decode cL_law 1546 = .ok (.aload_n 1, 1) := by decide +kernel
theorem dL_law_1547 : decode cL_law 1547 = .ok (.aload_n 0, 1) := by decide +kernel
theorem dL_law_1548 : decode cL_law 1548 = .ok (.iload 4, 2) := by decide +kernel
theorem dL_law_1550 : decode cL_law 1550 = .ok (.iconst 1, 1) := by decide +kernel
theorem dL_law_1551 : decode cL_law 1551 = .ok (.iadd, 1) := by decide +kernel
theorem dL_law_1552 : decode cL_law 1552 = .ok (.iaload, 1) := by decide +kernel
theorem dL_law_1553 : decode cL_law 1553 = .ok (.aload_n 0, 1) := by decide +kernel
theorem dL_law_1554 : decode cL_law 1554 = .ok (.iload 4, 2) := by decide +kernel
theorem dL_law_1556 : decode cL_law 1556 = .ok (.iconst 2, 1) := by decide +kernel
theorem dL_law_1557 : decode cL_law 1557 = .ok (.iadd, 1) := by decide +kernel
theorem dL_law_1558 : decode cL_law 1558 = .ok (.iaload, 1) := by decide +kernel
theorem dL_law_1559 : decode cL_law 1559 = .ok (.aload_n 0, 1) := by decide +kernel
theorem dL_law_1560 : decode cL_law 1560 = .ok (.iload 4, 2) := by decide +kernel
theorem dL_law_1562 : decode cL_law 1562 = .ok (.iconst 3, 1) := by decide +kernel
theorem dL_law_1563 : decode cL_law 1563 = .ok (.iadd, 1) := by decide +kernel
theorem dL_law_1564 : decode cL_law 1564 = .ok (.iaload, 1) := by decide +kernel
theorem dL_law_1565 : decode cL_law 1565 = .ok (.aload_n 3, 1) := by decide +kernel
theorem dL_law_1566 : decode cL_law 1566 = .ok (.invokestatic 174, 3) := by decide +kernel
theorem dL_law_1569 : decode cL_law 1569 = .ok (.istore 5, 2) := by decide +kernel
theorem dL_law_1571 : decode cL_law 1571 = .ok (.aload_n 2, 1) := by decide +kernel
theorem dL_law_1572 : decode cL_law 1572 = .ok (.aload_n 0, 1) := by decide +kernel
theorem dL_law_1573 : decode cL_law 1573 = .ok (.iload 4, 2) := by decide +kernel
theorem dL_law_1575 : decode cL_law 1575 = .ok (.iconst 1, 1) := by decide +kernel
theorem dL_law_1576 : decode cL_law 1576 = .ok (.iadd, 1) := by decide +kernel
theorem dL_law_1577 : decode cL_law 1577 = .ok (.iaload, 1) := by decide +kernel
theorem dL_law_1578 : decode cL_law 1578 = .ok (.aload_n 0, 1) := by decide +kernel
theorem dL_law_1579 : decode cL_law 1579 = .ok (.iload 4, 2) := by decide +kernel
theorem dL_law_1581 : decode cL_law 1581 = .ok (.iconst 2, 1) := by decide +kernel
theorem dL_law_1582 : decode cL_law 1582 = .ok (.iadd, 1) := by decide +kernel
theorem dL_law_1583 : decode cL_law 1583 = .ok (.iaload, 1) := by decide +kernel
theorem dL_law_1584 : decode cL_law 1584 = .ok (.aload_n 0, 1) := by decide +kernel
theorem dL_law_1585 : decode cL_law 1585 = .ok (.iload 4, 2) := by decide +kernel
theorem dL_law_1587 : decode cL_law 1587 = .ok (.iconst 3, 1) := by decide +kernel
theorem dL_law_1588 : decode cL_law 1588 = .ok (.iadd, 1) := by decide +kernel
theorem dL_law_1589 : decode cL_law 1589 = .ok (.iaload, 1) := by decide +kernel
theorem dL_law_1590 : decode cL_law 1590 = .ok (.invokevirtual 176, 3) := by decide +kernel
theorem dL_law_1593 : decode cL_law 1593 = .ok (.istore 6, 2) := by decide +kernel
theorem dL_law_1595 : decode cL_law 1595 = .ok (.aload_n 2, 1) := by decide +kernel
theorem dL_law_1596 : decode cL_law 1596 = .ok (.invokevirtual 99, 3) := by decide +kernel
theorem dL_law_1599 : decode cL_law 1599 = .ok (.iload 5, 2) := by decide +kernel
theorem dL_law_1601 : decode cL_law 1601 = .ok (.if_icmp .eq 5, 3) := by decide +kernel
theorem dL_law_1604 : decode cL_law 1604 = .ok (.iconst 0, 1) := by decide +kernel
theorem dL_law_1605 : decode cL_law 1605 = .ok (.ireturn, 1) := by decide +kernel
theorem dL_law_1606 : decode cL_law 1606 = .ok (.iload 5, 2) := by decide +kernel
theorem dL_law_1608 : decode cL_law 1608 = .ok (.ifCond .ne 15, 3) := by decide +kernel
theorem dL_law_1611 : decode cL_law 1611 = .ok (.aload_n 3, 1) := by decide +kernel
theorem dL_law_1612 : decode cL_law 1612 = .ok (.iconst 0, 1) := by decide +kernel
theorem dL_law_1613 : decode cL_law 1613 = .ok (.laload, 1) := by decide +kernel
theorem dL_law_1614 : decode cL_law 1614 = .ok (.iload 6, 2) := by decide +kernel
theorem dL_law_1616 : decode cL_law 1616 = .ok (.i2l, 1) := by decide +kernel
theorem dL_law_1617 : decode cL_law 1617 = .ok (.lcmp, 1) := by decide +kernel
theorem dL_law_1618 : decode cL_law 1618 = .ok (.ifCond .eq 5, 3) := by decide +kernel
theorem dL_law_1621 : decode cL_law 1621 = .ok (.iconst 0, 1) := by decide +kernel
theorem dL_law_1622 : decode cL_law 1622 = .ok (.ireturn, 1) := by decide +kernel
theorem dL_law_1623 : decode cL_law 1623 = .ok (.goto 151, 3) := by decide +kernel
theorem dL_law_1626 : decode cL_law 1626 = .ok (.aload_n 1, 1) := by decide +kernel
theorem dL_law_1627 : decode cL_law 1627 = .ok (.invokevirtual 177, 3) := by decide +kernel
theorem dL_law_1630 : decode cL_law 1630 = .ok (.aload_n 2, 1) := by decide +kernel
theorem dL_law_1631 : decode cL_law 1631 = .ok (.invokevirtual 180, 3) := by decide +kernel
theorem dL_law_1634 : decode cL_law 1634 = .ok (.if_icmp .eq 140, 3) := by decide +kernel
theorem dL_law_1637 : decode cL_law 1637 = .ok (.iconst 0, 1) := by decide +kernel
theorem dL_law_1638 : decode cL_law 1638 = .ok (.ireturn, 1) := by decide +kernel
theorem dL_law_1639 : decode cL_law 1639 = .ok (.aload_n 1, 1) := by decide +kernel
theorem dL_law_1640 : decode cL_law 1640 = .ok (.aload_n 0, 1) := by decide +kernel
theorem dL_law_1641 : decode cL_law 1641 = .ok (.iload 4, 2) := by decide +kernel
theorem dL_law_1643 : decode cL_law 1643 = .ok (.iconst 1, 1) := by decide +kernel
theorem dL_law_1644 : decode cL_law 1644 = .ok (.iadd, 1) := by decide +kernel
theorem dL_law_1645 : decode cL_law 1645 = .ok (.iaload, 1) := by decide +kernel
theorem dL_law_1646 : decode cL_law 1646 = .ok (.aload_n 0, 1) := by decide +kernel
theorem dL_law_1647 : decode cL_law 1647 = .ok (.iload 4, 2) := by decide +kernel
theorem dL_law_1649 : decode cL_law 1649 = .ok (.iconst 2, 1) := by decide +kernel
theorem dL_law_1650 : decode cL_law 1650 = .ok (.iadd, 1) := by decide +kernel
theorem dL_law_1651 : decode cL_law 1651 = .ok (.iaload, 1) := by decide +kernel
theorem dL_law_1652 : decode cL_law 1652 = .ok (.aload_n 0, 1) := by decide +kernel
theorem dL_law_1653 : decode cL_law 1653 = .ok (.iload 4, 2) := by decide +kernel
theorem dL_law_1655 : decode cL_law 1655 = .ok (.iconst 3, 1) := by decide +kernel
theorem dL_law_1656 : decode cL_law 1656 = .ok (.iadd, 1) := by decide +kernel
theorem dL_law_1657 : decode cL_law 1657 = .ok (.iaload, 1) := by decide +kernel
theorem dL_law_1658 : decode cL_law 1658 = .ok (.aload_n 3, 1) := by decide +kernel
theorem dL_law_1659 : decode cL_law 1659 = .ok (.invokestatic 181, 3) := by decide +kernel
theorem dL_law_1662 : decode cL_law 1662 = .ok (.istore 5, 2) := by decide +kernel
theorem dL_law_1664 : decode cL_law 1664 = .ok (.aload_n 2, 1) := by decide +kernel
theorem dL_law_1665 : decode cL_law 1665 = .ok (.aload_n 0, 1) := by decide +kernel
theorem dL_law_1666 : decode cL_law 1666 = .ok (.iload 4, 2) := by decide +kernel
theorem dL_law_1668 : decode cL_law 1668 = .ok (.iconst 1, 1) := by decide +kernel
theorem dL_law_1669 : decode cL_law 1669 = .ok (.iadd, 1) := by decide +kernel
theorem dL_law_1670 : decode cL_law 1670 = .ok (.iaload, 1) := by decide +kernel
theorem dL_law_1671 : decode cL_law 1671 = .ok (.aload_n 0, 1) := by decide +kernel
theorem dL_law_1672 : decode cL_law 1672 = .ok (.iload 4, 2) := by decide +kernel
theorem dL_law_1674 : decode cL_law 1674 = .ok (.iconst 2, 1) := by decide +kernel
theorem dL_law_1675 : decode cL_law 1675 = .ok (.iadd, 1) := by decide +kernel
theorem dL_law_1676 : decode cL_law 1676 = .ok (.iaload, 1) := by decide +kernel
theorem dL_law_1677 : decode cL_law 1677 = .ok (.aload_n 0, 1) := by decide +kernel
theorem dL_law_1678 : decode cL_law 1678 = .ok (.iload 4, 2) := by decide +kernel
theorem dL_law_1680 : decode cL_law 1680 = .ok (.iconst 3, 1) := by decide +kernel
theorem dL_law_1681 : decode cL_law 1681 = .ok (.iadd, 1) := by decide +kernel
theorem dL_law_1682 : decode cL_law 1682 = .ok (.iaload, 1) := by decide +kernel
theorem dL_law_1683 : decode cL_law 1683 = .ok (.invokevirtual 183, 3) := by decide +kernel
theorem dL_law_1686 : decode cL_law 1686 = .ok (.istore 6, 2) := by decide +kernel
theorem dL_law_1688 : decode cL_law 1688 = .ok (.aload_n 2, 1) := by decide +kernel
theorem dL_law_1689 : decode cL_law 1689 = .ok (.invokevirtual 99, 3) := by decide +kernel
theorem dL_law_1692 : decode cL_law 1692 = .ok (.iload 5, 2) := by decide +kernel
theorem dL_law_1694 : decode cL_law 1694 = .ok (.if_icmp .eq 5, 3) := by decide +kernel
theorem dL_law_1697 : decode cL_law 1697 = .ok (.iconst 0, 1) := by decide +kernel
theorem dL_law_1698 : decode cL_law 1698 = .ok (.ireturn, 1) := by decide +kernel
theorem dL_law_1699 : decode cL_law 1699 = .ok (.iload 5, 2) := by decide +kernel
theorem dL_law_1701 : decode cL_law 1701 = .ok (.ifCond .ne 15, 3) := by decide +kernel
theorem dL_law_1704 : decode cL_law 1704 = .ok (.aload_n 3, 1) := by decide +kernel
theorem dL_law_1705 : decode cL_law 1705 = .ok (.iconst 0, 1) := by decide +kernel
theorem dL_law_1706 : decode cL_law 1706 = .ok (.laload, 1) := by decide +kernel
theorem dL_law_1707 : decode cL_law 1707 = .ok (.iload 6, 2) := by decide +kernel
theorem dL_law_1709 : decode cL_law 1709 = .ok (.i2l, 1) := by decide +kernel
theorem dL_law_1710 : decode cL_law 1710 = .ok (.lcmp, 1) := by decide +kernel
theorem dL_law_1711 : decode cL_law 1711 = .ok (.ifCond .eq 5, 3) := by decide +kernel
theorem dL_law_1714 : decode cL_law 1714 = .ok (.iconst 0, 1) := by decide +kernel
theorem dL_law_1715 : decode cL_law 1715 = .ok (.ireturn, 1) := by decide +kernel
theorem dL_law_1716 : decode cL_law 1716 = .ok (.goto 58, 3) := by decide +kernel
theorem dL_law_1719 : decode cL_law 1719 = .ok (.aload_n 1, 1) := by decide +kernel
theorem dL_law_1720 : decode cL_law 1720 = .ok (.invokevirtual 184, 3) := by decide +kernel
theorem dL_law_1723 : decode cL_law 1723 = .ok (.dstore 5, 2) := by decide +kernel
theorem dL_law_1725 : decode cL_law 1725 = .ok (.aload_n 2, 1) := by decide +kernel
theorem dL_law_1726 : decode cL_law 1726 = .ok (.invokevirtual 188, 3) := by decide +kernel
theorem dL_law_1729 : decode cL_law 1729 = .ok (.dstore 7, 2) := by decide +kernel
theorem dL_law_1731 : decode cL_law 1731 = .ok (.dload 5, 2) := by decide +kernel
theorem dL_law_1733 : decode cL_law 1733 = .ok (.dload 7, 2) := by decide +kernel
theorem dL_law_1735 : decode cL_law 1735 = .ok (.dcmp .l, 1) := by decide +kernel
theorem dL_law_1736 : decode cL_law 1736 = .ok (.ifCond .eq 21, 3) := by decide +kernel
theorem dL_law_1739 : decode cL_law 1739 = .ok (.dload 5, 2) := by decide +kernel
theorem dL_law_1741 : decode cL_law 1741 = .ok (.dload 5, 2) := by decide +kernel
theorem dL_law_1743 : decode cL_law 1743 = .ok (.dcmp .l, 1) := by decide +kernel
theorem dL_law_1744 : decode cL_law 1744 = .ok (.ifCond .eq 11, 3) := by decide +kernel
theorem dL_law_1747 : decode cL_law 1747 = .ok (.dload 7, 2) := by decide +kernel
theorem dL_law_1749 : decode cL_law 1749 = .ok (.dload 7, 2) := by decide +kernel
theorem dL_law_1751 : decode cL_law 1751 = .ok (.dcmp .l, 1) := by decide +kernel
theorem dL_law_1752 : decode cL_law 1752 = .ok (.ifCond .ne 5, 3) := by decide +kernel
theorem dL_law_1755 : decode cL_law 1755 = .ok (.iconst 0, 1) := by decide +kernel
theorem dL_law_1756 : decode cL_law 1756 = .ok (.ireturn, 1) := by decide +kernel
theorem dL_law_1757 : decode cL_law 1757 = .ok (.goto 17, 3) := by decide +kernel
theorem dL_law_1760 : decode cL_law 1760 = .ok (.aload_n 1, 1) := by decide +kernel
theorem dL_law_1761 : decode cL_law 1761 = .ok (.invokevirtual 189, 3) := by decide +kernel
theorem dL_law_1764 : decode cL_law 1764 = .ok (.aload_n 2, 1) := by decide +kernel
theorem dL_law_1765 : decode cL_law 1765 = .ok (.invokevirtual 193, 3) := by decide +kernel
theorem dL_law_1768 : decode cL_law 1768 = .ok (.lcmp, 1) := by decide +kernel
theorem dL_law_1769 : decode cL_law 1769 = .ok (.ifCond .eq 5, 3) := by decide +kernel
theorem dL_law_1772 : decode cL_law 1772 = .ok (.iconst 0, 1) := by decide +kernel
theorem dL_law_1773 : decode cL_law 1773 = .ok (.ireturn, 1) := by decide +kernel
theorem dL_law_1774 : decode cL_law 1774 = .ok (.iinc 4 5, 3) := by decide +kernel
theorem dL_law_1777 : decode cL_law 1777 = .ok (.goto (-1754), 3) := by decide +kernel
theorem dL_law_1780 : decode cL_law 1780 = .ok (.iconst 1, 1) := by decide +kernel
theorem dL_law_1781 : decode cL_law 1781 = .ok (.ireturn, 1) := by decide +kernel
