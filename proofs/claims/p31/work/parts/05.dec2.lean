theorem dX4_init_9 : decode cX4_init 9 = .ok (.putfield 9, 3) := by decide +kernel
theorem dX4_init_12 : decode cX4_init 12 = .ok (.aload_n 0, 1) := by decide +kernel
theorem dX4_init_13 : decode cX4_init 13 = .ok (.iconst 0, 1) := by decide +kernel
theorem dX4_init_14 : decode cX4_init 14 = .ok (.putfield 15, 3) := by decide +kernel
theorem dX4_init_17 : decode cX4_init 17 = .ok (.return_, 1) := by decide +kernel
theorem dX4_length_0 : decode cX4_length 0 = .ok (.aload_n 0, 1) := by decide +kernel
theorem dX4_length_1 : decode cX4_length 1 = .ok (.getfield 15, 3) := by decide +kernel
theorem dX4_length_4 : decode cX4_length 4 = .ok (.ireturn, 1) := by decide +kernel
theorem dX4_code_0 : decode cX4_code 0 = .ok (.iload_n 1, 1) := by decide +kernel
theorem dX4_code_1 : decode cX4_code 1 = .ok (.aload_n 0, 1) := by decide +kernel
theorem dX4_code_2 : decode cX4_code 2 = .ok (.getfield 15, 3) := by decide +kernel
theorem dX4_code_5 : decode cX4_code 5 = .ok (.if_icmp .ge 14, 3) := by decide +kernel
theorem dX4_code_8 : decode cX4_code 8 = .ok (.aload_n 0, 1) := by decide +kernel
theorem dX4_code_9 : decode cX4_code 9 = .ok (.getfield 9, 3) := by decide +kernel
theorem dX4_code_12 : decode cX4_code 12 = .ok (.iload_n 1, 1) := by decide +kernel
theorem dX4_code_13 : decode cX4_code 13 = .ok (.invokestatic 23, 3) := by decide +kernel
theorem dX4_code_16 : decode cX4_code 16 = .ok (.goto 4, 3) := by decide +kernel
theorem dX4_code_19 : decode cX4_code 19 = .ok (.iconst (-1), 1) := by decide +kernel
theorem dX4_code_20 : decode cX4_code 20 = .ok (.ireturn, 1) := by decide +kernel
theorem dX5_init_0 : decode cX5_init 0 = .ok (.aload_n 0, 1) := by decide +kernel
theorem dX5_init_1 : decode cX5_init 1 = .ok (.invokespecial 1, 3) := by decide +kernel
theorem dX5_init_4 : decode cX5_init 4 = .ok (.aload_n 0, 1) := by decide +kernel
theorem dX5_init_5 : decode cX5_init 5 = .ok (.new 7, 3) := by decide +kernel
theorem dX5_init_8 : decode cX5_init 8 = .ok (.dup, 1) := by decide +kernel
theorem dX5_init_9 : decode cX5_init 9 = .ok (.invokespecial 9, 3) := by decide +kernel
theorem dX5_init_12 : decode cX5_init 12 = .ok (.putfield 10, 3) := by decide +kernel
theorem dX5_init_15 : decode cX5_init 15 = .ok (.aload_n 0, 1) := by decide +kernel
theorem dX5_init_16 : decode cX5_init 16 = .ok (.new 16, 3) := by decide +kernel
theorem dX5_init_19 : decode cX5_init 19 = .ok (.dup, 1) := by decide +kernel
theorem dX5_init_20 : decode cX5_init 20 = .ok (.invokespecial 18, 3) := by decide +kernel
theorem dX5_init_23 : decode cX5_init 23 = .ok (.putfield 19, 3) := by decide +kernel
theorem dX5_init_26 : decode cX5_init 26 = .ok (.aload_n 0, 1) := by decide +kernel
theorem dX5_init_27 : decode cX5_init 27 = .ok (.new 23, 3) := by decide +kernel
theorem dX5_init_30 : decode cX5_init 30 = .ok (.dup, 1) := by decide +kernel
theorem dX5_init_31 : decode cX5_init 31 = .ok (.invokespecial 25, 3) := by decide +kernel
theorem dX5_init_34 : decode cX5_init 34 = .ok (.putfield 26, 3) := by decide +kernel
theorem dX5_init_37 : decode cX5_init 37 = .ok (.return_, 1) := by decide +kernel
theorem dX5_addNumber_0 : decode cX5_addNumber 0 = .ok (.iload_n 1, 1) := by decide +kernel
theorem dX5_addNumber_1 : decode cX5_addNumber 1 = .ok (.invokestatic 30, 3) := by decide +kernel
theorem dX5_addNumber_4 : decode cX5_addNumber 4 = .ok (.ifCond .eq 10, 3) := by decide +kernel
theorem dX5_addNumber_7 : decode cX5_addNumber 7 = .ok (.iload_n 2, 1) := by decide +kernel
theorem dX5_addNumber_8 : decode cX5_addNumber 8 = .ok (.invokestatic 34, 3) := by decide +kernel
theorem dX5_addNumber_11 : decode cX5_addNumber 11 = .ok (.ifCond .ne 13, 3) := by decide +kernel
theorem dX5_addNumber_14 : decode cX5_addNumber 14 = .ok (.new 37, 3) := by decide +kernel
theorem dX5_addNumber_17 : decode cX5_addNumber 17 = .ok (.dup, 1) := by decide +kernel
theorem dX5_addNumber_18 : decode cX5_addNumber 18 = .ok (.ldc 39, 2) := by decide +kernel
theorem dX5_addNumber_20 : decode cX5_addNumber 20 = .ok (.invokespecial 41, 3) := by decide +kernel
theorem dX5_addNumber_23 : decode cX5_addNumber 23 = .ok (.athrow, 1) := by decide +kernel
theorem dX5_addNumber_24 : decode cX5_addNumber 24 = .ok (.aload_n 0, 1) := by decide +kernel
theorem dX5_addNumber_25 : decode cX5_addNumber 25 = .ok (.getfield 10, 3) := by decide +kernel
theorem dX5_addNumber_28 : decode cX5_addNumber 28 = .ok (.getfield 44, 3) := by decide +kernel
theorem dX5_addNumber_31 : decode cX5_addNumber 31 = .ok (.iload_n 1, 1) := by decide +kernel
theorem dX5_addNumber_32 : decode cX5_addNumber 32 = .ok (.invokevirtual 48, 3) := by decide +kernel
theorem dX5_addNumber_35 : decode cX5_addNumber 35 = .ok (.ifCond .ne 13, 3) := by decide +kernel
theorem dX5_addNumber_38 : decode cX5_addNumber 38 = .ok (.new 53, 3) := by decide +kernel
theorem dX5_addNumber_41 : decode cX5_addNumber 41 = .ok (.dup, 1) := by decide +kernel
theorem dX5_addNumber_42 : decode cX5_addNumber 42 = .ok (.ldc 55, 2) := by decide +kernel
theorem dX5_addNumber_44 : decode cX5_addNumber 44 = .ok (.invokespecial 57, 3) := by decide +kernel
theorem dX5_addNumber_47 : decode cX5_addNumber 47 = .ok (.athrow, 1) := by decide +kernel
theorem dX5_addNumber_48 : decode cX5_addNumber 48 = .ok (.aload_n 0, 1) := by decide +kernel
theorem dX5_addNumber_49 : decode cX5_addNumber 49 = .ok (.getfield 19, 3) := by decide +kernel
theorem dX5_addNumber_52 : decode cX5_addNumber 52 = .ok (.aload_n 0, 1) := by decide +kernel
theorem dX5_addNumber_53 : decode cX5_addNumber 53 = .ok (.getfield 10, 3) := by decide +kernel
theorem dX5_addNumber_56 : decode cX5_addNumber 56 = .ok (.invokevirtual 58, 3) := by decide +kernel
theorem dX5_addNumber_59 : decode cX5_addNumber 59 = .ok (.aload_n 0, 1) := by decide +kernel
theorem dX5_addNumber_60 : decode cX5_addNumber 60 = .ok (.getfield 10, 3) := by decide +kernel
theorem dX5_addNumber_63 : decode cX5_addNumber 63 = .ok (.getfield 44, 3) := by decide +kernel
theorem dX5_addNumber_66 : decode cX5_addNumber 66 = .ok (.iload_n 1, 1) := by decide +kernel
theorem dX5_addNumber_67 : decode cX5_addNumber 67 = .ok (.iload_n 2, 1) := by decide +kernel
theorem dX5_addNumber_68 : decode cX5_addNumber 68 = .ok (.invokevirtual 62, 3) := by decide +kernel
theorem dX5_addNumber_71 : decode cX5_addNumber 71 = .ok (.ireturn, 1) := by decide +kernel
theorem dX5_addCopy_0 : decode cX5_addCopy 0 = .ok (.iload_n 1, 1) := by decide +kernel
theorem dX5_addCopy_1 : decode cX5_addCopy 1 = .ok (.invokestatic 30, 3) := by decide +kernel
theorem dX5_addCopy_4 : decode cX5_addCopy 4 = .ok (.ifCond .eq 17, 3) := by decide +kernel
theorem dX5_addCopy_7 : decode cX5_addCopy 7 = .ok (.iload_n 2, 1) := by decide +kernel
theorem dX5_addCopy_8 : decode cX5_addCopy 8 = .ok (.invokestatic 30, 3) := by decide +kernel
theorem dX5_addCopy_11 : decode cX5_addCopy 11 = .ok (.ifCond .eq 10, 3) := by decide +kernel
theorem dX5_addCopy_14 : decode cX5_addCopy 14 = .ok (.iload_n 3, 1) := by decide +kernel
theorem dX5_addCopy_15 : decode cX5_addCopy 15 = .ok (.invokestatic 66, 3) := by decide +kernel
theorem dX5_addCopy_18 : decode cX5_addCopy 18 = .ok (.ifCond .ne 13, 3) := by decide +kernel
theorem dX5_addCopy_21 : decode cX5_addCopy 21 = .ok (.new 37, 3) := by decide +kernel
theorem dX5_addCopy_24 : decode cX5_addCopy 24 = .ok (.dup, 1) := by decide +kernel
theorem dX5_addCopy_25 : decode cX5_addCopy 25 = .ok (.ldc 69, 2) := by decide +kernel
theorem dX5_addCopy_27 : decode cX5_addCopy 27 = .ok (.invokespecial 41, 3) := by decide +kernel
theorem dX5_addCopy_30 : decode cX5_addCopy 30 = .ok (.athrow, 1) := by decide +kernel
theorem dX5_addCopy_31 : decode cX5_addCopy 31 = .ok (.aload_n 0, 1) := by decide +kernel
theorem dX5_addCopy_32 : decode cX5_addCopy 32 = .ok (.getfield 10, 3) := by decide +kernel
theorem dX5_addCopy_35 : decode cX5_addCopy 35 = .ok (.getfield 44, 3) := by decide +kernel
theorem dX5_addCopy_38 : decode cX5_addCopy 38 = .ok (.iload_n 1, 1) := by decide +kernel
theorem dX5_addCopy_39 : decode cX5_addCopy 39 = .ok (.iload_n 2, 1) := by decide +kernel
theorem dX5_addCopy_40 : decode cX5_addCopy 40 = .ok (.iload_n 3, 1) := by decide +kernel
theorem dX5_addCopy_41 : decode cX5_addCopy 41 = .ok (.invokevirtual 71, 3) := by decide +kernel
theorem dX5_addCopy_44 : decode cX5_addCopy 44 = .ok (.ifCond .ne 13, 3) := by decide +kernel
theorem dX5_addCopy_47 : decode cX5_addCopy 47 = .ok (.new 53, 3) := by decide +kernel
theorem dX5_addCopy_50 : decode cX5_addCopy 50 = .ok (.dup, 1) := by decide +kernel
theorem dX5_addCopy_51 : decode cX5_addCopy 51 = .ok (.ldc 75, 2) := by decide +kernel
theorem dX5_addCopy_53 : decode cX5_addCopy 53 = .ok (.invokespecial 57, 3) := by decide +kernel
theorem dX5_addCopy_56 : decode cX5_addCopy 56 = .ok (.athrow, 1) := by decide +kernel
theorem dX5_addCopy_57 : decode cX5_addCopy 57 = .ok (.aload_n 0, 1) := by decide +kernel
theorem dX5_addCopy_58 : decode cX5_addCopy 58 = .ok (.getfield 19, 3) := by decide +kernel
theorem dX5_addCopy_61 : decode cX5_addCopy 61 = .ok (.aload_n 0, 1) := by decide +kernel
theorem dX5_addCopy_62 : decode cX5_addCopy 62 = .ok (.getfield 10, 3) := by decide +kernel
theorem dX5_addCopy_65 : decode cX5_addCopy 65 = .ok (.invokevirtual 58, 3) := by decide +kernel
theorem dX5_addCopy_68 : decode cX5_addCopy 68 = .ok (.aload_n 0, 1) := by decide +kernel
theorem dX5_addCopy_69 : decode cX5_addCopy 69 = .ok (.getfield 10, 3) := by decide +kernel
theorem dX5_addCopy_72 : decode cX5_addCopy 72 = .ok (.getfield 44, 3) := by decide +kernel
theorem dX5_addCopy_75 : decode cX5_addCopy 75 = .ok (.iload_n 1, 1) := by decide +kernel
theorem dX5_addCopy_76 : decode cX5_addCopy 76 = .ok (.iload_n 2, 1) := by decide +kernel
theorem dX5_addCopy_77 : decode cX5_addCopy 77 = .ok (.iload_n 3, 1) := by decide +kernel
theorem dX5_addCopy_78 : decode cX5_addCopy 78 = .ok (.invokevirtual 77, 3) := by decide +kernel
theorem dX5_addCopy_81 : decode cX5_addCopy 81 = .ok (.ireturn, 1) := by decide +kernel
theorem dX5_drop_0 : decode cX5_drop 0 = .ok (.iload_n 1, 1) := by decide +kernel
theorem dX5_drop_1 : decode cX5_drop 1 = .ok (.invokestatic 30, 3) := by decide +kernel
theorem dX5_drop_4 : decode cX5_drop 4 = .ok (.ifCond .eq 10, 3) := by decide +kernel
theorem dX5_drop_7 : decode cX5_drop 7 = .ok (.iload_n 2, 1) := by decide +kernel
theorem dX5_drop_8 : decode cX5_drop 8 = .ok (.invokestatic 34, 3) := by decide +kernel
theorem dX5_drop_11 : decode cX5_drop 11 = .ok (.ifCond .ne 13, 3) := by decide +kernel
theorem dX5_drop_14 : decode cX5_drop 14 = .ok (.new 37, 3) := by decide +kernel
theorem dX5_drop_17 : decode cX5_drop 17 = .ok (.dup, 1) := by decide +kernel
theorem dX5_drop_18 : decode cX5_drop 18 = .ok (.ldc 39, 2) := by decide +kernel
theorem dX5_drop_20 : decode cX5_drop 20 = .ok (.invokespecial 41, 3) := by decide +kernel
theorem dX5_drop_23 : decode cX5_drop 23 = .ok (.athrow, 1) := by decide +kernel
theorem dX5_drop_24 : decode cX5_drop 24 = .ok (.aload_n 0, 1) := by decide +kernel
theorem dX5_drop_25 : decode cX5_drop 25 = .ok (.getfield 10, 3) := by decide +kernel
theorem dX5_drop_28 : decode cX5_drop 28 = .ok (.getfield 44, 3) := by decide +kernel
theorem dX5_drop_31 : decode cX5_drop 31 = .ok (.iload_n 1, 1) := by decide +kernel
theorem dX5_drop_32 : decode cX5_drop 32 = .ok (.invokevirtual 81, 3) := by decide +kernel
theorem dX5_drop_35 : decode cX5_drop 35 = .ok (.ifCond .ne 13, 3) := by decide +kernel
theorem dX5_drop_38 : decode cX5_drop 38 = .ok (.new 53, 3) := by decide +kernel
theorem dX5_drop_41 : decode cX5_drop 41 = .ok (.dup, 1) := by decide +kernel
theorem dX5_drop_42 : decode cX5_drop 42 = .ok (.ldc 84, 2) := by decide +kernel
theorem dX5_drop_44 : decode cX5_drop 44 = .ok (.invokespecial 57, 3) := by decide +kernel
theorem dX5_drop_47 : decode cX5_drop 47 = .ok (.athrow, 1) := by decide +kernel
theorem dX5_drop_48 : decode cX5_drop 48 = .ok (.aload_n 0, 1) := by decide +kernel
theorem dX5_drop_49 : decode cX5_drop 49 = .ok (.getfield 19, 3) := by decide +kernel
theorem dX5_drop_52 : decode cX5_drop 52 = .ok (.aload_n 0, 1) := by decide +kernel
theorem dX5_drop_53 : decode cX5_drop 53 = .ok (.getfield 10, 3) := by decide +kernel
theorem dX5_drop_56 : decode cX5_drop 56 = .ok (.invokevirtual 58, 3) := by decide +kernel
theorem dX5_drop_59 : decode cX5_drop 59 = .ok (.aload_n 0, 1) := by decide +kernel
theorem dX5_drop_60 : decode cX5_drop 60 = .ok (.getfield 10, 3) := by decide +kernel
theorem dX5_drop_63 : decode cX5_drop 63 = .ok (.getfield 44, 3) := by decide +kernel
theorem dX5_drop_66 : decode cX5_drop 66 = .ok (.iload_n 1, 1) := by decide +kernel
theorem dX5_drop_67 : decode cX5_drop 67 = .ok (.iload_n 2, 1) := by decide +kernel
theorem dX5_drop_68 : decode cX5_drop 68 = .ok (.invokevirtual 86, 3) := by decide +kernel
theorem dX5_drop_71 : decode cX5_drop 71 = .ok (.ireturn, 1) := by decide +kernel
theorem dX5_rename_0 : decode cX5_rename 0 = .ok (.iload_n 1, 1) := by decide +kernel
theorem dX5_rename_1 : decode cX5_rename 1 = .ok (.invokestatic 30, 3) := by decide +kernel
theorem dX5_rename_4 : decode cX5_rename 4 = .ok (.ifCond .eq 10, 3) := by decide +kernel
theorem dX5_rename_7 : decode cX5_rename 7 = .ok (.iload_n 2, 1) := by decide +kernel
theorem dX5_rename_8 : decode cX5_rename 8 = .ok (.invokestatic 30, 3) := by decide +kernel
theorem dX5_rename_11 : decode cX5_rename 11 = .ok (.ifCond .ne 13, 3) := by decide +kernel
theorem dX5_rename_14 : decode cX5_rename 14 = .ok (.new 37, 3) := by decide +kernel
theorem dX5_rename_17 : decode cX5_rename 17 = .ok (.dup, 1) := by decide +kernel
theorem dX5_rename_18 : decode cX5_rename 18 = .ok (.ldc 69, 2) := by decide +kernel
theorem dX5_rename_20 : decode cX5_rename 20 = .ok (.invokespecial 41, 3) := by decide +kernel
theorem dX5_rename_23 : decode cX5_rename 23 = .ok (.athrow, 1) := by decide +kernel
theorem dX5_rename_24 : decode cX5_rename 24 = .ok (.aload_n 0, 1) := by decide +kernel
theorem dX5_rename_25 : decode cX5_rename 25 = .ok (.getfield 10, 3) := by decide +kernel
theorem dX5_rename_28 : decode cX5_rename 28 = .ok (.getfield 44, 3) := by decide +kernel
theorem dX5_rename_31 : decode cX5_rename 31 = .ok (.iload_n 1, 1) := by decide +kernel
theorem dX5_rename_32 : decode cX5_rename 32 = .ok (.iload_n 2, 1) := by decide +kernel
theorem dX5_rename_33 : decode cX5_rename 33 = .ok (.invokevirtual 89, 3) := by decide +kernel
theorem dX5_rename_36 : decode cX5_rename 36 = .ok (.ifCond .ne 13, 3) := by decide +kernel
theorem dX5_rename_39 : decode cX5_rename 39 = .ok (.new 53, 3) := by decide +kernel
theorem dX5_rename_42 : decode cX5_rename 42 = .ok (.dup, 1) := by decide +kernel
theorem dX5_rename_43 : decode cX5_rename 43 = .ok (.ldc 75, 2) := by decide +kernel
theorem dX5_rename_45 : decode cX5_rename 45 = .ok (.invokespecial 57, 3) := by decide +kernel
theorem dX5_rename_48 : decode cX5_rename 48 = .ok (.athrow, 1) := by decide +kernel
theorem dX5_rename_49 : decode cX5_rename 49 = .ok (.aload_n 0, 1) := by decide +kernel
theorem dX5_rename_50 : decode cX5_rename 50 = .ok (.getfield 19, 3) := by decide +kernel
theorem dX5_rename_53 : decode cX5_rename 53 = .ok (.aload_n 0, 1) := by decide +kernel
theorem dX5_rename_54 : decode cX5_rename 54 = .ok (.getfield 10, 3) := by decide +kernel
theorem dX5_rename_57 : decode cX5_rename 57 = .ok (.invokevirtual 58, 3) := by decide +kernel
theorem dX5_rename_60 : decode cX5_rename 60 = .ok (.aload_n 0, 1) := by decide +kernel
theorem dX5_rename_61 : decode cX5_rename 61 = .ok (.getfield 10, 3) := by decide +kernel
theorem dX5_rename_64 : decode cX5_rename 64 = .ok (.getfield 44, 3) := by decide +kernel
theorem dX5_rename_67 : decode cX5_rename 67 = .ok (.iload_n 1, 1) := by decide +kernel
theorem dX5_rename_68 : decode cX5_rename 68 = .ok (.iload_n 2, 1) := by decide +kernel
theorem dX5_rename_69 : decode cX5_rename 69 = .ok (.invokevirtual 93, 3) := by decide +kernel
theorem dX5_rename_72 : decode cX5_rename 72 = .ok (.ireturn, 1) := by decide +kernel
theorem dX5_insertBy_0 : decode cX5_insertBy 0 = .ok (.aload_n 0, 1) := by decide +kernel
theorem dX5_insertBy_1 : decode cX5_insertBy 1 = .ok (.getfield 10, 3) := by decide +kernel
theorem dX5_insertBy_4 : decode cX5_insertBy 4 = .ok (.getfield 44, 3) := by decide +kernel
theorem dX5_insertBy_7 : decode cX5_insertBy 7 = .ok (.iload_n 1, 1) := by decide +kernel
theorem dX5_insertBy_8 : decode cX5_insertBy 8 = .ok (.invokevirtual 116, 3) := by decide +kernel
theorem dX5_insertBy_11 : decode cX5_insertBy 11 = .ok (.ifCond .ne 13, 3) := by decide +kernel
theorem dX5_insertBy_14 : decode cX5_insertBy 14 = .ok (.new 119, 3) := by decide +kernel
theorem dX5_insertBy_17 : decode cX5_insertBy 17 = .ok (.dup, 1) := by decide +kernel
theorem dX5_insertBy_18 : decode cX5_insertBy 18 = .ok (.ldc 121, 2) := by decide +kernel
theorem dX5_insertBy_20 : decode cX5_insertBy 20 = .ok (.invokespecial 123, 3) := by decide +kernel
theorem dX5_insertBy_23 : decode cX5_insertBy 23 = .ok (.athrow, 1) := by decide +kernel
theorem dX5_insertBy_24 : decode cX5_insertBy 24 = .ok (.aload_n 0, 1) := by decide +kernel
theorem dX5_insertBy_25 : decode cX5_insertBy 25 = .ok (.getfield 10, 3) := by decide +kernel
theorem dX5_insertBy_28 : decode cX5_insertBy 28 = .ok (.getfield 96, 3) := by decide +kernel
theorem dX5_insertBy_31 : decode cX5_insertBy 31 = .ok (.invokevirtual 100, 3) := by decide +kernel
theorem dX5_insertBy_34 : decode cX5_insertBy 34 = .ok (.ifCond .eq 13, 3) := by decide +kernel
theorem dX5_insertBy_37 : decode cX5_insertBy 37 = .ok (.new 53, 3) := by decide +kernel
theorem dX5_insertBy_40 : decode cX5_insertBy 40 = .ok (.dup, 1) := by decide +kernel
theorem dX5_insertBy_41 : decode cX5_insertBy 41 = .ok (.ldc 106, 2) := by decide +kernel
theorem dX5_insertBy_43 : decode cX5_insertBy 43 = .ok (.invokespecial 57, 3) := by decide +kernel
theorem dX5_insertBy_46 : decode cX5_insertBy 46 = .ok (.athrow, 1) := by decide +kernel
theorem dX5_insertBy_47 : decode cX5_insertBy 47 = .ok (.aload_n 0, 1) := by decide +kernel
theorem dX5_insertBy_48 : decode cX5_insertBy 48 = .ok (.getfield 19, 3) := by decide +kernel
theorem dX5_insertBy_51 : decode cX5_insertBy 51 = .ok (.aload_n 0, 1) := by decide +kernel
theorem dX5_insertBy_52 : decode cX5_insertBy 52 = .ok (.getfield 10, 3) := by decide +kernel
theorem dX5_insertBy_55 : decode cX5_insertBy 55 = .ok (.invokevirtual 58, 3) := by decide +kernel
theorem dX5_insertBy_58 : decode cX5_insertBy 58 = .ok (.aload_n 0, 1) := by decide +kernel
theorem dX5_insertBy_59 : decode cX5_insertBy 59 = .ok (.getfield 10, 3) := by decide +kernel
theorem dX5_insertBy_62 : decode cX5_insertBy 62 = .ok (.getfield 96, 3) := by decide +kernel
theorem dX5_insertBy_65 : decode cX5_insertBy 65 = .ok (.iload_n 1, 1) := by decide +kernel
theorem dX5_insertBy_66 : decode cX5_insertBy 66 = .ok (.invokevirtual 112, 3) := by decide +kernel
theorem dX5_insertBy_69 : decode cX5_insertBy 69 = .ok (.ireturn, 1) := by decide +kernel
theorem dX5_write_0 : decode cX5_write 0 = .ok (.aload_n 0, 1) := by decide +kernel
theorem dX5_write_1 : decode cX5_write 1 = .ok (.getfield 10, 3) := by decide +kernel
theorem dX5_write_4 : decode cX5_write 4 = .ok (.getfield 96, 3) := by decide +kernel
theorem dX5_write_7 : decode cX5_write 7 = .ok (.iload_n 1, 1) := by decide +kernel
theorem dX5_write_8 : decode cX5_write 8 = .ok (.invokevirtual 124, 3) := by decide +kernel
theorem dX5_write_11 : decode cX5_write 11 = .ok (.ifCond .eq 17, 3) := by decide +kernel
theorem dX5_write_14 : decode cX5_write 14 = .ok (.aload_n 0, 1) := by decide +kernel
theorem dX5_write_15 : decode cX5_write 15 = .ok (.getfield 10, 3) := by decide +kernel
theorem dX5_write_18 : decode cX5_write 18 = .ok (.getfield 44, 3) := by decide +kernel
theorem dX5_write_21 : decode cX5_write 21 = .ok (.iload_n 2, 1) := by decide +kernel
theorem dX5_write_22 : decode cX5_write 22 = .ok (.invokevirtual 116, 3) := by decide +kernel
theorem dX5_write_25 : decode cX5_write 25 = .ok (.ifCond .ne 13, 3) := by decide +kernel
theorem dX5_write_28 : decode cX5_write 28 = .ok (.new 119, 3) := by decide +kernel
theorem dX5_write_31 : decode cX5_write 31 = .ok (.dup, 1) := by decide +kernel
theorem dX5_write_32 : decode cX5_write 32 = .ok (.ldc 127, 2) := by decide +kernel
theorem dX5_write_34 : decode cX5_write 34 = .ok (.invokespecial 123, 3) := by decide +kernel
theorem dX5_write_37 : decode cX5_write 37 = .ok (.athrow, 1) := by decide +kernel
theorem dX5_write_38 : decode cX5_write 38 = .ok (.iload_n 3, 1) := by decide +kernel
theorem dX5_write_39 : decode cX5_write 39 = .ok (.invokestatic 30, 3) := by decide +kernel
theorem dX5_write_42 : decode cX5_write 42 = .ok (.ifCond .eq 11, 3) := by decide +kernel
theorem dX5_write_45 : decode cX5_write 45 = .ok (.iload 4, 2) := by decide +kernel
theorem dX5_write_47 : decode cX5_write 47 = .ok (.invokestatic 129, 3) := by decide +kernel
theorem dX5_write_50 : decode cX5_write 50 = .ok (.ifCond .ne 13, 3) := by decide +kernel
theorem dX5_write_53 : decode cX5_write 53 = .ok (.new 37, 3) := by decide +kernel
theorem dX5_write_56 : decode cX5_write 56 = .ok (.dup, 1) := by decide +kernel
theorem dX5_write_57 : decode cX5_write 57 = .ok (.ldc 132, 2) := by decide +kernel
theorem dX5_write_59 : decode cX5_write 59 = .ok (.invokespecial 41, 3) := by decide +kernel
theorem dX5_write_62 : decode cX5_write 62 = .ok (.athrow, 1) := by decide +kernel
theorem dX5_write_63 : decode cX5_write 63 = .ok (.aload_n 0, 1) := by decide +kernel
theorem dX5_write_64 : decode cX5_write 64 = .ok (.getfield 10, 3) := by decide +kernel
theorem dX5_write_67 : decode cX5_write 67 = .ok (.iload_n 1, 1) := by decide +kernel
theorem dX5_write_68 : decode cX5_write 68 = .ok (.iload_n 2, 1) := by decide +kernel
theorem dX5_write_69 : decode cX5_write 69 = .ok (.iload_n 3, 1) := by decide +kernel
theorem dX5_write_70 : decode cX5_write 70 = .ok (.invokevirtual 134, 3) := by decide +kernel
theorem dX5_write_73 : decode cX5_write 73 = .ok (.ifCond .eq 13, 3) := by decide +kernel
theorem dX5_write_76 : decode cX5_write 76 = .ok (.new 53, 3) := by decide +kernel
theorem dX5_write_79 : decode cX5_write 79 = .ok (.dup, 1) := by decide +kernel
theorem dX5_write_80 : decode cX5_write 80 = .ok (.ldc 137, 2) := by decide +kernel
theorem dX5_write_82 : decode cX5_write 82 = .ok (.invokespecial 57, 3) := by decide +kernel
theorem dX5_write_85 : decode cX5_write 85 = .ok (.athrow, 1) := by decide +kernel
theorem dX5_write_86 : decode cX5_write 86 = .ok (.aload_n 0, 1) := by decide +kernel
theorem dX5_write_87 : decode cX5_write 87 = .ok (.getfield 19, 3) := by decide +kernel
theorem dX5_write_90 : decode cX5_write 90 = .ok (.aload_n 0, 1) := by decide +kernel
theorem dX5_write_91 : decode cX5_write 91 = .ok (.getfield 10, 3) := by decide +kernel
theorem dX5_write_94 : decode cX5_write 94 = .ok (.invokevirtual 58, 3) := by decide +kernel
theorem dX5_write_97 : decode cX5_write 97 = .ok (.aload_n 0, 1) := by decide +kernel
theorem dX5_write_98 : decode cX5_write 98 = .ok (.getfield 10, 3) := by decide +kernel
theorem dX5_write_101 : decode cX5_write 101 = .ok (.iload_n 1, 1) := by decide +kernel
theorem dX5_write_102 : decode cX5_write 102 = .ok (.iload_n 2, 1) := by decide +kernel
theorem dX5_write_103 : decode cX5_write 103 = .ok (.iload_n 3, 1) := by decide +kernel
theorem dX5_write_104 : decode cX5_write 104 = .ok (.iload 4, 2) := by decide +kernel
theorem dX5_write_106 : decode cX5_write 106 = .ok (.invokevirtual 139, 3) := by decide +kernel
theorem dX5_write_109 : decode cX5_write 109 = .ok (.ireturn, 1) := by decide +kernel
theorem dX5_remove_0 : decode cX5_remove 0 = .ok (.aload_n 0, 1) := by decide +kernel
theorem dX5_remove_1 : decode cX5_remove 1 = .ok (.getfield 10, 3) := by decide +kernel
theorem dX5_remove_4 : decode cX5_remove 4 = .ok (.getfield 96, 3) := by decide +kernel
theorem dX5_remove_7 : decode cX5_remove 7 = .ok (.iload_n 1, 1) := by decide +kernel
theorem dX5_remove_8 : decode cX5_remove 8 = .ok (.invokevirtual 124, 3) := by decide +kernel
theorem dX5_remove_11 : decode cX5_remove 11 = .ok (.ifCond .ne 13, 3) := by decide +kernel
theorem dX5_remove_14 : decode cX5_remove 14 = .ok (.new 119, 3) := by decide +kernel
theorem dX5_remove_17 : decode cX5_remove 17 = .ok (.dup, 1) := by decide +kernel
theorem dX5_remove_18 : decode cX5_remove 18 = .ok (.ldc 143, 2) := by decide +kernel
theorem dX5_remove_20 : decode cX5_remove 20 = .ok (.invokespecial 123, 3) := by decide +kernel
theorem dX5_remove_23 : decode cX5_remove 23 = .ok (.athrow, 1) := by decide +kernel
theorem dX5_remove_24 : decode cX5_remove 24 = .ok (.aload_n 0, 1) := by decide +kernel
theorem dX5_remove_25 : decode cX5_remove 25 = .ok (.getfield 19, 3) := by decide +kernel
theorem dX5_remove_28 : decode cX5_remove 28 = .ok (.aload_n 0, 1) := by decide +kernel
theorem dX5_remove_29 : decode cX5_remove 29 = .ok (.getfield 10, 3) := by decide +kernel
theorem dX5_remove_32 : decode cX5_remove 32 = .ok (.invokevirtual 58, 3) := by decide +kernel
theorem dX5_remove_35 : decode cX5_remove 35 = .ok (.aload_n 0, 1) := by decide +kernel
theorem dX5_remove_36 : decode cX5_remove 36 = .ok (.getfield 10, 3) := by decide +kernel
theorem dX5_remove_39 : decode cX5_remove 39 = .ok (.getfield 96, 3) := by decide +kernel
theorem dX5_remove_42 : decode cX5_remove 42 = .ok (.iload_n 1, 1) := by decide +kernel
theorem dX5_remove_43 : decode cX5_remove 43 = .ok (.invokevirtual 145, 3) := by decide +kernel
theorem dX5_remove_46 : decode cX5_remove 46 = .ok (.ireturn, 1) := by decide +kernel
theorem dX5_goOn_0 : decode cX5_goOn 0 = .ok (.iload_n 1, 1) := by decide +kernel
theorem dX5_goOn_1 : decode cX5_goOn 1 = .ok (.iconst 1, 1) := by decide +kernel
theorem dX5_goOn_2 : decode cX5_goOn 2 = .ok (.if_icmp .lt 9, 3) := by decide +kernel
theorem dX5_goOn_5 : decode cX5_goOn 5 = .ok (.iload_n 1, 1) := by decide +kernel
theorem dX5_goOn_6 : decode cX5_goOn 6 = .ok (.bipush 12, 2) := by decide +kernel
theorem dX5_goOn_8 : decode cX5_goOn 8 = .ok (.if_icmp .le 13, 3) := by decide +kernel
theorem dX5_goOn_11 : decode cX5_goOn 11 = .ok (.new 37, 3) := by decide +kernel
theorem dX5_goOn_14 : decode cX5_goOn 14 = .ok (.dup, 1) := by decide +kernel
theorem dX5_goOn_15 : decode cX5_goOn 15 = .ok (.ldc 148, 2) := by decide +kernel
theorem dX5_goOn_17 : decode cX5_goOn 17 = .ok (.invokespecial 41, 3) := by decide +kernel
theorem dX5_goOn_20 : decode cX5_goOn 20 = .ok (.athrow, 1) := by decide +kernel
theorem dX5_goOn_21 : decode cX5_goOn 21 = .ok (.aload_n 0, 1) := by decide +kernel
theorem dX5_goOn_22 : decode cX5_goOn 22 = .ok (.getfield 19, 3) := by decide +kernel
theorem dX5_goOn_25 : decode cX5_goOn 25 = .ok (.aload_n 0, 1) := by decide +kernel
theorem dX5_goOn_26 : decode cX5_goOn 26 = .ok (.getfield 10, 3) := by decide +kernel
theorem dX5_goOn_29 : decode cX5_goOn 29 = .ok (.invokevirtual 58, 3) := by decide +kernel
theorem dX5_goOn_32 : decode cX5_goOn 32 = .ok (.aload_n 0, 1) := by decide +kernel
theorem dX5_goOn_33 : decode cX5_goOn 33 = .ok (.getfield 10, 3) := by decide +kernel
theorem dX5_goOn_36 : decode cX5_goOn 36 = .ok (.iload_n 1, 1) := by decide +kernel
theorem dX5_goOn_37 : decode cX5_goOn 37 = .ok (.invokevirtual 150, 3) := by decide +kernel
theorem dX5_goOn_40 : decode cX5_goOn 40 = .ok (.ireturn, 1) := by decide +kernel
theorem dX5_hold_0 : decode cX5_hold 0 = .ok (.iload_n 1, 1) := by decide +kernel
theorem dX5_hold_1 : decode cX5_hold 1 = .ok (.invokestatic 153, 3) := by decide +kernel
theorem dX5_hold_4 : decode cX5_hold 4 = .ok (.ifCond .eq 17, 3) := by decide +kernel
theorem dX5_hold_7 : decode cX5_hold 7 = .ok (.aload_n 0, 1) := by decide +kernel
theorem dX5_hold_8 : decode cX5_hold 8 = .ok (.getfield 10, 3) := by decide +kernel
theorem dX5_hold_11 : decode cX5_hold 11 = .ok (.getfield 44, 3) := by decide +kernel
theorem dX5_hold_14 : decode cX5_hold 14 = .ok (.iload_n 2, 1) := by decide +kernel
theorem dX5_hold_15 : decode cX5_hold 15 = .ok (.invokevirtual 116, 3) := by decide +kernel
theorem dX5_hold_18 : decode cX5_hold 18 = .ok (.ifCond .ne 13, 3) := by decide +kernel
theorem dX5_hold_21 : decode cX5_hold 21 = .ok (.new 119, 3) := by decide +kernel
theorem dX5_hold_24 : decode cX5_hold 24 = .ok (.dup, 1) := by decide +kernel
theorem dX5_hold_25 : decode cX5_hold 25 = .ok (.ldc 156, 2) := by decide +kernel
theorem dX5_hold_27 : decode cX5_hold 27 = .ok (.invokespecial 123, 3) := by decide +kernel
theorem dX5_hold_30 : decode cX5_hold 30 = .ok (.athrow, 1) := by decide +kernel
theorem dX5_hold_31 : decode cX5_hold 31 = .ok (.aload_n 0, 1) := by decide +kernel
theorem dX5_hold_32 : decode cX5_hold 32 = .ok (.getfield 19, 3) := by decide +kernel
theorem dX5_hold_35 : decode cX5_hold 35 = .ok (.aload_n 0, 1) := by decide +kernel
theorem dX5_hold_36 : decode cX5_hold 36 = .ok (.getfield 10, 3) := by decide +kernel
theorem dX5_hold_39 : decode cX5_hold 39 = .ok (.invokevirtual 58, 3) := by decide +kernel
theorem dX5_hold_42 : decode cX5_hold 42 = .ok (.aload_n 0, 1) := by decide +kernel
theorem dX5_hold_43 : decode cX5_hold 43 = .ok (.getfield 10, 3) := by decide +kernel
theorem dX5_hold_46 : decode cX5_hold 46 = .ok (.iload_n 1, 1) := by decide +kernel
theorem dX5_hold_47 : decode cX5_hold 47 = .ok (.iload_n 2, 1) := by decide +kernel
theorem dX5_hold_48 : decode cX5_hold 48 = .ok (.invokevirtual 158, 3) := by decide +kernel
theorem dX5_hold_51 : decode cX5_hold 51 = .ok (.ireturn, 1) := by decide +kernel
theorem dX5_retire_0 : decode cX5_retire 0 = .ok (.aload_n 0, 1) := by decide +kernel
theorem dX5_retire_1 : decode cX5_retire 1 = .ok (.getfield 10, 3) := by decide +kernel
theorem dX5_retire_4 : decode cX5_retire 4 = .ok (.getfield 44, 3) := by decide +kernel
theorem dX5_retire_7 : decode cX5_retire 7 = .ok (.iload_n 1, 1) := by decide +kernel
theorem dX5_retire_8 : decode cX5_retire 8 = .ok (.invokevirtual 116, 3) := by decide +kernel
theorem dX5_retire_11 : decode cX5_retire 11 = .ok (.ifCond .ne 13, 3) := by decide +kernel
theorem dX5_retire_14 : decode cX5_retire 14 = .ok (.new 119, 3) := by decide +kernel
theorem dX5_retire_17 : decode cX5_retire 17 = .ok (.dup, 1) := by decide +kernel
theorem dX5_retire_18 : decode cX5_retire 18 = .ok (.ldc 121, 2) := by decide +kernel
theorem dX5_retire_20 : decode cX5_retire 20 = .ok (.invokespecial 123, 3) := by decide +kernel
theorem dX5_retire_23 : decode cX5_retire 23 = .ok (.athrow, 1) := by decide +kernel
theorem dX5_retire_24 : decode cX5_retire 24 = .ok (.aload_n 0, 1) := by decide +kernel
theorem dX5_retire_25 : decode cX5_retire 25 = .ok (.getfield 10, 3) := by decide +kernel
theorem dX5_retire_28 : decode cX5_retire 28 = .ok (.invokevirtual 161, 3) := by decide +kernel
theorem dX5_retire_31 : decode cX5_retire 31 = .ok (.iload_n 1, 1) := by decide +kernel
theorem dX5_retire_32 : decode cX5_retire 32 = .ok (.if_icmp .ge 13, 3) := by decide +kernel
theorem dX5_retire_35 : decode cX5_retire 35 = .ok (.new 53, 3) := by decide +kernel
theorem dX5_retire_38 : decode cX5_retire 38 = .ok (.dup, 1) := by decide +kernel
theorem dX5_retire_39 : decode cX5_retire 39 = .ok (.ldc 164, 2) := by decide +kernel
theorem dX5_retire_41 : decode cX5_retire 41 = .ok (.invokespecial 57, 3) := by decide +kernel
theorem dX5_retire_44 : decode cX5_retire 44 = .ok (.athrow, 1) := by decide +kernel
theorem dX5_retire_45 : decode cX5_retire 45 = .ok (.aload_n 0, 1) := by decide +kernel
theorem dX5_retire_46 : decode cX5_retire 46 = .ok (.getfield 19, 3) := by decide +kernel
theorem dX5_retire_49 : decode cX5_retire 49 = .ok (.aload_n 0, 1) := by decide +kernel
theorem dX5_retire_50 : decode cX5_retire 50 = .ok (.getfield 10, 3) := by decide +kernel
theorem dX5_retire_53 : decode cX5_retire 53 = .ok (.invokevirtual 58, 3) := by decide +kernel
theorem dX5_retire_56 : decode cX5_retire 56 = .ok (.aload_n 0, 1) := by decide +kernel
theorem dX5_retire_57 : decode cX5_retire 57 = .ok (.getfield 10, 3) := by decide +kernel
theorem dX5_retire_60 : decode cX5_retire 60 = .ok (.getfield 44, 3) := by decide +kernel
theorem dX5_retire_63 : decode cX5_retire 63 = .ok (.iload_n 1, 1) := by decide +kernel
theorem dX5_retire_64 : decode cX5_retire 64 = .ok (.invokevirtual 166, 3) := by decide +kernel
theorem dX5_retire_67 : decode cX5_retire 67 = .ok (.ireturn, 1) := by decide +kernel
theorem dX5_undo_0 : decode cX5_undo 0 = .ok (.aload_n 0, 1) := by decide +kernel
theorem dX5_undo_1 : decode cX5_undo 1 = .ok (.getfield 19, 3) := by decide +kernel
theorem dX5_undo_4 : decode cX5_undo 4 = .ok (.invokevirtual 197, 3) := by decide +kernel
theorem dX5_undo_7 : decode cX5_undo 7 = .ok (.ifCond .ne 13, 3) := by decide +kernel
theorem dX5_undo_10 : decode cX5_undo 10 = .ok (.new 53, 3) := by decide +kernel
theorem dX5_undo_13 : decode cX5_undo 13 = .ok (.dup, 1) := by decide +kernel
theorem dX5_undo_14 : decode cX5_undo 14 = .ok (.ldc 200, 2) := by decide +kernel
theorem dX5_undo_16 : decode cX5_undo 16 = .ok (.invokespecial 57, 3) := by decide +kernel
theorem dX5_undo_19 : decode cX5_undo 19 = .ok (.athrow, 1) := by decide +kernel
theorem dX5_undo_20 : decode cX5_undo 20 = .ok (.aload_n 0, 1) := by decide +kernel
theorem dX5_undo_21 : decode cX5_undo 21 = .ok (.getfield 19, 3) := by decide +kernel
theorem dX5_undo_24 : decode cX5_undo 24 = .ok (.aload_n 0, 1) := by decide +kernel
theorem dX5_undo_25 : decode cX5_undo 25 = .ok (.getfield 10, 3) := by decide +kernel
theorem dX5_undo_28 : decode cX5_undo 28 = .ok (.invokevirtual 202, 3) := by decide +kernel
theorem dX5_undo_31 : decode cX5_undo 31 = .ok (.ireturn, 1) := by decide +kernel
theorem dX5_read_0 : decode cX5_read 0 = .ok (.aload_n 0, 1) := by decide +kernel
theorem dX5_read_1 : decode cX5_read 1 = .ok (.getfield 10, 3) := by decide +kernel
theorem dX5_read_4 : decode cX5_read 4 = .ok (.getfield 96, 3) := by decide +kernel
theorem dX5_read_7 : decode cX5_read 7 = .ok (.iload_n 1, 1) := by decide +kernel
theorem dX5_read_8 : decode cX5_read 8 = .ok (.invokevirtual 124, 3) := by decide +kernel
theorem dX5_read_11 : decode cX5_read 11 = .ok (.ifCond .eq 17, 3) := by decide +kernel
theorem dX5_read_14 : decode cX5_read 14 = .ok (.aload_n 0, 1) := by decide +kernel
theorem dX5_read_15 : decode cX5_read 15 = .ok (.getfield 10, 3) := by decide +kernel
theorem dX5_read_18 : decode cX5_read 18 = .ok (.getfield 44, 3) := by decide +kernel
theorem dX5_read_21 : decode cX5_read 21 = .ok (.iload_n 2, 1) := by decide +kernel
theorem dX5_read_22 : decode cX5_read 22 = .ok (.invokevirtual 116, 3) := by decide +kernel
theorem dX5_read_25 : decode cX5_read 25 = .ok (.ifCond .ne 13, 3) := by decide +kernel
theorem dX5_read_28 : decode cX5_read 28 = .ok (.new 119, 3) := by decide +kernel
theorem dX5_read_31 : decode cX5_read 31 = .ok (.dup, 1) := by decide +kernel
theorem dX5_read_32 : decode cX5_read 32 = .ok (.ldc 127, 2) := by decide +kernel
theorem dX5_read_34 : decode cX5_read 34 = .ok (.invokespecial 123, 3) := by decide +kernel
theorem dX5_read_37 : decode cX5_read 37 = .ok (.athrow, 1) := by decide +kernel
theorem dX5_read_38 : decode cX5_read 38 = .ok (.iload_n 3, 1) := by decide +kernel
theorem dX5_read_39 : decode cX5_read 39 = .ok (.invokestatic 30, 3) := by decide +kernel
theorem dX5_read_42 : decode cX5_read 42 = .ok (.ifCond .ne 13, 3) := by decide +kernel
theorem dX5_read_45 : decode cX5_read 45 = .ok (.new 37, 3) := by decide +kernel
theorem dX5_read_48 : decode cX5_read 48 = .ok (.dup, 1) := by decide +kernel
theorem dX5_read_49 : decode cX5_read 49 = .ok (.ldc 206, 2) := by decide +kernel
theorem dX5_read_51 : decode cX5_read 51 = .ok (.invokespecial 41, 3) := by decide +kernel
theorem dX5_read_54 : decode cX5_read 54 = .ok (.athrow, 1) := by decide +kernel
theorem dX5_read_55 : decode cX5_read 55 = .ok (.aload_n 0, 1) := by decide +kernel
theorem dX5_read_56 : decode cX5_read 56 = .ok (.getfield 10, 3) := by decide +kernel
theorem dX5_read_59 : decode cX5_read 59 = .ok (.iload_n 1, 1) := by decide +kernel
theorem dX5_read_60 : decode cX5_read 60 = .ok (.iload_n 2, 1) := by decide +kernel
theorem dX5_read_61 : decode cX5_read 61 = .ok (.iload_n 3, 1) := by decide +kernel
theorem dX5_read_62 : decode cX5_read 62 = .ok (.invokevirtual 208, 3) := by decide +kernel
theorem dX5_read_65 : decode cX5_read 65 = .ok (.ireturn, 1) := by decide +kernel
theorem dX5_shape_0 : decode cX5_shape 0 = .ok (.aload_n 0, 1) := by decide +kernel
theorem dX5_shape_1 : decode cX5_shape 1 = .ok (.getfield 10, 3) := by decide +kernel
theorem dX5_shape_4 : decode cX5_shape 4 = .ok (.getfield 44, 3) := by decide +kernel
theorem dX5_shape_7 : decode cX5_shape 7 = .ok (.iload_n 1, 1) := by decide +kernel
theorem dX5_shape_8 : decode cX5_shape 8 = .ok (.invokevirtual 216, 3) := by decide +kernel
theorem dX5_shape_11 : decode cX5_shape 11 = .ok (.ifCond .ne 13, 3) := by decide +kernel
theorem dX5_shape_14 : decode cX5_shape 14 = .ok (.new 119, 3) := by decide +kernel
theorem dX5_shape_17 : decode cX5_shape 17 = .ok (.dup, 1) := by decide +kernel
theorem dX5_shape_18 : decode cX5_shape 18 = .ok (.ldc 217, 2) := by decide +kernel
theorem dX5_shape_20 : decode cX5_shape 20 = .ok (.invokespecial 123, 3) := by decide +kernel
theorem dX5_shape_23 : decode cX5_shape 23 = .ok (.athrow, 1) := by decide +kernel
theorem dX5_shape_24 : decode cX5_shape 24 = .ok (.iload_n 2, 1) := by decide +kernel
theorem dX5_shape_25 : decode cX5_shape 25 = .ok (.ifCond .lt 9, 3) := by decide +kernel
theorem dX5_shape_28 : decode cX5_shape 28 = .ok (.iload_n 2, 1) := by decide +kernel
theorem dX5_shape_29 : decode cX5_shape 29 = .ok (.bipush 6, 2) := by decide +kernel
theorem dX5_shape_31 : decode cX5_shape 31 = .ok (.if_icmp .lt 13, 3) := by decide +kernel
theorem dX5_shape_34 : decode cX5_shape 34 = .ok (.new 37, 3) := by decide +kernel
theorem dX5_shape_37 : decode cX5_shape 37 = .ok (.dup, 1) := by decide +kernel
theorem dX5_shape_38 : decode cX5_shape 38 = .ok (.ldc 224, 2) := by decide +kernel
theorem dX5_shape_40 : decode cX5_shape 40 = .ok (.invokespecial 41, 3) := by decide +kernel
theorem dX5_shape_43 : decode cX5_shape 43 = .ok (.athrow, 1) := by decide +kernel
theorem dX5_shape_44 : decode cX5_shape 44 = .ok (.aload_n 0, 1) := by decide +kernel
theorem dX5_shape_45 : decode cX5_shape 45 = .ok (.getfield 10, 3) := by decide +kernel
theorem dX5_shape_48 : decode cX5_shape 48 = .ok (.iload_n 1, 1) := by decide +kernel
theorem dX5_shape_49 : decode cX5_shape 49 = .ok (.iload_n 2, 1) := by decide +kernel
theorem dX5_shape_50 : decode cX5_shape 50 = .ok (.invokevirtual 226, 3) := by decide +kernel
theorem dX5_shape_53 : decode cX5_shape 53 = .ok (.ireturn, 1) := by decide +kernel
theorem dX5_row_0 : decode cX5_row 0 = .ok (.aload_n 0, 1) := by decide +kernel
theorem dX5_row_1 : decode cX5_row 1 = .ok (.getfield 10, 3) := by decide +kernel
theorem dX5_row_4 : decode cX5_row 4 = .ok (.getfield 96, 3) := by decide +kernel
theorem dX5_row_7 : decode cX5_row 7 = .ok (.iload_n 1, 1) := by decide +kernel
theorem dX5_row_8 : decode cX5_row 8 = .ok (.invokevirtual 124, 3) := by decide +kernel
theorem dX5_row_11 : decode cX5_row 11 = .ok (.ifCond .ne 13, 3) := by decide +kernel
theorem dX5_row_14 : decode cX5_row 14 = .ok (.new 119, 3) := by decide +kernel
theorem dX5_row_17 : decode cX5_row 17 = .ok (.dup, 1) := by decide +kernel
theorem dX5_row_18 : decode cX5_row 18 = .ok (.ldc 143, 2) := by decide +kernel
theorem dX5_row_20 : decode cX5_row 20 = .ok (.invokespecial 123, 3) := by decide +kernel
theorem dX5_row_23 : decode cX5_row 23 = .ok (.athrow, 1) := by decide +kernel
theorem dX5_row_24 : decode cX5_row 24 = .ok (.iload_n 2, 1) := by decide +kernel
theorem dX5_row_25 : decode cX5_row 25 = .ok (.ifCond .lt 9, 3) := by decide +kernel
theorem dX5_row_28 : decode cX5_row 28 = .ok (.iload_n 2, 1) := by decide +kernel
theorem dX5_row_29 : decode cX5_row 29 = .ok (.bipush 6, 2) := by decide +kernel
theorem dX5_row_31 : decode cX5_row 31 = .ok (.if_icmp .lt 13, 3) := by decide +kernel
theorem dX5_row_34 : decode cX5_row 34 = .ok (.new 37, 3) := by decide +kernel
theorem dX5_row_37 : decode cX5_row 37 = .ok (.dup, 1) := by decide +kernel
theorem dX5_row_38 : decode cX5_row 38 = .ok (.ldc 224, 2) := by decide +kernel
theorem dX5_row_40 : decode cX5_row 40 = .ok (.invokespecial 41, 3) := by decide +kernel
theorem dX5_row_43 : decode cX5_row 43 = .ok (.athrow, 1) := by decide +kernel
theorem dX5_row_44 : decode cX5_row 44 = .ok (.aload_n 0, 1) := by decide +kernel
theorem dX5_row_45 : decode cX5_row 45 = .ok (.getfield 10, 3) := by decide +kernel
theorem dX5_row_48 : decode cX5_row 48 = .ok (.iload_n 1, 1) := by decide +kernel
theorem dX5_row_49 : decode cX5_row 49 = .ok (.iload_n 2, 1) := by decide +kernel
theorem dX5_row_50 : decode cX5_row 50 = .ok (.invokevirtual 229, 3) := by decide +kernel
theorem dX5_row_53 : decode cX5_row 53 = .ok (.ireturn, 1) := by decide +kernel
theorem dX5_count_0 : decode cX5_count 0 = .ok (.iload_n 1, 1) := by decide +kernel
theorem dX5_count_1 : decode cX5_count 1 = .ok (.ifCond .lt 9, 3) := by decide +kernel
theorem dX5_count_4 : decode cX5_count 4 = .ok (.iload_n 1, 1) := by decide +kernel
theorem dX5_count_5 : decode cX5_count 5 = .ok (.bipush 10, 2) := by decide +kernel
theorem dX5_count_7 : decode cX5_count 7 = .ok (.if_icmp .lt 13, 3) := by decide +kernel
theorem dX5_count_10 : decode cX5_count 10 = .ok (.new 37, 3) := by decide +kernel
theorem dX5_count_13 : decode cX5_count 13 = .ok (.dup, 1) := by decide +kernel
theorem dX5_count_14 : decode cX5_count 14 = .ok (.ldc 224, 2) := by decide +kernel
theorem dX5_count_16 : decode cX5_count 16 = .ok (.invokespecial 41, 3) := by decide +kernel
theorem dX5_count_19 : decode cX5_count 19 = .ok (.athrow, 1) := by decide +kernel
theorem dX5_count_20 : decode cX5_count 20 = .ok (.aload_n 0, 1) := by decide +kernel
theorem dX5_count_21 : decode cX5_count 21 = .ok (.iload_n 1, 1) := by decide +kernel
theorem dX5_count_22 : decode cX5_count 22 = .ok (.invokevirtual 232, 3) := by decide +kernel
theorem dX5_count_25 : decode cX5_count 25 = .ok (.ireturn, 1) := by decide +kernel
theorem dX5_lost_0 : decode cX5_lost 0 = .ok (.aload_n 0, 1) := by decide +kernel
theorem dX5_lost_1 : decode cX5_lost 1 = .ok (.getfield 10, 3) := by decide +kernel
theorem dX5_lost_4 : decode cX5_lost 4 = .ok (.getfield 96, 3) := by decide +kernel
theorem dX5_lost_7 : decode cX5_lost 7 = .ok (.iload_n 1, 1) := by decide +kernel
theorem dX5_lost_8 : decode cX5_lost 8 = .ok (.invokevirtual 124, 3) := by decide +kernel
theorem dX5_lost_11 : decode cX5_lost 11 = .ok (.ifCond .eq 17, 3) := by decide +kernel
theorem dX5_lost_14 : decode cX5_lost 14 = .ok (.aload_n 0, 1) := by decide +kernel
theorem dX5_lost_15 : decode cX5_lost 15 = .ok (.getfield 10, 3) := by decide +kernel
theorem dX5_lost_18 : decode cX5_lost 18 = .ok (.getfield 44, 3) := by decide +kernel
theorem dX5_lost_21 : decode cX5_lost 21 = .ok (.iload_n 2, 1) := by decide +kernel
theorem dX5_lost_22 : decode cX5_lost 22 = .ok (.invokevirtual 116, 3) := by decide +kernel
theorem dX5_lost_25 : decode cX5_lost 25 = .ok (.ifCond .ne 13, 3) := by decide +kernel
theorem dX5_lost_28 : decode cX5_lost 28 = .ok (.new 119, 3) := by decide +kernel
theorem dX5_lost_31 : decode cX5_lost 31 = .ok (.dup, 1) := by decide +kernel
theorem dX5_lost_32 : decode cX5_lost 32 = .ok (.ldc 127, 2) := by decide +kernel
theorem dX5_lost_34 : decode cX5_lost 34 = .ok (.invokespecial 123, 3) := by decide +kernel
theorem dX5_lost_37 : decode cX5_lost 37 = .ok (.athrow, 1) := by decide +kernel
theorem dX5_lost_38 : decode cX5_lost 38 = .ok (.aload_n 0, 1) := by decide +kernel
theorem dX5_lost_39 : decode cX5_lost 39 = .ok (.getfield 10, 3) := by decide +kernel
theorem dX5_lost_42 : decode cX5_lost 42 = .ok (.iload_n 1, 1) := by decide +kernel
theorem dX5_lost_43 : decode cX5_lost 43 = .ok (.iload_n 2, 1) := by decide +kernel
theorem dX5_lost_44 : decode cX5_lost 44 = .ok (.invokevirtual 235, 3) := by decide +kernel
theorem dX5_lost_47 : decode cX5_lost 47 = .ok (.ireturn, 1) := by decide +kernel
theorem dX5_against_0 : decode cX5_against 0 = .ok (.aload_n 0, 1) := by decide +kernel
theorem dX5_against_1 : decode cX5_against 1 = .ok (.getfield 10, 3) := by decide +kernel
theorem dX5_against_4 : decode cX5_against 4 = .ok (.getfield 96, 3) := by decide +kernel
theorem dX5_against_7 : decode cX5_against 7 = .ok (.iload_n 1, 1) := by decide +kernel
theorem dX5_against_8 : decode cX5_against 8 = .ok (.invokevirtual 124, 3) := by decide +kernel
theorem dX5_against_11 : decode cX5_against 11 = .ok (.ifCond .eq 17, 3) := by decide +kernel
theorem dX5_against_14 : decode cX5_against 14 = .ok (.aload_n 0, 1) := by decide +kernel
theorem dX5_against_15 : decode cX5_against 15 = .ok (.getfield 10, 3) := by decide +kernel
theorem dX5_against_18 : decode cX5_against 18 = .ok (.getfield 44, 3) := by decide +kernel
theorem dX5_against_21 : decode cX5_against 21 = .ok (.iload_n 2, 1) := by decide +kernel
theorem dX5_against_22 : decode cX5_against 22 = .ok (.invokevirtual 116, 3) := by decide +kernel
theorem dX5_against_25 : decode cX5_against 25 = .ok (.ifCond .ne 13, 3) := by decide +kernel
theorem dX5_against_28 : decode cX5_against 28 = .ok (.new 119, 3) := by decide +kernel
theorem dX5_against_31 : decode cX5_against 31 = .ok (.dup, 1) := by decide +kernel
theorem dX5_against_32 : decode cX5_against 32 = .ok (.ldc 127, 2) := by decide +kernel
theorem dX5_against_34 : decode cX5_against 34 = .ok (.invokespecial 123, 3) := by decide +kernel
theorem dX5_against_37 : decode cX5_against 37 = .ok (.athrow, 1) := by decide +kernel
theorem dX5_against_38 : decode cX5_against 38 = .ok (.iload_n 3, 1) := by decide +kernel
theorem dX5_against_39 : decode cX5_against 39 = .ok (.invokestatic 30, 3) := by decide +kernel
theorem dX5_against_42 : decode cX5_against 42 = .ok (.ifCond .ne 13, 3) := by decide +kernel
theorem dX5_against_45 : decode cX5_against 45 = .ok (.new 37, 3) := by decide +kernel
theorem dX5_against_48 : decode cX5_against 48 = .ok (.dup, 1) := by decide +kernel
theorem dX5_against_49 : decode cX5_against 49 = .ok (.ldc 206, 2) := by decide +kernel
theorem dX5_against_51 : decode cX5_against 51 = .ok (.invokespecial 41, 3) := by decide +kernel
theorem dX5_against_54 : decode cX5_against 54 = .ok (.athrow, 1) := by decide +kernel
theorem dX5_against_55 : decode cX5_against 55 = .ok (.aload_n 0, 1) := by decide +kernel
theorem dX5_against_56 : decode cX5_against 56 = .ok (.getfield 10, 3) := by decide +kernel
theorem dX5_against_59 : decode cX5_against 59 = .ok (.iload_n 1, 1) := by decide +kernel
theorem dX5_against_60 : decode cX5_against 60 = .ok (.iload_n 2, 1) := by decide +kernel
theorem dX5_against_61 : decode cX5_against 61 = .ok (.iload_n 3, 1) := by decide +kernel
theorem dX5_against_62 : decode cX5_against 62 = .ok (.invokevirtual 134, 3) := by decide +kernel
theorem dX5_against_65 : decode cX5_against 65 = .ok (.ireturn, 1) := by decide +kernel
theorem dX5_find_0 : decode cX5_find 0 = .ok (.aload_n 0, 1) := by decide +kernel
theorem dX5_find_1 : decode cX5_find 1 = .ok (.getfield 10, 3) := by decide +kernel
theorem dX5_find_4 : decode cX5_find 4 = .ok (.getfield 44, 3) := by decide +kernel
theorem dX5_find_7 : decode cX5_find 7 = .ok (.iload_n 1, 1) := by decide +kernel
theorem dX5_find_8 : decode cX5_find 8 = .ok (.invokevirtual 116, 3) := by decide +kernel
theorem dX5_find_11 : decode cX5_find 11 = .ok (.ifCond .ne 13, 3) := by decide +kernel
theorem dX5_find_14 : decode cX5_find 14 = .ok (.new 119, 3) := by decide +kernel
theorem dX5_find_17 : decode cX5_find 17 = .ok (.dup, 1) := by decide +kernel
theorem dX5_find_18 : decode cX5_find 18 = .ok (.ldc 121, 2) := by decide +kernel
theorem dX5_find_20 : decode cX5_find 20 = .ok (.invokespecial 123, 3) := by decide +kernel
theorem dX5_find_23 : decode cX5_find 23 = .ok (.athrow, 1) := by decide +kernel
theorem dX5_find_24 : decode cX5_find 24 = .ok (.iload_n 2, 1) := by decide +kernel
theorem dX5_find_25 : decode cX5_find 25 = .ok (.invokestatic 30, 3) := by decide +kernel
theorem dX5_find_28 : decode cX5_find 28 = .ok (.ifCond .eq 10, 3) := by decide +kernel
theorem dX5_find_31 : decode cX5_find 31 = .ok (.iload_n 3, 1) := by decide +kernel
theorem dX5_find_32 : decode cX5_find 32 = .ok (.invokestatic 129, 3) := by decide +kernel
theorem dX5_find_35 : decode cX5_find 35 = .ok (.ifCond .ne 13, 3) := by decide +kernel
theorem dX5_find_38 : decode cX5_find 38 = .ok (.new 37, 3) := by decide +kernel
theorem dX5_find_41 : decode cX5_find 41 = .ok (.dup, 1) := by decide +kernel
theorem dX5_find_42 : decode cX5_find 42 = .ok (.ldc 132, 2) := by decide +kernel
theorem dX5_find_44 : decode cX5_find 44 = .ok (.invokespecial 41, 3) := by decide +kernel
theorem dX5_find_47 : decode cX5_find 47 = .ok (.athrow, 1) := by decide +kernel
theorem dX5_find_48 : decode cX5_find 48 = .ok (.aload_n 0, 1) := by decide +kernel
theorem dX5_find_49 : decode cX5_find 49 = .ok (.getfield 10, 3) := by decide +kernel
theorem dX5_find_52 : decode cX5_find 52 = .ok (.iload_n 1, 1) := by decide +kernel
theorem dX5_find_53 : decode cX5_find 53 = .ok (.iload_n 2, 1) := by decide +kernel
theorem dX5_find_54 : decode cX5_find 54 = .ok (.iload_n 3, 1) := by decide +kernel
theorem dX5_find_55 : decode cX5_find 55 = .ok (.invokevirtual 241, 3) := by decide +kernel
theorem dX5_find_58 : decode cX5_find 58 = .ok (.ireturn, 1) := by decide +kernel
theorem dX5_freshShare_0 : decode cX5_freshShare 0 = .ok (.aload_n 0, 1) := by decide +kernel
theorem dX5_freshShare_1 : decode cX5_freshShare 1 = .ok (.getfield 10, 3) := by decide +kernel
theorem dX5_freshShare_4 : decode cX5_freshShare 4 = .ok (.getfield 96, 3) := by decide +kernel
theorem dX5_freshShare_7 : decode cX5_freshShare 7 = .ok (.invokevirtual 244, 3) := by decide +kernel
theorem dX5_freshShare_10 : decode cX5_freshShare 10 = .ok (.istore_n 1, 1) := by decide +kernel
theorem dX5_freshShare_11 : decode cX5_freshShare 11 = .ok (.iload_n 1, 1) := by decide +kernel
theorem dX5_freshShare_12 : decode cX5_freshShare 12 = .ok (.ifCond .ne 5, 3) := by decide +kernel
theorem dX5_freshShare_15 : decode cX5_freshShare 15 = .ok (.dconst 1, 1) := by decide +kernel
theorem dX5_freshShare_16 : decode cX5_freshShare 16 = .ok (.dreturn, 1) := by decide +kernel
theorem dX5_freshShare_17 : decode cX5_freshShare 17 = .ok (.iload_n 1, 1) := by decide +kernel
theorem dX5_freshShare_18 : decode cX5_freshShare 18 = .ok (.aload_n 0, 1) := by decide +kernel
theorem dX5_freshShare_19 : decode cX5_freshShare 19 = .ok (.getfield 10, 3) := by decide +kernel
theorem dX5_freshShare_22 : decode cX5_freshShare 22 = .ok (.invokevirtual 245, 3) := by decide +kernel
theorem dX5_freshShare_25 : decode cX5_freshShare 25 = .ok (.isub, 1) := by decide +kernel
theorem dX5_freshShare_26 : decode cX5_freshShare 26 = .ok (.i2d, 1) := by decide +kernel
theorem dX5_freshShare_27 : decode cX5_freshShare 27 = .ok (.iload_n 1, 1) := by decide +kernel
theorem dX5_freshShare_28 : decode cX5_freshShare 28 = .ok (.i2d, 1) := by decide +kernel
theorem dX5_freshShare_29 : decode cX5_freshShare 29 = .ok (.ddiv, 1) := by decide +kernel
theorem dX5_freshShare_30 : decode cX5_freshShare 30 = .ok (.dreturn, 1) := by decide +kernel
theorem dX5_digest_0 : decode cX5_digest 0 = .ok (.ldc2_w 248, 3) := by decide +kernel
theorem dX5_digest_3 : decode cX5_digest 3 = .ok (.lstore_n 1, 1) := by decide +kernel
theorem dX5_digest_4 : decode cX5_digest 4 = .ok (.iconst 0, 1) := by decide +kernel
theorem dX5_digest_5 : decode cX5_digest 5 = .ok (.istore_n 3, 1) := by decide +kernel
theorem dX5_digest_6 : decode cX5_digest 6 = .ok (.iload_n 3, 1) := by decide +kernel
theorem dX5_digest_7 : decode cX5_digest 7 = .ok (.bipush 10, 2) := by decide +kernel
theorem dX5_digest_9 : decode cX5_digest 9 = .ok (.if_icmp .ge 20, 3) := by decide +kernel
theorem dX5_digest_12 : decode cX5_digest 12 = .ok (.lload_n 1, 1) := by decide +kernel
theorem dX5_digest_13 : decode cX5_digest 13 = .ok (.aload_n 0, 1) := by decide +kernel
theorem dX5_digest_14 : decode cX5_digest 14 = .ok (.iload_n 3, 1) := by decide +kernel
theorem dX5_digest_15 : decode cX5_digest 15 = .ok (.invokevirtual 232, 3) := by decide +kernel
theorem dX5_digest_18 : decode cX5_digest 18 = .ok (.i2l, 1) := by decide +kernel
theorem dX5_digest_19 : decode cX5_digest 19 = .ok (.invokestatic 250, 3) := by decide +kernel
theorem dX5_digest_22 : decode cX5_digest 22 = .ok (.lstore_n 1, 1) := by decide +kernel
theorem dX5_digest_23 : decode cX5_digest 23 = .ok (.iinc 3 1, 3) := by decide +kernel
theorem dX5_digest_26 : decode cX5_digest 26 = .ok (.goto (-20), 3) := by decide +kernel
theorem dX5_digest_29 : decode cX5_digest 29 = .ok (.aload_n 0, 1) := by decide +kernel
theorem dX5_digest_30 : decode cX5_digest 30 = .ok (.lload_n 1, 1) := by decide +kernel
theorem dX5_digest_31 : decode cX5_digest 31 = .ok (.invokevirtual 254, 3) := by decide +kernel
theorem dX5_digest_34 : decode cX5_digest 34 = .ok (.lstore_n 1, 1) := by decide +kernel
theorem dX5_digest_35 : decode cX5_digest 35 = .ok (.iconst 0, 1) := by decide +kernel
theorem dX5_digest_36 : decode cX5_digest 36 = .ok (.istore_n 3, 1) := by decide +kernel
theorem dX5_digest_37 : decode cX5_digest 37 = .ok (.iload_n 3, 1) := by decide +kernel
theorem dX5_digest_38 : decode cX5_digest 38 = .ok (.aload_n 0, 1) := by decide +kernel
theorem dX5_digest_39 : decode cX5_digest 39 = .ok (.getfield 10, 3) := by decide +kernel
theorem dX5_digest_42 : decode cX5_digest 42 = .ok (.getfield 96, 3) := by decide +kernel
theorem dX5_digest_45 : decode cX5_digest 45 = .ok (.invokevirtual 244, 3) := by decide +kernel
theorem dX5_digest_48 : decode cX5_digest 48 = .ok (.if_icmp .ge 16, 3) := by decide +kernel
theorem dX5_digest_51 : decode cX5_digest 51 = .ok (.aload_n 0, 1) := by decide +kernel
theorem dX5_digest_52 : decode cX5_digest 52 = .ok (.lload_n 1, 1) := by decide +kernel
theorem dX5_digest_53 : decode cX5_digest 53 = .ok (.iload_n 3, 1) := by decide +kernel
theorem dX5_digest_54 : decode cX5_digest 54 = .ok (.invokevirtual 258, 3) := by decide +kernel
theorem dX5_digest_57 : decode cX5_digest 57 = .ok (.lstore_n 1, 1) := by decide +kernel
theorem dX5_digest_58 : decode cX5_digest 58 = .ok (.iinc 3 1, 3) := by decide +kernel
theorem dX5_digest_61 : decode cX5_digest 61 = .ok (.goto (-24), 3) := by decide +kernel
theorem dX5_digest_64 : decode cX5_digest 64 = .ok (.iconst 0, 1) := by decide +kernel
theorem dX5_digest_65 : decode cX5_digest 65 = .ok (.istore_n 3, 1) := by decide +kernel
theorem dX5_digest_66 : decode cX5_digest 66 = .ok (.iload_n 3, 1) := by decide +kernel
theorem dX5_digest_67 : decode cX5_digest 67 = .ok (.iconst 4, 1) := by decide +kernel
theorem dX5_digest_68 : decode cX5_digest 68 = .ok (.if_icmp .ge 23, 3) := by decide +kernel
theorem dX5_digest_71 : decode cX5_digest 71 = .ok (.lload_n 1, 1) := by decide +kernel
theorem dX5_digest_72 : decode cX5_digest 72 = .ok (.aload_n 0, 1) := by decide +kernel
theorem dX5_digest_73 : decode cX5_digest 73 = .ok (.getfield 10, 3) := by decide +kernel
theorem dX5_digest_76 : decode cX5_digest 76 = .ok (.iload_n 3, 1) := by decide +kernel
theorem dX5_digest_77 : decode cX5_digest 77 = .ok (.invokevirtual 213, 3) := by decide +kernel
theorem dX5_digest_80 : decode cX5_digest 80 = .ok (.i2l, 1) := by decide +kernel
theorem dX5_digest_81 : decode cX5_digest 81 = .ok (.invokestatic 250, 3) := by decide +kernel
theorem dX5_digest_84 : decode cX5_digest 84 = .ok (.lstore_n 1, 1) := by decide +kernel
theorem dX5_digest_85 : decode cX5_digest 85 = .ok (.iinc 3 1, 3) := by decide +kernel
theorem dX5_digest_88 : decode cX5_digest 88 = .ok (.goto (-22), 3) := by decide +kernel
theorem dX5_digest_91 : decode cX5_digest 91 = .ok (.lload_n 1, 1) := by decide +kernel
theorem dX5_digest_92 : decode cX5_digest 92 = .ok (.aload_n 0, 1) := by decide +kernel
theorem dX5_digest_93 : decode cX5_digest 93 = .ok (.getfield 10, 3) := by decide +kernel
theorem dX5_digest_96 : decode cX5_digest 96 = .ok (.invokevirtual 238, 3) := by decide +kernel
theorem dX5_digest_99 : decode cX5_digest 99 = .ok (.i2l, 1) := by decide +kernel
theorem dX5_digest_100 : decode cX5_digest 100 = .ok (.invokestatic 250, 3) := by decide +kernel
theorem dX5_digest_103 : decode cX5_digest 103 = .ok (.lstore_n 1, 1) := by decide +kernel
theorem dX5_digest_104 : decode cX5_digest 104 = .ok (.lload_n 1, 1) := by decide +kernel
theorem dX5_digest_105 : decode cX5_digest 105 = .ok (.aload_n 0, 1) := by decide +kernel
theorem dX5_digest_106 : decode cX5_digest 106 = .ok (.getfield 10, 3) := by decide +kernel
theorem dX5_digest_109 : decode cX5_digest 109 = .ok (.aload_n 0, 1) := by decide +kernel
theorem dX5_digest_110 : decode cX5_digest 110 = .ok (.getfield 10, 3) := by decide +kernel
theorem dX5_digest_113 : decode cX5_digest 113 = .ok (.getfield 44, 3) := by decide +kernel
theorem dX5_digest_116 : decode cX5_digest 116 = .ok (.invokevirtual 108, 3) := by decide +kernel
theorem dX5_digest_119 : decode cX5_digest 119 = .ok (.iconst 0, 1) := by decide +kernel
theorem dX5_digest_120 : decode cX5_digest 120 = .ok (.iconst 5, 1) := by decide +kernel
theorem dX5_digest_121 : decode cX5_digest 121 = .ok (.invokevirtual 241, 3) := by decide +kernel
theorem dX5_digest_124 : decode cX5_digest 124 = .ok (.i2l, 1) := by decide +kernel
theorem dX5_digest_125 : decode cX5_digest 125 = .ok (.invokestatic 250, 3) := by decide +kernel
theorem dX5_digest_128 : decode cX5_digest 128 = .ok (.lstore_n 1, 1) := by decide +kernel
theorem dX5_digest_129 : decode cX5_digest 129 = .ok (.lload_n 1, 1) := by decide +kernel
theorem dX5_digest_130 : decode cX5_digest 130 = .ok (.aload_n 0, 1) := by decide +kernel
theorem dX5_digest_131 : decode cX5_digest 131 = .ok (.invokevirtual 262, 3) := by decide +kernel
theorem dX5_digest_134 : decode cX5_digest 134 = .ok (.invokestatic 266, 3) := by decide +kernel
theorem dX5_digest_137 : decode cX5_digest 137 = .ok (.invokestatic 250, 3) := by decide +kernel
theorem dX5_digest_140 : decode cX5_digest 140 = .ok (.lstore_n 1, 1) := by decide +kernel
theorem dX5_digest_141 : decode cX5_digest 141 = .ok (.aload_n 0, 1) := by decide +kernel
theorem dX5_digest_142 : decode cX5_digest 142 = .ok (.lload_n 1, 1) := by decide +kernel
theorem dX5_digest_143 : decode cX5_digest 143 = .ok (.invokevirtual 270, 3) := by decide +kernel
theorem dX5_digest_146 : decode cX5_digest 146 = .ok (.lreturn, 1) := by decide +kernel
theorem dX5_counted_0 : decode cX5_counted 0 = .ok (.iload_n 1, 1) := by decide +kernel
theorem dX5_counted_1 : decode cX5_counted 1 = .ok (.tableswitch 154 0 8 #[51, 62, 73, 84, 92, 103, 114, 125, 146], 51) := by decide +kernel
theorem dX5_counted_52 : decode cX5_counted 52 = .ok (.aload_n 0, 1) := by decide +kernel
theorem dX5_counted_53 : decode cX5_counted 53 = .ok (.getfield 10, 3) := by decide +kernel
theorem dX5_counted_56 : decode cX5_counted 56 = .ok (.getfield 44, 3) := by decide +kernel
theorem dX5_counted_59 : decode cX5_counted 59 = .ok (.invokevirtual 273, 3) := by decide +kernel
theorem dX5_counted_62 : decode cX5_counted 62 = .ok (.ireturn, 1) := by decide +kernel
theorem dX5_counted_63 : decode cX5_counted 63 = .ok (.aload_n 0, 1) := by decide +kernel
theorem dX5_counted_64 : decode cX5_counted 64 = .ok (.getfield 10, 3) := by decide +kernel
theorem dX5_counted_67 : decode cX5_counted 67 = .ok (.getfield 44, 3) := by decide +kernel
theorem dX5_counted_70 : decode cX5_counted 70 = .ok (.invokevirtual 274, 3) := by decide +kernel
theorem dX5_counted_73 : decode cX5_counted 73 = .ok (.ireturn, 1) := by decide +kernel
theorem dX5_counted_74 : decode cX5_counted 74 = .ok (.aload_n 0, 1) := by decide +kernel
theorem dX5_counted_75 : decode cX5_counted 75 = .ok (.getfield 10, 3) := by decide +kernel
theorem dX5_counted_78 : decode cX5_counted 78 = .ok (.getfield 96, 3) := by decide +kernel
theorem dX5_counted_81 : decode cX5_counted 81 = .ok (.invokevirtual 244, 3) := by decide +kernel
theorem dX5_counted_84 : decode cX5_counted 84 = .ok (.ireturn, 1) := by decide +kernel
theorem dX5_counted_85 : decode cX5_counted 85 = .ok (.aload_n 0, 1) := by decide +kernel
theorem dX5_counted_86 : decode cX5_counted 86 = .ok (.getfield 10, 3) := by decide +kernel
theorem dX5_counted_89 : decode cX5_counted 89 = .ok (.invokevirtual 245, 3) := by decide +kernel
theorem dX5_counted_92 : decode cX5_counted 92 = .ok (.ireturn, 1) := by decide +kernel
theorem dX5_counted_93 : decode cX5_counted 93 = .ok (.aload_n 0, 1) := by decide +kernel
theorem dX5_counted_94 : decode cX5_counted 94 = .ok (.getfield 10, 3) := by decide +kernel
theorem dX5_counted_97 : decode cX5_counted 97 = .ok (.getfield 96, 3) := by decide +kernel
theorem dX5_counted_100 : decode cX5_counted 100 = .ok (.invokevirtual 277, 3) := by decide +kernel
theorem dX5_counted_103 : decode cX5_counted 103 = .ok (.ireturn, 1) := by decide +kernel
theorem dX5_counted_104 : decode cX5_counted 104 = .ok (.aload_n 0, 1) := by decide +kernel
theorem dX5_counted_105 : decode cX5_counted 105 = .ok (.getfield 10, 3) := by decide +kernel
theorem dX5_counted_108 : decode cX5_counted 108 = .ok (.getfield 96, 3) := by decide +kernel
theorem dX5_counted_111 : decode cX5_counted 111 = .ok (.invokevirtual 280, 3) := by decide +kernel
theorem dX5_counted_114 : decode cX5_counted 114 = .ok (.ireturn, 1) := by decide +kernel
theorem dX5_counted_115 : decode cX5_counted 115 = .ok (.aload_n 0, 1) := by decide +kernel
theorem dX5_counted_116 : decode cX5_counted 116 = .ok (.getfield 10, 3) := by decide +kernel
theorem dX5_counted_119 : decode cX5_counted 119 = .ok (.getfield 96, 3) := by decide +kernel
theorem dX5_counted_122 : decode cX5_counted 122 = .ok (.invokevirtual 283, 3) := by decide +kernel
theorem dX5_counted_125 : decode cX5_counted 125 = .ok (.ireturn, 1) := by decide +kernel
theorem dX5_counted_126 : decode cX5_counted 126 = .ok (.aload_n 0, 1) := by decide +kernel
theorem dX5_counted_127 : decode cX5_counted 127 = .ok (.getfield 10, 3) := by decide +kernel
theorem dX5_counted_130 : decode cX5_counted 130 = .ok (.getfield 44, 3) := by decide +kernel
theorem dX5_counted_133 : decode cX5_counted 133 = .ok (.aload_n 0, 1) := by decide +kernel
theorem dX5_counted_134 : decode cX5_counted 134 = .ok (.getfield 10, 3) := by decide +kernel
theorem dX5_counted_137 : decode cX5_counted 137 = .ok (.getfield 44, 3) := by decide +kernel
theorem dX5_counted_140 : decode cX5_counted 140 = .ok (.invokevirtual 108, 3) := by decide +kernel
theorem dX5_counted_143 : decode cX5_counted 143 = .ok (.invokevirtual 286, 3) := by decide +kernel
theorem dX5_counted_146 : decode cX5_counted 146 = .ok (.ireturn, 1) := by decide +kernel
theorem dX5_counted_147 : decode cX5_counted 147 = .ok (.aload_n 0, 1) := by decide +kernel
theorem dX5_counted_148 : decode cX5_counted 148 = .ok (.getfield 10, 3) := by decide +kernel
theorem dX5_counted_151 : decode cX5_counted 151 = .ok (.invokevirtual 161, 3) := by decide +kernel
theorem dX5_counted_154 : decode cX5_counted 154 = .ok (.ireturn, 1) := by decide +kernel
theorem dX5_counted_155 : decode cX5_counted 155 = .ok (.aload_n 0, 1) := by decide +kernel
theorem dX5_counted_156 : decode cX5_counted 156 = .ok (.getfield 19, 3) := by decide +kernel
theorem dX5_counted_159 : decode cX5_counted 159 = .ok (.invokevirtual 197, 3) := by decide +kernel
theorem dX5_counted_162 : decode cX5_counted 162 = .ok (.ireturn, 1) := by decide +kernel
theorem dX5_mixedShapes_0 : decode cX5_mixedShapes 0 = .ok (.lload_n 1, 1) := by decide +kernel
theorem dX5_mixedShapes_1 : decode cX5_mixedShapes 1 = .ok (.lstore_n 3, 1) := by decide +kernel
theorem dX5_mixedShapes_2 : decode cX5_mixedShapes 2 = .ok (.iconst 0, 1) := by decide +kernel
theorem dX5_mixedShapes_3 : decode cX5_mixedShapes 3 = .ok (.istore 5, 2) := by decide +kernel
theorem dX5_mixedShapes_5 : decode cX5_mixedShapes 5 = .ok (.iload 5, 2) := by decide +kernel
theorem dX5_mixedShapes_7 : decode cX5_mixedShapes 7 = .ok (.aload_n 0, 1) := by decide +kernel
theorem dX5_mixedShapes_8 : decode cX5_mixedShapes 8 = .ok (.getfield 10, 3) := by decide +kernel
theorem dX5_mixedShapes_11 : decode cX5_mixedShapes 11 = .ok (.getfield 44, 3) := by decide +kernel
theorem dX5_mixedShapes_14 : decode cX5_mixedShapes 14 = .ok (.invokevirtual 273, 3) := by decide +kernel
theorem dX5_mixedShapes_17 : decode cX5_mixedShapes 17 = .ok (.if_icmp .ge 105, 3) := by decide +kernel
theorem dX5_mixedShapes_20 : decode cX5_mixedShapes 20 = .ok (.iconst 0, 1) := by decide +kernel
theorem dX5_mixedShapes_21 : decode cX5_mixedShapes 21 = .ok (.istore 6, 2) := by decide +kernel
theorem dX5_mixedShapes_23 : decode cX5_mixedShapes 23 = .ok (.iload 6, 2) := by decide +kernel
theorem dX5_mixedShapes_25 : decode cX5_mixedShapes 25 = .ok (.bipush 6, 2) := by decide +kernel
theorem dX5_mixedShapes_27 : decode cX5_mixedShapes 27 = .ok (.if_icmp .ge 26, 3) := by decide +kernel
theorem dX5_mixedShapes_30 : decode cX5_mixedShapes 30 = .ok (.lload_n 3, 1) := by decide +kernel
theorem dX5_mixedShapes_31 : decode cX5_mixedShapes 31 = .ok (.aload_n 0, 1) := by decide +kernel
theorem dX5_mixedShapes_32 : decode cX5_mixedShapes 32 = .ok (.getfield 10, 3) := by decide +kernel
theorem dX5_mixedShapes_35 : decode cX5_mixedShapes 35 = .ok (.iload 5, 2) := by decide +kernel
theorem dX5_mixedShapes_37 : decode cX5_mixedShapes 37 = .ok (.iload 6, 2) := by decide +kernel
theorem dX5_mixedShapes_39 : decode cX5_mixedShapes 39 = .ok (.invokevirtual 226, 3) := by decide +kernel
theorem dX5_mixedShapes_42 : decode cX5_mixedShapes 42 = .ok (.i2l, 1) := by decide +kernel
theorem dX5_mixedShapes_43 : decode cX5_mixedShapes 43 = .ok (.invokestatic 250, 3) := by decide +kernel
theorem dX5_mixedShapes_46 : decode cX5_mixedShapes 46 = .ok (.lstore_n 3, 1) := by decide +kernel
theorem dX5_mixedShapes_47 : decode cX5_mixedShapes 47 = .ok (.iinc 6 1, 3) := by decide +kernel
theorem dX5_mixedShapes_50 : decode cX5_mixedShapes 50 = .ok (.goto (-27), 3) := by decide +kernel
theorem dX5_mixedShapes_53 : decode cX5_mixedShapes 53 = .ok (.iconst 0, 1) := by decide +kernel
theorem dX5_mixedShapes_54 : decode cX5_mixedShapes 54 = .ok (.istore 6, 2) := by decide +kernel
theorem dX5_mixedShapes_56 : decode cX5_mixedShapes 56 = .ok (.iload 6, 2) := by decide +kernel
theorem dX5_mixedShapes_58 : decode cX5_mixedShapes 58 = .ok (.aload_n 0, 1) := by decide +kernel
theorem dX5_mixedShapes_59 : decode cX5_mixedShapes 59 = .ok (.getfield 10, 3) := by decide +kernel
theorem dX5_mixedShapes_62 : decode cX5_mixedShapes 62 = .ok (.getfield 44, 3) := by decide +kernel
theorem dX5_mixedShapes_65 : decode cX5_mixedShapes 65 = .ok (.iload 5, 2) := by decide +kernel
theorem dX5_mixedShapes_67 : decode cX5_mixedShapes 67 = .ok (.invokevirtual 286, 3) := by decide +kernel
theorem dX5_mixedShapes_70 : decode cX5_mixedShapes 70 = .ok (.if_icmp .ge 46, 3) := by decide +kernel
theorem dX5_mixedShapes_73 : decode cX5_mixedShapes 73 = .ok (.iconst 0, 1) := by decide +kernel
theorem dX5_mixedShapes_74 : decode cX5_mixedShapes 74 = .ok (.istore 7, 2) := by decide +kernel
theorem dX5_mixedShapes_76 : decode cX5_mixedShapes 76 = .ok (.iload 7, 2) := by decide +kernel
theorem dX5_mixedShapes_78 : decode cX5_mixedShapes 78 = .ok (.iconst 3, 1) := by decide +kernel
theorem dX5_mixedShapes_79 : decode cX5_mixedShapes 79 = .ok (.if_icmp .ge 31, 3) := by decide +kernel
theorem dX5_mixedShapes_82 : decode cX5_mixedShapes 82 = .ok (.lload_n 3, 1) := by decide +kernel
theorem dX5_mixedShapes_83 : decode cX5_mixedShapes 83 = .ok (.aload_n 0, 1) := by decide +kernel
theorem dX5_mixedShapes_84 : decode cX5_mixedShapes 84 = .ok (.getfield 10, 3) := by decide +kernel
theorem dX5_mixedShapes_87 : decode cX5_mixedShapes 87 = .ok (.getfield 44, 3) := by decide +kernel
theorem dX5_mixedShapes_90 : decode cX5_mixedShapes 90 = .ok (.iload 5, 2) := by decide +kernel
theorem dX5_mixedShapes_92 : decode cX5_mixedShapes 92 = .ok (.iload 6, 2) := by decide +kernel
theorem dX5_mixedShapes_94 : decode cX5_mixedShapes 94 = .ok (.iload 7, 2) := by decide +kernel
theorem dX5_mixedShapes_96 : decode cX5_mixedShapes 96 = .ok (.invokevirtual 221, 3) := by decide +kernel
theorem dX5_mixedShapes_99 : decode cX5_mixedShapes 99 = .ok (.i2l, 1) := by decide +kernel
theorem dX5_mixedShapes_100 : decode cX5_mixedShapes 100 = .ok (.invokestatic 250, 3) := by decide +kernel
theorem dX5_mixedShapes_103 : decode cX5_mixedShapes 103 = .ok (.lstore_n 3, 1) := by decide +kernel
theorem dX5_mixedShapes_104 : decode cX5_mixedShapes 104 = .ok (.iinc 7 1, 3) := by decide +kernel
theorem dX5_mixedShapes_107 : decode cX5_mixedShapes 107 = .ok (.goto (-31), 3) := by decide +kernel
theorem dX5_mixedShapes_110 : decode cX5_mixedShapes 110 = .ok (.iinc 6 1, 3) := by decide +kernel
theorem dX5_mixedShapes_113 : decode cX5_mixedShapes 113 = .ok (.goto (-57), 3) := by decide +kernel
theorem dX5_mixedShapes_116 : decode cX5_mixedShapes 116 = .ok (.iinc 5 1, 3) := by decide +kernel
theorem dX5_mixedShapes_119 : decode cX5_mixedShapes 119 = .ok (.goto (-114), 3) := by decide +kernel
theorem dX5_mixedShapes_122 : decode cX5_mixedShapes 122 = .ok (.lload_n 3, 1) := by decide +kernel
theorem dX5_mixedShapes_123 : decode cX5_mixedShapes 123 = .ok (.lreturn, 1) := by decide +kernel
theorem dX5_mixedRow_0 : decode cX5_mixedRow 0 = .ok (.lload_n 1, 1) := by decide +kernel
theorem dX5_mixedRow_1 : decode cX5_mixedRow 1 = .ok (.lstore 4, 2) := by decide +kernel
theorem dX5_mixedRow_3 : decode cX5_mixedRow 3 = .ok (.iconst 0, 1) := by decide +kernel
theorem dX5_mixedRow_4 : decode cX5_mixedRow 4 = .ok (.istore 6, 2) := by decide +kernel
theorem dX5_mixedRow_6 : decode cX5_mixedRow 6 = .ok (.iload 6, 2) := by decide +kernel
theorem dX5_mixedRow_8 : decode cX5_mixedRow 8 = .ok (.bipush 6, 2) := by decide +kernel
theorem dX5_mixedRow_10 : decode cX5_mixedRow 10 = .ok (.if_icmp .ge 27, 3) := by decide +kernel
theorem dX5_mixedRow_13 : decode cX5_mixedRow 13 = .ok (.lload 4, 2) := by decide +kernel
theorem dX5_mixedRow_15 : decode cX5_mixedRow 15 = .ok (.aload_n 0, 1) := by decide +kernel
theorem dX5_mixedRow_16 : decode cX5_mixedRow 16 = .ok (.getfield 10, 3) := by decide +kernel
theorem dX5_mixedRow_19 : decode cX5_mixedRow 19 = .ok (.iload_n 3, 1) := by decide +kernel
theorem dX5_mixedRow_20 : decode cX5_mixedRow 20 = .ok (.iload 6, 2) := by decide +kernel
theorem dX5_mixedRow_22 : decode cX5_mixedRow 22 = .ok (.invokevirtual 229, 3) := by decide +kernel
theorem dX5_mixedRow_25 : decode cX5_mixedRow 25 = .ok (.i2l, 1) := by decide +kernel
theorem dX5_mixedRow_26 : decode cX5_mixedRow 26 = .ok (.invokestatic 250, 3) := by decide +kernel
theorem dX5_mixedRow_29 : decode cX5_mixedRow 29 = .ok (.lstore 4, 2) := by decide +kernel
theorem dX5_mixedRow_31 : decode cX5_mixedRow 31 = .ok (.iinc 6 1, 3) := by decide +kernel
theorem dX5_mixedRow_34 : decode cX5_mixedRow 34 = .ok (.goto (-28), 3) := by decide +kernel
theorem dX5_mixedRow_37 : decode cX5_mixedRow 37 = .ok (.aload_n 0, 1) := by decide +kernel
theorem dX5_mixedRow_38 : decode cX5_mixedRow 38 = .ok (.getfield 10, 3) := by decide +kernel
theorem dX5_mixedRow_41 : decode cX5_mixedRow 41 = .ok (.getfield 44, 3) := by decide +kernel
theorem dX5_mixedRow_44 : decode cX5_mixedRow 44 = .ok (.invokevirtual 274, 3) := by decide +kernel
theorem dX5_mixedRow_47 : decode cX5_mixedRow 47 = .ok (.istore 6, 2) := by decide +kernel
theorem dX5_mixedRow_49 : decode cX5_mixedRow 49 = .ok (.iload 6, 2) := by decide +kernel
theorem dX5_mixedRow_51 : decode cX5_mixedRow 51 = .ok (.aload_n 0, 1) := by decide +kernel
theorem dX5_mixedRow_52 : decode cX5_mixedRow 52 = .ok (.getfield 10, 3) := by decide +kernel
theorem dX5_mixedRow_55 : decode cX5_mixedRow 55 = .ok (.getfield 44, 3) := by decide +kernel
theorem dX5_mixedRow_58 : decode cX5_mixedRow 58 = .ok (.invokevirtual 273, 3) := by decide +kernel
theorem dX5_mixedRow_61 : decode cX5_mixedRow 61 = .ok (.if_icmp .ge 92, 3) := by decide +kernel
theorem dX5_mixedRow_64 : decode cX5_mixedRow 64 = .ok (.aload_n 0, 1) := by decide +kernel
theorem dX5_mixedRow_65 : decode cX5_mixedRow 65 = .ok (.getfield 10, 3) := by decide +kernel
theorem dX5_mixedRow_68 : decode cX5_mixedRow 68 = .ok (.iload_n 3, 1) := by decide +kernel
theorem dX5_mixedRow_69 : decode cX5_mixedRow 69 = .ok (.iload 6, 2) := by decide +kernel
theorem dX5_mixedRow_71 : decode cX5_mixedRow 71 = .ok (.invokevirtual 313, 3) := by decide +kernel
theorem dX5_mixedRow_74 : decode cX5_mixedRow 74 = .ok (.astore 7, 2) := by decide +kernel
theorem dX5_mixedRow_76 : decode cX5_mixedRow 76 = .ok (.iconst 0, 1) := by decide +kernel
theorem dX5_mixedRow_77 : decode cX5_mixedRow 77 = .ok (.istore 8, 2) := by decide +kernel
theorem dX5_mixedRow_79 : decode cX5_mixedRow 79 = .ok (.iload 8, 2) := by decide +kernel
theorem dX5_mixedRow_81 : decode cX5_mixedRow 81 = .ok (.aload_n 0, 1) := by decide +kernel
theorem dX5_mixedRow_82 : decode cX5_mixedRow 82 = .ok (.getfield 10, 3) := by decide +kernel
theorem dX5_mixedRow_85 : decode cX5_mixedRow 85 = .ok (.getfield 44, 3) := by decide +kernel
theorem dX5_mixedRow_88 : decode cX5_mixedRow 88 = .ok (.iload 6, 2) := by decide +kernel
theorem dX5_mixedRow_90 : decode cX5_mixedRow 90 = .ok (.invokevirtual 286, 3) := by decide +kernel
theorem dX5_mixedRow_93 : decode cX5_mixedRow 93 = .ok (.if_icmp .ge 36, 3) := by decide +kernel
theorem dX5_mixedRow_96 : decode cX5_mixedRow 96 = .ok (.lload 4, 2) := by decide +kernel
theorem dX5_mixedRow_98 : decode cX5_mixedRow 98 = .ok (.aload 7, 2) := by decide +kernel
theorem dX5_mixedRow_100 : decode cX5_mixedRow 100 = .ok (.aload_n 0, 1) := by decide +kernel
theorem dX5_mixedRow_101 : decode cX5_mixedRow 101 = .ok (.getfield 10, 3) := by decide +kernel
theorem dX5_mixedRow_104 : decode cX5_mixedRow 104 = .ok (.getfield 44, 3) := by decide +kernel
theorem dX5_mixedRow_107 : decode cX5_mixedRow 107 = .ok (.iload 6, 2) := by decide +kernel
theorem dX5_mixedRow_109 : decode cX5_mixedRow 109 = .ok (.iload 8, 2) := by decide +kernel
theorem dX5_mixedRow_111 : decode cX5_mixedRow 111 = .ok (.invokevirtual 317, 3) := by decide +kernel
theorem dX5_mixedRow_114 : decode cX5_mixedRow 114 = .ok (.invokestatic 320, 3) := by decide +kernel
theorem dX5_mixedRow_117 : decode cX5_mixedRow 117 = .ok (.i2l, 1) := by decide +kernel
theorem dX5_mixedRow_118 : decode cX5_mixedRow 118 = .ok (.invokestatic 250, 3) := by decide +kernel
theorem dX5_mixedRow_121 : decode cX5_mixedRow 121 = .ok (.lstore 4, 2) := by decide +kernel
theorem dX5_mixedRow_123 : decode cX5_mixedRow 123 = .ok (.iinc 8 1, 3) := by decide +kernel
theorem dX5_mixedRow_126 : decode cX5_mixedRow 126 = .ok (.goto (-47), 3) := by decide +kernel
theorem dX5_mixedRow_129 : decode cX5_mixedRow 129 = .ok (.lload 4, 2) := by decide +kernel
theorem dX5_mixedRow_131 : decode cX5_mixedRow 131 = .ok (.aload_n 0, 1) := by decide +kernel
theorem dX5_mixedRow_132 : decode cX5_mixedRow 132 = .ok (.getfield 10, 3) := by decide +kernel
theorem dX5_mixedRow_135 : decode cX5_mixedRow 135 = .ok (.iload_n 3, 1) := by decide +kernel
theorem dX5_mixedRow_136 : decode cX5_mixedRow 136 = .ok (.iload 6, 2) := by decide +kernel
theorem dX5_mixedRow_138 : decode cX5_mixedRow 138 = .ok (.invokevirtual 235, 3) := by decide +kernel
theorem dX5_mixedRow_141 : decode cX5_mixedRow 141 = .ok (.i2l, 1) := by decide +kernel
theorem dX5_mixedRow_142 : decode cX5_mixedRow 142 = .ok (.invokestatic 250, 3) := by decide +kernel
theorem dX5_mixedRow_145 : decode cX5_mixedRow 145 = .ok (.lstore 4, 2) := by decide +kernel
theorem dX5_mixedRow_147 : decode cX5_mixedRow 147 = .ok (.iinc 6 1, 3) := by decide +kernel
theorem dX5_mixedRow_150 : decode cX5_mixedRow 150 = .ok (.goto (-101), 3) := by decide +kernel
theorem dX5_mixedRow_153 : decode cX5_mixedRow 153 = .ok (.lload 4, 2) := by decide +kernel
theorem dX5_mixedRow_155 : decode cX5_mixedRow 155 = .ok (.lreturn, 1) := by decide +kernel
theorem dX5_mixedText_0 : decode cX5_mixedText 0 = .ok (.lload_n 1, 1) := by decide +kernel
theorem dX5_mixedText_1 : decode cX5_mixedText 1 = .ok (.aload_n 0, 1) := by decide +kernel
theorem dX5_mixedText_2 : decode cX5_mixedText 2 = .ok (.getfield 26, 3) := by decide +kernel
theorem dX5_mixedText_5 : decode cX5_mixedText 5 = .ok (.invokevirtual 188, 3) := by decide +kernel
theorem dX5_mixedText_8 : decode cX5_mixedText 8 = .ok (.i2l, 1) := by decide +kernel
theorem dX5_mixedText_9 : decode cX5_mixedText 9 = .ok (.invokestatic 250, 3) := by decide +kernel
theorem dX5_mixedText_12 : decode cX5_mixedText 12 = .ok (.lstore_n 3, 1) := by decide +kernel
theorem dX5_mixedText_13 : decode cX5_mixedText 13 = .ok (.iconst 0, 1) := by decide +kernel
theorem dX5_mixedText_14 : decode cX5_mixedText 14 = .ok (.istore 5, 2) := by decide +kernel
theorem dX5_mixedText_16 : decode cX5_mixedText 16 = .ok (.iload 5, 2) := by decide +kernel
theorem dX5_mixedText_18 : decode cX5_mixedText 18 = .ok (.aload_n 0, 1) := by decide +kernel
theorem dX5_mixedText_19 : decode cX5_mixedText 19 = .ok (.getfield 26, 3) := by decide +kernel
theorem dX5_mixedText_22 : decode cX5_mixedText 22 = .ok (.invokevirtual 188, 3) := by decide +kernel
theorem dX5_mixedText_25 : decode cX5_mixedText 25 = .ok (.if_icmp .ge 24, 3) := by decide +kernel
theorem dX5_mixedText_28 : decode cX5_mixedText 28 = .ok (.lload_n 3, 1) := by decide +kernel
theorem dX5_mixedText_29 : decode cX5_mixedText 29 = .ok (.aload_n 0, 1) := by decide +kernel
theorem dX5_mixedText_30 : decode cX5_mixedText 30 = .ok (.getfield 26, 3) := by decide +kernel
theorem dX5_mixedText_33 : decode cX5_mixedText 33 = .ok (.iload 5, 2) := by decide +kernel
theorem dX5_mixedText_35 : decode cX5_mixedText 35 = .ok (.invokevirtual 289, 3) := by decide +kernel
theorem dX5_mixedText_38 : decode cX5_mixedText 38 = .ok (.i2l, 1) := by decide +kernel
theorem dX5_mixedText_39 : decode cX5_mixedText 39 = .ok (.invokestatic 250, 3) := by decide +kernel
theorem dX5_mixedText_42 : decode cX5_mixedText 42 = .ok (.lstore_n 3, 1) := by decide +kernel
theorem dX5_mixedText_43 : decode cX5_mixedText 43 = .ok (.iinc 5 1, 3) := by decide +kernel
theorem dX5_mixedText_46 : decode cX5_mixedText 46 = .ok (.goto (-30), 3) := by decide +kernel
theorem dX5_mixedText_49 : decode cX5_mixedText 49 = .ok (.lload_n 3, 1) := by decide +kernel
theorem dX5_mixedText_50 : decode cX5_mixedText 50 = .ok (.lreturn, 1) := by decide +kernel
theorem dX5_mixed_0 : decode cX5_mixed 0 = .ok (.ldc2_w 324, 3) := by decide +kernel
theorem dX5_mixed_3 : decode cX5_mixed 3 = .ok (.lload_n 0, 1) := by decide +kernel
theorem dX5_mixed_4 : decode cX5_mixed 4 = .ok (.lmul, 1) := by decide +kernel
theorem dX5_mixed_5 : decode cX5_mixed 5 = .ok (.lload_n 2, 1) := by decide +kernel
theorem dX5_mixed_6 : decode cX5_mixed 6 = .ok (.ladd, 1) := by decide +kernel
theorem dX5_mixed_7 : decode cX5_mixed 7 = .ok (.lreturn, 1) := by decide +kernel
theorem dX5_bitsOfShare_0 : decode cX5_bitsOfShare 0 = .ok (.dload_n 0, 1) := by decide +kernel
theorem dX5_bitsOfShare_1 : decode cX5_bitsOfShare 1 = .ok (.dconst 0, 1) := by decide +kernel
theorem dX5_bitsOfShare_2 : decode cX5_bitsOfShare 2 = .ok (.dcmp .g, 1) := by decide +kernel
theorem dX5_bitsOfShare_3 : decode cX5_bitsOfShare 3 = .ok (.ifCond .gt 5, 3) := by decide +kernel
theorem dX5_bitsOfShare_6 : decode cX5_bitsOfShare 6 = .ok (.lconst 0, 1) := by decide +kernel
theorem dX5_bitsOfShare_7 : decode cX5_bitsOfShare 7 = .ok (.lreturn, 1) := by decide +kernel
theorem dX5_bitsOfShare_8 : decode cX5_bitsOfShare 8 = .ok (.dload_n 0, 1) := by decide +kernel
theorem dX5_bitsOfShare_9 : decode cX5_bitsOfShare 9 = .ok (.dstore_n 2, 1) := by decide +kernel
theorem dX5_bitsOfShare_10 : decode cX5_bitsOfShare 10 = .ok (.ldc2_w 326, 3) := by decide +kernel
theorem dX5_bitsOfShare_13 : decode cX5_bitsOfShare 13 = .ok (.lstore 4, 2) := by decide +kernel
theorem dX5_bitsOfShare_15 : decode cX5_bitsOfShare 15 = .ok (.iconst 0, 1) := by decide +kernel
theorem dX5_bitsOfShare_16 : decode cX5_bitsOfShare 16 = .ok (.istore 6, 2) := by decide +kernel
theorem dX5_bitsOfShare_18 : decode cX5_bitsOfShare 18 = .ok (.iload 6, 2) := by decide +kernel
theorem dX5_bitsOfShare_20 : decode cX5_bitsOfShare 20 = .ok (.sipush 1000, 3) := by decide +kernel
theorem dX5_bitsOfShare_23 : decode cX5_bitsOfShare 23 = .ok (.if_icmp .ge 27, 3) := by decide +kernel
theorem dX5_bitsOfShare_26 : decode cX5_bitsOfShare 26 = .ok (.dload_n 2, 1) := by decide +kernel
theorem dX5_bitsOfShare_27 : decode cX5_bitsOfShare 27 = .ok (.dconst 1, 1) := by decide +kernel
theorem dX5_bitsOfShare_28 : decode cX5_bitsOfShare 28 = .ok (.dcmp .g, 1) := by decide +kernel
theorem dX5_bitsOfShare_29 : decode cX5_bitsOfShare 29 = .ok (.ifCond .ge 21, 3) := by decide +kernel
theorem dX5_bitsOfShare_32 : decode cX5_bitsOfShare 32 = .ok (.dload_n 2, 1) := by decide +kernel
theorem dX5_bitsOfShare_33 : decode cX5_bitsOfShare 33 = .ok (.ldc2_w 328, 3) := by decide +kernel
theorem dX5_bitsOfShare_36 : decode cX5_bitsOfShare 36 = .ok (.dmul, 1) := by decide +kernel
theorem dX5_bitsOfShare_37 : decode cX5_bitsOfShare 37 = .ok (.dstore_n 2, 1) := by decide +kernel
theorem dX5_bitsOfShare_38 : decode cX5_bitsOfShare 38 = .ok (.lload 4, 2) := by decide +kernel
theorem dX5_bitsOfShare_40 : decode cX5_bitsOfShare 40 = .ok (.lconst 1, 1) := by decide +kernel
theorem dX5_bitsOfShare_41 : decode cX5_bitsOfShare 41 = .ok (.lsub, 1) := by decide +kernel
theorem dX5_bitsOfShare_42 : decode cX5_bitsOfShare 42 = .ok (.lstore 4, 2) := by decide +kernel
theorem dX5_bitsOfShare_44 : decode cX5_bitsOfShare 44 = .ok (.iinc 6 1, 3) := by decide +kernel
theorem dX5_bitsOfShare_47 : decode cX5_bitsOfShare 47 = .ok (.goto (-29), 3) := by decide +kernel
theorem dX5_bitsOfShare_50 : decode cX5_bitsOfShare 50 = .ok (.lload 4, 2) := by decide +kernel
theorem dX5_bitsOfShare_52 : decode cX5_bitsOfShare 52 = .ok (.bipush 52, 2) := by decide +kernel
theorem dX5_bitsOfShare_54 : decode cX5_bitsOfShare 54 = .ok (.lshl, 1) := by decide +kernel
theorem dX5_bitsOfShare_55 : decode cX5_bitsOfShare 55 = .ok (.dload_n 2, 1) := by decide +kernel
theorem dX5_bitsOfShare_56 : decode cX5_bitsOfShare 56 = .ok (.dconst 1, 1) := by decide +kernel
theorem dX5_bitsOfShare_57 : decode cX5_bitsOfShare 57 = .ok (.dsub, 1) := by decide +kernel
theorem dX5_bitsOfShare_58 : decode cX5_bitsOfShare 58 = .ok (.ldc2_w 330, 3) := by decide +kernel
theorem dX5_bitsOfShare_61 : decode cX5_bitsOfShare 61 = .ok (.dmul, 1) := by decide +kernel
theorem dX5_bitsOfShare_62 : decode cX5_bitsOfShare 62 = .ok (.d2l, 1) := by decide +kernel
theorem dX5_bitsOfShare_63 : decode cX5_bitsOfShare 63 = .ok (.ladd, 1) := by decide +kernel
theorem dX5_bitsOfShare_64 : decode cX5_bitsOfShare 64 = .ok (.lreturn, 1) := by decide +kernel
theorem dX5_isLetter_0 : decode cX5_isLetter 0 = .ok (.iload_n 0, 1) := by decide +kernel
theorem dX5_isLetter_1 : decode cX5_isLetter 1 = .ok (.ifCond .lt 13, 3) := by decide +kernel
theorem dX5_isLetter_4 : decode cX5_isLetter 4 = .ok (.iload_n 0, 1) := by decide +kernel
theorem dX5_isLetter_5 : decode cX5_isLetter 5 = .ok (.bipush 8, 2) := by decide +kernel
theorem dX5_isLetter_7 : decode cX5_isLetter 7 = .ok (.if_icmp .ge 7, 3) := by decide +kernel
theorem dX5_isLetter_10 : decode cX5_isLetter 10 = .ok (.iconst 1, 1) := by decide +kernel
theorem dX5_isLetter_11 : decode cX5_isLetter 11 = .ok (.goto 4, 3) := by decide +kernel
theorem dX5_isLetter_14 : decode cX5_isLetter 14 = .ok (.iconst 0, 1) := by decide +kernel
theorem dX5_isLetter_15 : decode cX5_isLetter 15 = .ok (.ireturn, 1) := by decide +kernel
theorem dX5_isLetterOrNone_0 : decode cX5_isLetterOrNone 0 = .ok (.iload_n 0, 1) := by decide +kernel
theorem dX5_isLetterOrNone_1 : decode cX5_isLetterOrNone 1 = .ok (.iconst (-1), 1) := by decide +kernel
theorem dX5_isLetterOrNone_2 : decode cX5_isLetterOrNone 2 = .ok (.if_icmp .eq 10, 3) := by decide +kernel
theorem dX5_isLetterOrNone_5 : decode cX5_isLetterOrNone 5 = .ok (.iload_n 0, 1) := by decide +kernel
theorem dX5_isLetterOrNone_6 : decode cX5_isLetterOrNone 6 = .ok (.invokestatic 30, 3) := by decide +kernel
theorem dX5_isLetterOrNone_9 : decode cX5_isLetterOrNone 9 = .ok (.ifCond .eq 7, 3) := by decide +kernel
theorem dX5_isLetterOrNone_12 : decode cX5_isLetterOrNone 12 = .ok (.iconst 1, 1) := by decide +kernel
theorem dX5_isLetterOrNone_13 : decode cX5_isLetterOrNone 13 = .ok (.goto 4, 3) := by decide +kernel
theorem dX5_isLetterOrNone_16 : decode cX5_isLetterOrNone 16 = .ok (.iconst 0, 1) := by decide +kernel
theorem dX5_isLetterOrNone_17 : decode cX5_isLetterOrNone 17 = .ok (.ireturn, 1) := by decide +kernel
theorem dX5_isNumber_0 : decode cX5_isNumber 0 = .ok (.iload_n 0, 1) := by decide +kernel
theorem dX5_isNumber_1 : decode cX5_isNumber 1 = .ok (.ifCond .lt 13, 3) := by decide +kernel
theorem dX5_isNumber_4 : decode cX5_isNumber 4 = .ok (.iload_n 0, 1) := by decide +kernel
theorem dX5_isNumber_5 : decode cX5_isNumber 5 = .ok (.bipush 99, 2) := by decide +kernel
theorem dX5_isNumber_7 : decode cX5_isNumber 7 = .ok (.if_icmp .gt 7, 3) := by decide +kernel
theorem dX5_isNumber_10 : decode cX5_isNumber 10 = .ok (.iconst 1, 1) := by decide +kernel
theorem dX5_isNumber_11 : decode cX5_isNumber 11 = .ok (.goto 4, 3) := by decide +kernel
theorem dX5_isNumber_14 : decode cX5_isNumber 14 = .ok (.iconst 0, 1) := by decide +kernel
theorem dX5_isNumber_15 : decode cX5_isNumber 15 = .ok (.ireturn, 1) := by decide +kernel
theorem dX5_isValue_0 : decode cX5_isValue 0 = .ok (.iload_n 0, 1) := by decide +kernel
theorem dX5_isValue_1 : decode cX5_isValue 1 = .ok (.ifCond .lt 14, 3) := by decide +kernel
theorem dX5_isValue_4 : decode cX5_isValue 4 = .ok (.iload_n 0, 1) := by decide +kernel
theorem dX5_isValue_5 : decode cX5_isValue 5 = .ok (.ldc_w 332, 3) := by decide +kernel
theorem dX5_isValue_8 : decode cX5_isValue 8 = .ok (.if_icmp .gt 7, 3) := by decide +kernel
theorem dX5_isValue_11 : decode cX5_isValue 11 = .ok (.iconst 1, 1) := by decide +kernel
theorem dX5_isValue_12 : decode cX5_isValue 12 = .ok (.goto 4, 3) := by decide +kernel
theorem dX5_isValue_15 : decode cX5_isValue 15 = .ok (.iconst 0, 1) := by decide +kernel
theorem dX5_isValue_16 : decode cX5_isValue 16 = .ok (.ireturn, 1) := by decide +kernel
theorem dX5_isReader_0 : decode cX5_isReader 0 = .ok (.iload_n 0, 1) := by decide +kernel
theorem dX5_isReader_1 : decode cX5_isReader 1 = .ok (.ifCond .lt 12, 3) := by decide +kernel
theorem dX5_isReader_4 : decode cX5_isReader 4 = .ok (.iload_n 0, 1) := by decide +kernel
theorem dX5_isReader_5 : decode cX5_isReader 5 = .ok (.iconst 4, 1) := by decide +kernel
theorem dX5_isReader_6 : decode cX5_isReader 6 = .ok (.if_icmp .ge 7, 3) := by decide +kernel
theorem dX5_isReader_9 : decode cX5_isReader 9 = .ok (.iconst 1, 1) := by decide +kernel
theorem dX5_isReader_10 : decode cX5_isReader 10 = .ok (.goto 4, 3) := by decide +kernel
theorem dX5_isReader_13 : decode cX5_isReader 13 = .ok (.iconst 0, 1) := by decide +kernel
theorem dX5_isReader_14 : decode cX5_isReader 14 = .ok (.ireturn, 1) := by decide +kernel
theorem dX5_at_0 : decode cX5_at 0 = .ok (.iload_n 1, 1) := by decide +kernel
theorem dX5_at_1 : decode cX5_at 1 = .ok (.ifCond .lt 15, 3) := by decide +kernel
theorem dX5_at_4 : decode cX5_at 4 = .ok (.iload_n 1, 1) := by decide +kernel
theorem dX5_at_5 : decode cX5_at 5 = .ok (.aload_n 0, 1) := by decide +kernel
theorem dX5_at_6 : decode cX5_at 6 = .ok (.arraylength, 1) := by decide +kernel
theorem dX5_at_7 : decode cX5_at 7 = .ok (.if_icmp .ge 9, 3) := by decide +kernel
theorem dX5_at_10 : decode cX5_at 10 = .ok (.aload_n 0, 1) := by decide +kernel
theorem dX5_at_11 : decode cX5_at 11 = .ok (.iload_n 1, 1) := by decide +kernel
theorem dX5_at_12 : decode cX5_at 12 = .ok (.iaload, 1) := by decide +kernel
theorem dX5_at_13 : decode cX5_at 13 = .ok (.goto 4, 3) := by decide +kernel
theorem dX5_at_16 : decode cX5_at 16 = .ok (.iconst (-1), 1) := by decide +kernel
theorem dX5_at_17 : decode cX5_at 17 = .ok (.ireturn, 1) := by decide +kernel
theorem dX5_put_0 : decode cX5_put 0 = .ok (.iload_n 1, 1) := by decide +kernel
theorem dX5_put_1 : decode cX5_put 1 = .ok (.ifCond .lt 13, 3) := by decide +kernel
theorem dX5_put_4 : decode cX5_put 4 = .ok (.iload_n 1, 1) := by decide +kernel
theorem dX5_put_5 : decode cX5_put 5 = .ok (.aload_n 0, 1) := by decide +kernel
theorem dX5_put_6 : decode cX5_put 6 = .ok (.arraylength, 1) := by decide +kernel
theorem dX5_put_7 : decode cX5_put 7 = .ok (.if_icmp .ge 7, 3) := by decide +kernel
theorem dX5_put_10 : decode cX5_put 10 = .ok (.aload_n 0, 1) := by decide +kernel
theorem dX5_put_11 : decode cX5_put 11 = .ok (.iload_n 1, 1) := by decide +kernel
theorem dX5_put_12 : decode cX5_put 12 = .ok (.iload_n 2, 1) := by decide +kernel
theorem dX5_put_13 : decode cX5_put 13 = .ok (.iastore, 1) := by decide +kernel
theorem dX5_put_14 : decode cX5_put 14 = .ok (.return_, 1) := by decide +kernel
theorem dX5_copyAll_0 : decode cX5_copyAll 0 = .ok (.aload_n 0, 1) := by decide +kernel
theorem dX5_copyAll_1 : decode cX5_copyAll 1 = .ok (.iconst 0, 1) := by decide +kernel
theorem dX5_copyAll_2 : decode cX5_copyAll 2 = .ok (.aload_n 1, 1) := by decide +kernel
theorem dX5_copyAll_3 : decode cX5_copyAll 3 = .ok (.iconst 0, 1) := by decide +kernel
theorem dX5_copyAll_4 : decode cX5_copyAll 4 = .ok (.aload_n 0, 1) := by decide +kernel
theorem dX5_copyAll_5 : decode cX5_copyAll 5 = .ok (.arraylength, 1) := by decide +kernel
theorem dX5_copyAll_6 : decode cX5_copyAll 6 = .ok (.aload_n 1, 1) := by decide +kernel
theorem dX5_copyAll_7 : decode cX5_copyAll 7 = .ok (.arraylength, 1) := by decide +kernel
theorem dX5_copyAll_8 : decode cX5_copyAll 8 = .ok (.invokestatic 333, 3) := by decide +kernel
theorem dX5_copyAll_11 : decode cX5_copyAll 11 = .ok (.invokestatic 338, 3) := by decide +kernel
theorem dX5_copyAll_14 : decode cX5_copyAll 14 = .ok (.return_, 1) := by decide +kernel
theorem dJ9_min_7cf53_0 : decode cJ9_min_7cf53 0 = .ok (.iload_n 0, 1) := by decide +kernel
theorem dJ9_min_7cf53_1 : decode cJ9_min_7cf53 1 = .ok (.iload_n 1, 1) := by decide +kernel
theorem dJ9_min_7cf53_2 : decode cJ9_min_7cf53 2 = .ok (.if_icmp .gt 7, 3) := by decide +kernel
theorem dJ9_min_7cf53_5 : decode cJ9_min_7cf53 5 = .ok (.iload_n 0, 1) := by decide +kernel
theorem dJ9_min_7cf53_6 : decode cJ9_min_7cf53 6 = .ok (.goto 4, 3) := by decide +kernel
theorem dJ9_min_7cf53_9 : decode cJ9_min_7cf53 9 = .ok (.iload_n 1, 1) := by decide +kernel
theorem dJ9_min_7cf53_10 : decode cJ9_min_7cf53 10 = .ok (.ireturn, 1) := by decide +kernel
theorem dL_cell_0 : decode cL_cell 0 = .ok (.iload_n 1, 1) := by decide +kernel
theorem dL_cell_1 : decode cL_cell 1 = .ok (.aload_n 0, 1) := by decide +kernel
theorem dL_cell_2 : decode cL_cell 2 = .ok (.arraylength, 1) := by decide +kernel
theorem dL_cell_3 : decode cL_cell 3 = .ok (.if_icmp .ge 9, 3) := by decide +kernel
theorem dL_cell_6 : decode cL_cell 6 = .ok (.aload_n 0, 1) := by decide +kernel
theorem dL_cell_7 : decode cL_cell 7 = .ok (.iload_n 1, 1) := by decide +kernel
theorem dL_cell_8 : decode cL_cell 8 = .ok (.iaload, 1) := by decide +kernel
theorem dL_cell_9 : decode cL_cell 9 = .ok (.goto 15, 3) := by decide +kernel
theorem dL_cell_12 : decode cL_cell 12 = .ok (.sipush 7919, 3) := by decide +kernel
theorem dL_cell_15 : decode cL_cell 15 = .ok (.iload_n 1, 1) := by decide +kernel
theorem dL_cell_16 : decode cL_cell 16 = .ok (.iconst 3, 1) := by decide +kernel
theorem dL_cell_17 : decode cL_cell 17 = .ok (.iadd, 1) := by decide +kernel
theorem dL_cell_18 : decode cL_cell 18 = .ok (.imul, 1) := by decide +kernel
theorem dL_cell_19 : decode cL_cell 19 = .ok (.iload_n 1, 1) := by decide +kernel
theorem dL_cell_20 : decode cL_cell 20 = .ok (.bipush 11, 2) := by decide +kernel
theorem dL_cell_22 : decode cL_cell 22 = .ok (.iadd, 1) := by decide +kernel
theorem dL_cell_23 : decode cL_cell 23 = .ok (.imul, 1) := by decide +kernel
theorem dL_cell_24 : decode cL_cell 24 = .ok (.ireturn, 1) := by decide +kernel
theorem dL_low_0 : decode cL_low 0 = .ok (.iload_n 0, 1) := by decide +kernel
theorem dL_low_1 : decode cL_low 1 = .ok (.ldc 7, 2) := by decide +kernel
theorem dL_low_3 : decode cL_low 3 = .ok (.iand, 1) := by decide +kernel
theorem dL_low_4 : decode cL_low 4 = .ok (.iload_n 1, 1) := by decide +kernel
theorem dL_low_5 : decode cL_low 5 = .ok (.irem, 1) := by decide +kernel
theorem dL_low_6 : decode cL_low 6 = .ok (.ireturn, 1) := by decide +kernel
theorem dL_acts_0 : decode cL_acts 0 = .ok (.aload_n 0, 1) := by decide +kernel
theorem dL_acts_1 : decode cL_acts 1 = .ok (.iconst 0, 1) := by decide +kernel
theorem dL_acts_2 : decode cL_acts 2 = .ok (.invokevirtual 8, 3) := by decide +kernel
theorem dL_acts_5 : decode cL_acts 5 = .ok (.iconst 1, 1) := by decide +kernel
theorem dL_acts_6 : decode cL_acts 6 = .ok (.isub, 1) := by decide +kernel
theorem dL_acts_7 : decode cL_acts 7 = .ok (.istore_n 3, 1) := by decide +kernel
theorem dL_acts_8 : decode cL_acts 8 = .ok (.aload_n 0, 1) := by decide +kernel
theorem dL_acts_9 : decode cL_acts 9 = .ok (.iload_n 3, 1) := by decide +kernel
theorem dL_acts_10 : decode cL_acts 10 = .ok (.iconst 5, 1) := by decide +kernel
theorem dL_acts_11 : decode cL_acts 11 = .ok (.invokevirtual 14, 3) := by decide +kernel
theorem dL_acts_14 : decode cL_acts 14 = .ok (.istore 4, 2) := by decide +kernel
theorem dL_acts_16 : decode cL_acts 16 = .ok (.iload_n 2, 1) := by decide +kernel
theorem dL_acts_17 : decode cL_acts 17 = .ok (.bipush 7, 2) := by decide +kernel
theorem dL_acts_19 : decode cL_acts 19 = .ok (.iand, 1) := by decide +kernel
theorem dL_acts_20 : decode cL_acts 20 = .ok (.istore 5, 2) := by decide +kernel
theorem dL_acts_22 : decode cL_acts 22 = .ok (.iload_n 2, 1) := by decide +kernel
theorem dL_acts_23 : decode cL_acts 23 = .ok (.iconst 3, 1) := by decide +kernel
theorem dL_acts_24 : decode cL_acts 24 = .ok (.ishr, 1) := by decide +kernel
theorem dL_acts_25 : decode cL_acts 25 = .ok (.bipush 7, 2) := by decide +kernel
theorem dL_acts_27 : decode cL_acts 27 = .ok (.iand, 1) := by decide +kernel
theorem dL_acts_28 : decode cL_acts 28 = .ok (.istore 6, 2) := by decide +kernel
theorem dL_acts_30 : decode cL_acts 30 = .ok (.iload 4, 2) := by decide +kernel
theorem dL_acts_32 : decode cL_acts 32 = .ok (.iload 5, 2) := by decide +kernel
theorem dL_acts_34 : decode cL_acts 34 = .ok (.ishr, 1) := by decide +kernel
theorem dL_acts_35 : decode cL_acts 35 = .ok (.iconst 1, 1) := by decide +kernel
theorem dL_acts_36 : decode cL_acts 36 = .ok (.iand, 1) := by decide +kernel
theorem dL_acts_37 : decode cL_acts 37 = .ok (.iconst 1, 1) := by decide +kernel
theorem dL_acts_38 : decode cL_acts 38 = .ok (.if_icmp .ne 7, 3) := by decide +kernel
theorem dL_acts_41 : decode cL_acts 41 = .ok (.iconst 1, 1) := by decide +kernel
theorem dL_acts_42 : decode cL_acts 42 = .ok (.goto 4, 3) := by decide +kernel
theorem dL_acts_45 : decode cL_acts 45 = .ok (.iconst 0, 1) := by decide +kernel
theorem dL_acts_46 : decode cL_acts 46 = .ok (.istore 7, 2) := by decide +kernel
theorem dL_acts_48 : decode cL_acts 48 = .ok (.iload 4, 2) := by decide +kernel
theorem dL_acts_50 : decode cL_acts 50 = .ok (.iload 6, 2) := by decide +kernel
theorem dL_acts_52 : decode cL_acts 52 = .ok (.ishr, 1) := by decide +kernel
theorem dL_acts_53 : decode cL_acts 53 = .ok (.iconst 1, 1) := by decide +kernel
theorem dL_acts_54 : decode cL_acts 54 = .ok (.iand, 1) := by decide +kernel
theorem dL_acts_55 : decode cL_acts 55 = .ok (.iconst 1, 1) := by decide +kernel
theorem dL_acts_56 : decode cL_acts 56 = .ok (.if_icmp .ne 7, 3) := by decide +kernel
theorem dL_acts_59 : decode cL_acts 59 = .ok (.iconst 1, 1) := by decide +kernel
theorem dL_acts_60 : decode cL_acts 60 = .ok (.goto 4, 3) := by decide +kernel
theorem dL_acts_63 : decode cL_acts 63 = .ok (.iconst 0, 1) := by decide +kernel
theorem dL_acts_64 : decode cL_acts 64 = .ok (.istore 8, 2) := by decide +kernel
theorem dL_acts_66 : decode cL_acts 66 = .ok (.iload_n 3, 1) := by decide +kernel
theorem dL_acts_67 : decode cL_acts 67 = .ok (.bipush 11, 2) := by decide +kernel
theorem dL_acts_69 : decode cL_acts 69 = .ok (.if_icmp .ge 7, 3) := by decide +kernel
theorem dL_acts_72 : decode cL_acts 72 = .ok (.iconst 1, 1) := by decide +kernel
theorem dL_acts_73 : decode cL_acts 73 = .ok (.goto 4, 3) := by decide +kernel
theorem dL_acts_76 : decode cL_acts 76 = .ok (.iconst 0, 1) := by decide +kernel
theorem dL_acts_77 : decode cL_acts 77 = .ok (.istore 9, 2) := by decide +kernel
theorem dL_acts_79 : decode cL_acts 79 = .ok (.aload_n 0, 1) := by decide +kernel
theorem dL_acts_80 : decode cL_acts 80 = .ok (.iconst 2, 1) := by decide +kernel
theorem dL_acts_81 : decode cL_acts 81 = .ok (.invokevirtual 8, 3) := by decide +kernel
theorem dL_acts_84 : decode cL_acts 84 = .ok (.istore 10, 2) := by decide +kernel
theorem dL_acts_86 : decode cL_acts 86 = .ok (.iload 10, 2) := by decide +kernel
theorem dL_acts_88 : decode cL_acts 88 = .ok (.ifCond .ne 7, 3) := by decide +kernel
theorem dL_acts_91 : decode cL_acts 91 = .ok (.iconst 0, 1) := by decide +kernel
theorem dL_acts_92 : decode cL_acts 92 = .ok (.goto 11, 3) := by decide +kernel
theorem dL_acts_95 : decode cL_acts 95 = .ok (.iload_n 1, 1) := by decide +kernel
theorem dL_acts_96 : decode cL_acts 96 = .ok (.iconst 4, 1) := by decide +kernel
theorem dL_acts_97 : decode cL_acts 97 = .ok (.ishr, 1) := by decide +kernel
theorem dL_acts_98 : decode cL_acts 98 = .ok (.iload 10, 2) := by decide +kernel
theorem dL_acts_100 : decode cL_acts 100 = .ok (.invokestatic 18, 3) := by decide +kernel
theorem dL_acts_103 : decode cL_acts 103 = .ok (.istore 11, 2) := by decide +kernel
theorem dL_acts_105 : decode cL_acts 105 = .ok (.aload_n 0, 1) := by decide +kernel
theorem dL_acts_106 : decode cL_acts 106 = .ok (.iconst 1, 1) := by decide +kernel
theorem dL_acts_107 : decode cL_acts 107 = .ok (.invokevirtual 8, 3) := by decide +kernel
theorem dL_acts_110 : decode cL_acts 110 = .ok (.iload_n 1, 1) := by decide +kernel
theorem dL_acts_111 : decode cL_acts 111 = .ok (.bipush 8, 2) := by decide +kernel
theorem dL_acts_113 : decode cL_acts 113 = .ok (.ishr, 1) := by decide +kernel
theorem dL_acts_114 : decode cL_acts 114 = .ok (.iload_n 3, 1) := by decide +kernel
theorem dL_acts_115 : decode cL_acts 115 = .ok (.iconst 1, 1) := by decide +kernel
theorem dL_acts_116 : decode cL_acts 116 = .ok (.iadd, 1) := by decide +kernel
theorem dL_acts_117 : decode cL_acts 117 = .ok (.aload_n 0, 1) := by decide +kernel
theorem dL_acts_118 : decode cL_acts 118 = .ok (.iconst 1, 1) := by decide +kernel
theorem dL_acts_119 : decode cL_acts 119 = .ok (.invokevirtual 8, 3) := by decide +kernel
theorem dL_acts_122 : decode cL_acts 122 = .ok (.isub, 1) := by decide +kernel
theorem dL_acts_123 : decode cL_acts 123 = .ok (.invokestatic 18, 3) := by decide +kernel
theorem dL_acts_126 : decode cL_acts 126 = .ok (.iadd, 1) := by decide +kernel
theorem dL_acts_127 : decode cL_acts 127 = .ok (.istore 12, 2) := by decide +kernel
theorem dL_acts_129 : decode cL_acts 129 = .ok (.iload_n 1, 1) := by decide +kernel
theorem dL_acts_130 : decode cL_acts 130 = .ok (.bipush 15, 2) := by decide +kernel
theorem dL_acts_132 : decode cL_acts 132 = .ok (.iand, 1) := by decide +kernel
theorem dL_acts_133 : decode cL_acts 133 = .ok (.tableswitch 264 0 10 #[59, 59, 89, 132, 162, 190, 190, 208, 223, 239, 251], 59) := by decide +kernel
theorem dL_acts_192 : decode cL_acts 192 = .ok (.iload 9, 2) := by decide +kernel
theorem dL_acts_194 : decode cL_acts 194 = .ok (.ifCond .eq 26, 3) := by decide +kernel
theorem dL_acts_197 : decode cL_acts 197 = .ok (.iload 7, 2) := by decide +kernel
theorem dL_acts_199 : decode cL_acts 199 = .ok (.ifCond .ne 21, 3) := by decide +kernel
theorem dL_acts_202 : decode cL_acts 202 = .ok (.aload_n 0, 1) := by decide +kernel
theorem dL_acts_203 : decode cL_acts 203 = .ok (.iload 5, 2) := by decide +kernel
theorem dL_acts_205 : decode cL_acts 205 = .ok (.iload_n 2, 1) := by decide +kernel
theorem dL_acts_206 : decode cL_acts 206 = .ok (.bipush 6, 2) := by decide +kernel
theorem dL_acts_208 : decode cL_acts 208 = .ok (.ishr, 1) := by decide +kernel
theorem dL_acts_209 : decode cL_acts 209 = .ok (.bipush 100, 2) := by decide +kernel
theorem dL_acts_211 : decode cL_acts 211 = .ok (.invokestatic 18, 3) := by decide +kernel
theorem dL_acts_214 : decode cL_acts 214 = .ok (.invokevirtual 23, 3) := by decide +kernel
theorem dL_acts_217 : decode cL_acts 217 = .ok (.pop, 1) := by decide +kernel
theorem dL_acts_218 : decode cL_acts 218 = .ok (.iconst 1, 1) := by decide +kernel
theorem dL_acts_219 : decode cL_acts 219 = .ok (.ireturn, 1) := by decide +kernel
theorem dL_acts_220 : decode cL_acts 220 = .ok (.iconst 0, 1) := by decide +kernel
theorem dL_acts_221 : decode cL_acts 221 = .ok (.ireturn, 1) := by decide +kernel
theorem dL_acts_222 : decode cL_acts 222 = .ok (.iload 9, 2) := by decide +kernel
theorem dL_acts_224 : decode cL_acts 224 = .ok (.ifCond .eq 39, 3) := by decide +kernel
theorem dL_acts_227 : decode cL_acts 227 = .ok (.iload 7, 2) := by decide +kernel
theorem dL_acts_229 : decode cL_acts 229 = .ok (.ifCond .ne 34, 3) := by decide +kernel
theorem dL_acts_232 : decode cL_acts 232 = .ok (.iload 8, 2) := by decide +kernel
theorem dL_acts_234 : decode cL_acts 234 = .ok (.ifCond .eq 29, 3) := by decide +kernel
theorem dL_acts_237 : decode cL_acts 237 = .ok (.aload_n 0, 1) := by decide +kernel
theorem dL_acts_238 : decode cL_acts 238 = .ok (.iload 5, 2) := by decide +kernel
theorem dL_acts_240 : decode cL_acts 240 = .ok (.iload 6, 2) := by decide +kernel
theorem dL_acts_242 : decode cL_acts 242 = .ok (.iload_n 2, 1) := by decide +kernel
theorem dL_acts_243 : decode cL_acts 243 = .ok (.bipush 6, 2) := by decide +kernel
theorem dL_acts_245 : decode cL_acts 245 = .ok (.ishr, 1) := by decide +kernel
theorem dL_acts_246 : decode cL_acts 246 = .ok (.iconst 1, 1) := by decide +kernel
theorem dL_acts_247 : decode cL_acts 247 = .ok (.iand, 1) := by decide +kernel
theorem dL_acts_248 : decode cL_acts 248 = .ok (.ifCond .ne 7, 3) := by decide +kernel
theorem dL_acts_251 : decode cL_acts 251 = .ok (.iconst (-1), 1) := by decide +kernel
theorem dL_acts_252 : decode cL_acts 252 = .ok (.goto 5, 3) := by decide +kernel
theorem dL_acts_255 : decode cL_acts 255 = .ok (.iload 6, 2) := by decide +kernel
theorem dL_acts_257 : decode cL_acts 257 = .ok (.invokevirtual 26, 3) := by decide +kernel
theorem dL_acts_260 : decode cL_acts 260 = .ok (.pop, 1) := by decide +kernel
theorem dL_acts_261 : decode cL_acts 261 = .ok (.iconst 1, 1) := by decide +kernel
theorem dL_acts_262 : decode cL_acts 262 = .ok (.ireturn, 1) := by decide +kernel
theorem dL_acts_263 : decode cL_acts 263 = .ok (.iconst 0, 1) := by decide +kernel
theorem dL_acts_264 : decode cL_acts 264 = .ok (.ireturn, 1) := by decide +kernel
theorem dL_acts_265 : decode cL_acts 265 = .ok (.iload 9, 2) := by decide +kernel
theorem dL_acts_267 : decode cL_acts 267 = .ok (.ifCond .eq 26, 3) := by decide +kernel
theorem dL_acts_270 : decode cL_acts 270 = .ok (.iload 7, 2) := by decide +kernel
theorem dL_acts_272 : decode cL_acts 272 = .ok (.ifCond .eq 21, 3) := by decide +kernel
theorem dL_acts_275 : decode cL_acts 275 = .ok (.aload_n 0, 1) := by decide +kernel
theorem dL_acts_276 : decode cL_acts 276 = .ok (.iload 5, 2) := by decide +kernel
theorem dL_acts_278 : decode cL_acts 278 = .ok (.iload_n 2, 1) := by decide +kernel
theorem dL_acts_279 : decode cL_acts 279 = .ok (.bipush 6, 2) := by decide +kernel
theorem dL_acts_281 : decode cL_acts 281 = .ok (.ishr, 1) := by decide +kernel
theorem dL_acts_282 : decode cL_acts 282 = .ok (.bipush 100, 2) := by decide +kernel
theorem dL_acts_284 : decode cL_acts 284 = .ok (.invokestatic 18, 3) := by decide +kernel
theorem dL_acts_287 : decode cL_acts 287 = .ok (.invokevirtual 30, 3) := by decide +kernel
theorem dL_acts_290 : decode cL_acts 290 = .ok (.pop, 1) := by decide +kernel
theorem dL_acts_291 : decode cL_acts 291 = .ok (.iconst 1, 1) := by decide +kernel
theorem dL_acts_292 : decode cL_acts 292 = .ok (.ireturn, 1) := by decide +kernel
theorem dL_acts_293 : decode cL_acts 293 = .ok (.iconst 0, 1) := by decide +kernel
theorem dL_acts_294 : decode cL_acts 294 = .ok (.ireturn, 1) := by decide +kernel
theorem dL_acts_295 : decode cL_acts 295 = .ok (.iload 9, 2) := by decide +kernel
theorem dL_acts_297 : decode cL_acts 297 = .ok (.ifCond .eq 24, 3) := by decide +kernel
theorem dL_acts_300 : decode cL_acts 300 = .ok (.iload 7, 2) := by decide +kernel
theorem dL_acts_302 : decode cL_acts 302 = .ok (.ifCond .eq 19, 3) := by decide +kernel
theorem dL_acts_305 : decode cL_acts 305 = .ok (.iload 8, 2) := by decide +kernel
theorem dL_acts_307 : decode cL_acts 307 = .ok (.ifCond .ne 14, 3) := by decide +kernel
theorem dL_acts_310 : decode cL_acts 310 = .ok (.aload_n 0, 1) := by decide +kernel
theorem dL_acts_311 : decode cL_acts 311 = .ok (.iload 5, 2) := by decide +kernel
theorem dL_acts_313 : decode cL_acts 313 = .ok (.iload 6, 2) := by decide +kernel
theorem dL_acts_315 : decode cL_acts 315 = .ok (.invokevirtual 33, 3) := by decide +kernel
theorem dL_acts_318 : decode cL_acts 318 = .ok (.pop, 1) := by decide +kernel
theorem dL_acts_319 : decode cL_acts 319 = .ok (.iconst 1, 1) := by decide +kernel
theorem dL_acts_320 : decode cL_acts 320 = .ok (.ireturn, 1) := by decide +kernel
theorem dL_acts_321 : decode cL_acts 321 = .ok (.iconst 0, 1) := by decide +kernel
theorem dL_acts_322 : decode cL_acts 322 = .ok (.ireturn, 1) := by decide +kernel
theorem dL_acts_323 : decode cL_acts 323 = .ok (.iload 10, 2) := by decide +kernel
theorem dL_acts_325 : decode cL_acts 325 = .ok (.bipush 12, 2) := by decide +kernel
theorem dL_acts_327 : decode cL_acts 327 = .ok (.if_icmp .ge 12, 3) := by decide +kernel
theorem dL_acts_330 : decode cL_acts 330 = .ok (.aload_n 0, 1) := by decide +kernel
theorem dL_acts_331 : decode cL_acts 331 = .ok (.iload 12, 2) := by decide +kernel
theorem dL_acts_333 : decode cL_acts 333 = .ok (.invokevirtual 36, 3) := by decide +kernel
theorem dL_acts_336 : decode cL_acts 336 = .ok (.pop, 1) := by decide +kernel
theorem dL_acts_337 : decode cL_acts 337 = .ok (.iconst 1, 1) := by decide +kernel
theorem dL_acts_338 : decode cL_acts 338 = .ok (.ireturn, 1) := by decide +kernel
theorem dL_acts_339 : decode cL_acts 339 = .ok (.iconst 0, 1) := by decide +kernel
theorem dL_acts_340 : decode cL_acts 340 = .ok (.ireturn, 1) := by decide +kernel
theorem dL_acts_341 : decode cL_acts 341 = .ok (.aload_n 0, 1) := by decide +kernel
theorem dL_acts_342 : decode cL_acts 342 = .ok (.iconst 1, 1) := by decide +kernel
theorem dL_acts_343 : decode cL_acts 343 = .ok (.iload_n 2, 1) := by decide +kernel
theorem dL_acts_344 : decode cL_acts 344 = .ok (.bipush 12, 2) := by decide +kernel
theorem dL_acts_346 : decode cL_acts 346 = .ok (.invokestatic 18, 3) := by decide +kernel
theorem dL_acts_349 : decode cL_acts 349 = .ok (.iadd, 1) := by decide +kernel
theorem dL_acts_350 : decode cL_acts 350 = .ok (.invokevirtual 39, 3) := by decide +kernel
theorem dL_acts_353 : decode cL_acts 353 = .ok (.pop, 1) := by decide +kernel
theorem dL_acts_354 : decode cL_acts 354 = .ok (.iconst 1, 1) := by decide +kernel
theorem dL_acts_355 : decode cL_acts 355 = .ok (.ireturn, 1) := by decide +kernel
theorem dL_acts_356 : decode cL_acts 356 = .ok (.iload 10, 2) := by decide +kernel
theorem dL_acts_358 : decode cL_acts 358 = .ok (.ifCond .le 12, 3) := by decide +kernel
theorem dL_acts_361 : decode cL_acts 361 = .ok (.aload_n 0, 1) := by decide +kernel
theorem dL_acts_362 : decode cL_acts 362 = .ok (.iload 11, 2) := by decide +kernel
theorem dL_acts_364 : decode cL_acts 364 = .ok (.invokevirtual 42, 3) := by decide +kernel
theorem dL_acts_367 : decode cL_acts 367 = .ok (.pop, 1) := by decide +kernel
theorem dL_acts_368 : decode cL_acts 368 = .ok (.iconst 1, 1) := by decide +kernel
theorem dL_acts_369 : decode cL_acts 369 = .ok (.ireturn, 1) := by decide +kernel
theorem dL_acts_370 : decode cL_acts 370 = .ok (.iconst 0, 1) := by decide +kernel
theorem dL_acts_371 : decode cL_acts 371 = .ok (.ireturn, 1) := by decide +kernel
theorem dL_acts_372 : decode cL_acts 372 = .ok (.aload_n 0, 1) := by decide +kernel
theorem dL_acts_373 : decode cL_acts 373 = .ok (.iload_n 2, 1) := by decide +kernel
theorem dL_acts_374 : decode cL_acts 374 = .ok (.iconst 3, 1) := by decide +kernel
theorem dL_acts_375 : decode cL_acts 375 = .ok (.iand, 1) := by decide +kernel
theorem dL_acts_376 : decode cL_acts 376 = .ok (.iload 12, 2) := by decide +kernel
theorem dL_acts_378 : decode cL_acts 378 = .ok (.invokevirtual 45, 3) := by decide +kernel
theorem dL_acts_381 : decode cL_acts 381 = .ok (.pop, 1) := by decide +kernel
theorem dL_acts_382 : decode cL_acts 382 = .ok (.iconst 1, 1) := by decide +kernel
theorem dL_acts_383 : decode cL_acts 383 = .ok (.ireturn, 1) := by decide +kernel
theorem dL_acts_384 : decode cL_acts 384 = .ok (.aload_n 0, 1) := by decide +kernel
theorem dL_acts_385 : decode cL_acts 385 = .ok (.aload_n 0, 1) := by decide +kernel
theorem dL_acts_386 : decode cL_acts 386 = .ok (.bipush 8, 2) := by decide +kernel
theorem dL_acts_388 : decode cL_acts 388 = .ok (.invokevirtual 8, 3) := by decide +kernel
theorem dL_acts_391 : decode cL_acts 391 = .ok (.invokevirtual 48, 3) := by decide +kernel
theorem dL_acts_394 : decode cL_acts 394 = .ok (.pop, 1) := by decide +kernel
theorem dL_acts_395 : decode cL_acts 395 = .ok (.iconst 1, 1) := by decide +kernel
theorem dL_acts_396 : decode cL_acts 396 = .ok (.ireturn, 1) := by decide +kernel
theorem dL_acts_397 : decode cL_acts 397 = .ok (.aload_n 0, 1) := by decide +kernel
theorem dL_acts_398 : decode cL_acts 398 = .ok (.iload 11, 2) := by decide +kernel
theorem dL_acts_400 : decode cL_acts 400 = .ok (.iload 12, 2) := by decide +kernel
theorem dL_acts_402 : decode cL_acts 402 = .ok (.iload 5, 2) := by decide +kernel
theorem dL_acts_404 : decode cL_acts 404 = .ok (.iload_n 2, 1) := by decide +kernel
theorem dL_acts_405 : decode cL_acts 405 = .ok (.bipush 6, 2) := by decide +kernel
theorem dL_acts_407 : decode cL_acts 407 = .ok (.ishr, 1) := by decide +kernel
theorem dL_acts_408 : decode cL_acts 408 = .ok (.invokestatic 51, 3) := by decide +kernel
theorem dL_acts_411 : decode cL_acts 411 = .ok (.ireturn, 1) := by decide +kernel
theorem dL_writes_0 : decode cL_writes 0 = .ok (.aload_n 0, 1) := by decide +kernel
theorem dL_writes_1 : decode cL_writes 1 = .ok (.iconst 2, 1) := by decide +kernel
theorem dL_writes_2 : decode cL_writes 2 = .ok (.invokevirtual 8, 3) := by decide +kernel
theorem dL_writes_5 : decode cL_writes 5 = .ok (.ifCond .eq 13, 3) := by decide +kernel
theorem dL_writes_8 : decode cL_writes 8 = .ok (.aload_n 0, 1) := by decide +kernel
theorem dL_writes_9 : decode cL_writes 9 = .ok (.iload_n 1, 1) := by decide +kernel
theorem dL_writes_10 : decode cL_writes 10 = .ok (.iload_n 2, 1) := by decide +kernel
theorem dL_writes_11 : decode cL_writes 11 = .ok (.iload_n 3, 1) := by decide +kernel
theorem dL_writes_12 : decode cL_writes 12 = .ok (.invokevirtual 55, 3) := by decide +kernel
theorem dL_writes_15 : decode cL_writes 15 = .ok (.ifCond .eq 5, 3) := by decide +kernel
theorem dL_writes_18 : decode cL_writes 18 = .ok (.iconst 0, 1) := by decide +kernel
theorem dL_writes_19 : decode cL_writes 19 = .ok (.ireturn, 1) := by decide +kernel
theorem dL_writes_20 : decode cL_writes 20 = .ok (.iload 4, 2) := by decide +kernel
theorem dL_writes_22 : decode cL_writes 22 = .ok (.sipush 1000, 3) := by decide +kernel
theorem dL_writes_25 : decode cL_writes 25 = .ok (.invokestatic 18, 3) := by decide +kernel
theorem dL_writes_28 : decode cL_writes 28 = .ok (.istore 5, 2) := by decide +kernel
theorem dL_writes_30 : decode cL_writes 30 = .ok (.aload_n 0, 1) := by decide +kernel
theorem dL_writes_31 : decode cL_writes 31 = .ok (.iload_n 1, 1) := by decide +kernel
theorem dL_writes_32 : decode cL_writes 32 = .ok (.iconst 0, 1) := by decide +kernel
theorem dL_writes_33 : decode cL_writes 33 = .ok (.invokevirtual 58, 3) := by decide +kernel
theorem dL_writes_36 : decode cL_writes 36 = .ok (.istore 6, 2) := by decide +kernel
theorem dL_writes_38 : decode cL_writes 38 = .ok (.aload_n 0, 1) := by decide +kernel
theorem dL_writes_39 : decode cL_writes 39 = .ok (.iload_n 1, 1) := by decide +kernel
theorem dL_writes_40 : decode cL_writes 40 = .ok (.iload_n 2, 1) := by decide +kernel
theorem dL_writes_41 : decode cL_writes 41 = .ok (.iload_n 3, 1) := by decide +kernel
theorem dL_writes_42 : decode cL_writes 42 = .ok (.iload 5, 2) := by decide +kernel
theorem dL_writes_44 : decode cL_writes 44 = .ok (.invokevirtual 61, 3) := by decide +kernel
theorem dL_writes_47 : decode cL_writes 47 = .ok (.istore 7, 2) := by decide +kernel
theorem dL_writes_49 : decode cL_writes 49 = .ok (.aload_n 0, 1) := by decide +kernel
theorem dL_writes_50 : decode cL_writes 50 = .ok (.iload_n 1, 1) := by decide +kernel
theorem dL_writes_51 : decode cL_writes 51 = .ok (.iload_n 2, 1) := by decide +kernel
theorem dL_writes_52 : decode cL_writes 52 = .ok (.iload_n 3, 1) := by decide +kernel
theorem dL_writes_53 : decode cL_writes 53 = .ok (.invokevirtual 65, 3) := by decide +kernel
theorem dL_writes_56 : decode cL_writes 56 = .ok (.iload 5, 2) := by decide +kernel
theorem dL_writes_58 : decode cL_writes 58 = .ok (.if_icmp .ne 36, 3) := by decide +kernel
theorem dL_writes_61 : decode cL_writes 61 = .ok (.iload 7, 2) := by decide +kernel
theorem dL_writes_63 : decode cL_writes 63 = .ok (.iload 6, 2) := by decide +kernel
theorem dL_writes_65 : decode cL_writes 65 = .ok (.if_icmp .eq 9, 3) := by decide +kernel
theorem dL_writes_68 : decode cL_writes 68 = .ok (.iload 7, 2) := by decide +kernel
theorem dL_writes_70 : decode cL_writes 70 = .ok (.iload_n 2, 1) := by decide +kernel
theorem dL_writes_71 : decode cL_writes 71 = .ok (.if_icmp .ne 23, 3) := by decide +kernel
theorem dL_writes_74 : decode cL_writes 74 = .ok (.aload_n 0, 1) := by decide +kernel
theorem dL_writes_75 : decode cL_writes 75 = .ok (.iload_n 2, 1) := by decide +kernel
theorem dL_writes_76 : decode cL_writes 76 = .ok (.iload_n 3, 1) := by decide +kernel
theorem dL_writes_77 : decode cL_writes 77 = .ok (.iload 5, 2) := by decide +kernel
theorem dL_writes_79 : decode cL_writes 79 = .ok (.invokevirtual 68, 3) := by decide +kernel
theorem dL_writes_82 : decode cL_writes 82 = .ok (.iload_n 1, 1) := by decide +kernel
theorem dL_writes_83 : decode cL_writes 83 = .ok (.ishr, 1) := by decide +kernel
theorem dL_writes_84 : decode cL_writes 84 = .ok (.iconst 1, 1) := by decide +kernel
theorem dL_writes_85 : decode cL_writes 85 = .ok (.iand, 1) := by decide +kernel
theorem dL_writes_86 : decode cL_writes 86 = .ok (.iconst 1, 1) := by decide +kernel
theorem dL_writes_87 : decode cL_writes 87 = .ok (.if_icmp .ne 7, 3) := by decide +kernel
theorem dL_writes_90 : decode cL_writes 90 = .ok (.iconst 1, 1) := by decide +kernel
theorem dL_writes_91 : decode cL_writes 91 = .ok (.goto 4, 3) := by decide +kernel
theorem dL_writes_94 : decode cL_writes 94 = .ok (.iconst 0, 1) := by decide +kernel
theorem dL_writes_95 : decode cL_writes 95 = .ok (.ireturn, 1) := by decide +kernel
theorem dL_holds_0 : decode cL_holds 0 = .ok (.iconst 0, 1) := by decide +kernel
theorem dL_holds_1 : decode cL_holds 1 = .ok (.istore_n 1, 1) := by decide +kernel
theorem dL_holds_2 : decode cL_holds 2 = .ok (.iconst 0, 1) := by decide +kernel
theorem dL_holds_3 : decode cL_holds 3 = .ok (.istore_n 2, 1) := by decide +kernel
theorem dL_holds_4 : decode cL_holds 4 = .ok (.iconst 0, 1) := by decide +kernel
theorem dL_holds_5 : decode cL_holds 5 = .ok (.istore_n 3, 1) := by decide +kernel
theorem dL_holds_6 : decode cL_holds 6 = .ok (.iconst 0, 1) := by decide +kernel
theorem dL_holds_7 : decode cL_holds 7 = .ok (.istore 4, 2) := by decide +kernel
theorem dL_holds_9 : decode cL_holds 9 = .ok (.aload_n 0, 1) := by decide +kernel
theorem dL_holds_10 : decode cL_holds 10 = .ok (.iconst 0, 1) := by decide +kernel
theorem dL_holds_11 : decode cL_holds 11 = .ok (.invokevirtual 8, 3) := by decide +kernel
theorem dL_holds_14 : decode cL_holds 14 = .ok (.iconst 1, 1) := by decide +kernel
theorem dL_holds_15 : decode cL_holds 15 = .ok (.isub, 1) := by decide +kernel
theorem dL_holds_16 : decode cL_holds 16 = .ok (.istore 5, 2) := by decide +kernel
theorem dL_holds_18 : decode cL_holds 18 = .ok (.iconst 0, 1) := by decide +kernel
theorem dL_holds_19 : decode cL_holds 19 = .ok (.istore 6, 2) := by decide +kernel
theorem dL_holds_21 : decode cL_holds 21 = .ok (.iload 6, 2) := by decide +kernel
theorem dL_holds_23 : decode cL_holds 23 = .ok (.iload 5, 2) := by decide +kernel
theorem dL_holds_25 : decode cL_holds 25 = .ok (.if_icmp .gt 186, 3) := by decide +kernel
theorem dL_holds_28 : decode cL_holds 28 = .ok (.iload_n 1, 1) := by decide +kernel
theorem dL_holds_29 : decode cL_holds 29 = .ok (.aload_n 0, 1) := by decide +kernel
theorem dL_holds_30 : decode cL_holds 30 = .ok (.iload 6, 2) := by decide +kernel
theorem dL_holds_32 : decode cL_holds 32 = .ok (.iconst 2, 1) := by decide +kernel
theorem dL_holds_33 : decode cL_holds 33 = .ok (.invokevirtual 14, 3) := by decide +kernel
theorem dL_holds_36 : decode cL_holds 36 = .ok (.iadd, 1) := by decide +kernel
theorem dL_holds_37 : decode cL_holds 37 = .ok (.istore_n 1, 1) := by decide +kernel
theorem dL_holds_38 : decode cL_holds 38 = .ok (.iload_n 2, 1) := by decide +kernel
theorem dL_holds_39 : decode cL_holds 39 = .ok (.aload_n 0, 1) := by decide +kernel
theorem dL_holds_40 : decode cL_holds 40 = .ok (.iload 6, 2) := by decide +kernel
theorem dL_holds_42 : decode cL_holds 42 = .ok (.iconst 3, 1) := by decide +kernel
theorem dL_holds_43 : decode cL_holds 43 = .ok (.invokevirtual 14, 3) := by decide +kernel
theorem dL_holds_46 : decode cL_holds 46 = .ok (.iadd, 1) := by decide +kernel
theorem dL_holds_47 : decode cL_holds 47 = .ok (.istore_n 2, 1) := by decide +kernel
theorem dL_holds_48 : decode cL_holds 48 = .ok (.aload_n 0, 1) := by decide +kernel
theorem dL_holds_49 : decode cL_holds 49 = .ok (.iload 6, 2) := by decide +kernel
theorem dL_holds_51 : decode cL_holds 51 = .ok (.iconst 1, 1) := by decide +kernel
theorem dL_holds_52 : decode cL_holds 52 = .ok (.invokevirtual 14, 3) := by decide +kernel
theorem dL_holds_55 : decode cL_holds 55 = .ok (.istore 7, 2) := by decide +kernel
theorem dL_holds_57 : decode cL_holds 57 = .ok (.iload 6, 2) := by decide +kernel
theorem dL_holds_59 : decode cL_holds 59 = .ok (.ifCond .ne 7, 3) := by decide +kernel
theorem dL_holds_62 : decode cL_holds 62 = .ok (.iconst 0, 1) := by decide +kernel
theorem dL_holds_63 : decode cL_holds 63 = .ok (.goto 20, 3) := by decide +kernel
theorem dL_holds_66 : decode cL_holds 66 = .ok (.aload_n 0, 1) := by decide +kernel
theorem dL_holds_67 : decode cL_holds 67 = .ok (.iload 6, 2) := by decide +kernel
theorem dL_holds_69 : decode cL_holds 69 = .ok (.iconst 0, 1) := by decide +kernel
theorem dL_holds_70 : decode cL_holds 70 = .ok (.invokevirtual 14, 3) := by decide +kernel
theorem dL_holds_73 : decode cL_holds 73 = .ok (.aload_n 0, 1) := by decide +kernel
theorem dL_holds_74 : decode cL_holds 74 = .ok (.iload 6, 2) := by decide +kernel
theorem dL_holds_76 : decode cL_holds 76 = .ok (.iconst 1, 1) := by decide +kernel
theorem dL_holds_77 : decode cL_holds 77 = .ok (.isub, 1) := by decide +kernel
theorem dL_holds_78 : decode cL_holds 78 = .ok (.iconst 0, 1) := by decide +kernel
theorem dL_holds_79 : decode cL_holds 79 = .ok (.invokevirtual 14, 3) := by decide +kernel
theorem dL_holds_82 : decode cL_holds 82 = .ok (.isub, 1) := by decide +kernel
theorem dL_holds_83 : decode cL_holds 83 = .ok (.istore 8, 2) := by decide +kernel
theorem dL_holds_85 : decode cL_holds 85 = .ok (.iload 6, 2) := by decide +kernel
theorem dL_holds_87 : decode cL_holds 87 = .ok (.ifCond .ne 25, 3) := by decide +kernel
theorem dL_holds_90 : decode cL_holds 90 = .ok (.iload 7, 2) := by decide +kernel
theorem dL_holds_92 : decode cL_holds 92 = .ok (.ifCond .ne 16, 3) := by decide +kernel
theorem dL_holds_95 : decode cL_holds 95 = .ok (.aload_n 0, 1) := by decide +kernel
theorem dL_holds_96 : decode cL_holds 96 = .ok (.iconst 0, 1) := by decide +kernel
theorem dL_holds_97 : decode cL_holds 97 = .ok (.iconst 0, 1) := by decide +kernel
theorem dL_holds_98 : decode cL_holds 98 = .ok (.invokevirtual 14, 3) := by decide +kernel
theorem dL_holds_101 : decode cL_holds 101 = .ok (.ifCond .ne 7, 3) := by decide +kernel
theorem dL_holds_104 : decode cL_holds 104 = .ok (.iconst 1, 1) := by decide +kernel
theorem dL_holds_105 : decode cL_holds 105 = .ok (.goto 38, 3) := by decide +kernel
theorem dL_holds_108 : decode cL_holds 108 = .ok (.iconst 0, 1) := by decide +kernel
theorem dL_holds_109 : decode cL_holds 109 = .ok (.goto 34, 3) := by decide +kernel
theorem dL_holds_112 : decode cL_holds 112 = .ok (.iload 8, 2) := by decide +kernel
theorem dL_holds_114 : decode cL_holds 114 = .ok (.iload 7, 2) := by decide +kernel
theorem dL_holds_116 : decode cL_holds 116 = .ok (.iconst 4, 1) := by decide +kernel
theorem dL_holds_117 : decode cL_holds 117 = .ok (.if_icmp .ge 7, 3) := by decide +kernel
theorem dL_holds_120 : decode cL_holds 120 = .ok (.iconst 1, 1) := by decide +kernel
theorem dL_holds_121 : decode cL_holds 121 = .ok (.goto 14, 3) := by decide +kernel
theorem dL_holds_124 : decode cL_holds 124 = .ok (.iload 7, 2) := by decide +kernel
theorem dL_holds_126 : decode cL_holds 126 = .ok (.iconst 4, 1) := by decide +kernel
theorem dL_holds_127 : decode cL_holds 127 = .ok (.if_icmp .ne 7, 3) := by decide +kernel
theorem dL_holds_130 : decode cL_holds 130 = .ok (.iconst (-1), 1) := by decide +kernel
theorem dL_holds_131 : decode cL_holds 131 = .ok (.goto 4, 3) := by decide +kernel
theorem dL_holds_134 : decode cL_holds 134 = .ok (.iconst 0, 1) := by decide +kernel
theorem dL_holds_135 : decode cL_holds 135 = .ok (.if_icmp .ne 7, 3) := by decide +kernel
theorem dL_holds_138 : decode cL_holds 138 = .ok (.iconst 1, 1) := by decide +kernel
theorem dL_holds_139 : decode cL_holds 139 = .ok (.goto 4, 3) := by decide +kernel
theorem dL_holds_142 : decode cL_holds 142 = .ok (.iconst 0, 1) := by decide +kernel
theorem dL_holds_143 : decode cL_holds 143 = .ok (.istore 9, 2) := by decide +kernel
theorem dL_holds_145 : decode cL_holds 145 = .ok (.iload 9, 2) := by decide +kernel
theorem dL_holds_147 : decode cL_holds 147 = .ok (.ifCond .eq 56, 3) := by decide +kernel
theorem dL_holds_150 : decode cL_holds 150 = .ok (.aload_n 0, 1) := by decide +kernel
theorem dL_holds_151 : decode cL_holds 151 = .ok (.iload 6, 2) := by decide +kernel
theorem dL_holds_153 : decode cL_holds 153 = .ok (.iconst 4, 1) := by decide +kernel
theorem dL_holds_154 : decode cL_holds 154 = .ok (.invokevirtual 14, 3) := by decide +kernel
theorem dL_holds_157 : decode cL_holds 157 = .ok (.iload 6, 2) := by decide +kernel
theorem dL_holds_159 : decode cL_holds 159 = .ok (.aload_n 0, 1) := by decide +kernel
theorem dL_holds_160 : decode cL_holds 160 = .ok (.iconst 1, 1) := by decide +kernel
theorem dL_holds_161 : decode cL_holds 161 = .ok (.invokevirtual 8, 3) := by decide +kernel
theorem dL_holds_164 : decode cL_holds 164 = .ok (.if_icmp .ge 7, 3) := by decide +kernel
theorem dL_holds_167 : decode cL_holds 167 = .ok (.iconst 1, 1) := by decide +kernel
theorem dL_holds_168 : decode cL_holds 168 = .ok (.goto 4, 3) := by decide +kernel
theorem dL_holds_171 : decode cL_holds 171 = .ok (.iconst 0, 1) := by decide +kernel
theorem dL_holds_172 : decode cL_holds 172 = .ok (.if_icmp .ne 31, 3) := by decide +kernel
theorem dL_holds_175 : decode cL_holds 175 = .ok (.iload 6, 2) := by decide +kernel
theorem dL_holds_177 : decode cL_holds 177 = .ok (.aload_n 0, 1) := by decide +kernel
theorem dL_holds_178 : decode cL_holds 178 = .ok (.iconst 1, 1) := by decide +kernel
theorem dL_holds_179 : decode cL_holds 179 = .ok (.invokevirtual 8, 3) := by decide +kernel
theorem dL_holds_182 : decode cL_holds 182 = .ok (.if_icmp .ge 23, 3) := by decide +kernel
theorem dL_holds_185 : decode cL_holds 185 = .ok (.aload_n 0, 1) := by decide +kernel
theorem dL_holds_186 : decode cL_holds 186 = .ok (.iload 6, 2) := by decide +kernel
theorem dL_holds_188 : decode cL_holds 188 = .ok (.iconst 2, 1) := by decide +kernel
theorem dL_holds_189 : decode cL_holds 189 = .ok (.invokevirtual 14, 3) := by decide +kernel
theorem dL_holds_192 : decode cL_holds 192 = .ok (.aload_n 0, 1) := by decide +kernel
theorem dL_holds_193 : decode cL_holds 193 = .ok (.iload 6, 2) := by decide +kernel
theorem dL_holds_195 : decode cL_holds 195 = .ok (.iconst 3, 1) := by decide +kernel
theorem dL_holds_196 : decode cL_holds 196 = .ok (.invokevirtual 14, 3) := by decide +kernel
theorem dL_holds_199 : decode cL_holds 199 = .ok (.iadd, 1) := by decide +kernel
theorem dL_holds_200 : decode cL_holds 200 = .ok (.ifCond .le 5, 3) := by decide +kernel
theorem dL_holds_203 : decode cL_holds 203 = .ok (.iconst 0, 1) := by decide +kernel
theorem dL_holds_204 : decode cL_holds 204 = .ok (.ireturn, 1) := by decide +kernel
theorem dL_holds_205 : decode cL_holds 205 = .ok (.iinc 6 1, 3) := by decide +kernel
theorem dL_holds_208 : decode cL_holds 208 = .ok (.goto (-187), 3) := by decide +kernel
theorem dL_holds_211 : decode cL_holds 211 = .ok (.iconst 0, 1) := by decide +kernel
theorem dL_holds_212 : decode cL_holds 212 = .ok (.istore 6, 2) := by decide +kernel
theorem dL_holds_214 : decode cL_holds 214 = .ok (.iload 6, 2) := by decide +kernel
theorem dL_holds_216 : decode cL_holds 216 = .ok (.aload_n 0, 1) := by decide +kernel
theorem dL_holds_217 : decode cL_holds 217 = .ok (.iconst 2, 1) := by decide +kernel
theorem dL_holds_218 : decode cL_holds 218 = .ok (.invokevirtual 8, 3) := by decide +kernel
theorem dL_holds_221 : decode cL_holds 221 = .ok (.if_icmp .ge 151, 3) := by decide +kernel
theorem dL_holds_224 : decode cL_holds 224 = .ok (.iconst 0, 1) := by decide +kernel
theorem dL_holds_225 : decode cL_holds 225 = .ok (.istore 7, 2) := by decide +kernel
theorem dL_holds_227 : decode cL_holds 227 = .ok (.iconst 0, 1) := by decide +kernel
theorem dL_holds_228 : decode cL_holds 228 = .ok (.istore 8, 2) := by decide +kernel
theorem dL_holds_230 : decode cL_holds 230 = .ok (.iload 8, 2) := by decide +kernel
theorem dL_holds_232 : decode cL_holds 232 = .ok (.bipush 8, 2) := by decide +kernel
theorem dL_holds_234 : decode cL_holds 234 = .ok (.if_icmp .ge 37, 3) := by decide +kernel
theorem dL_holds_237 : decode cL_holds 237 = .ok (.aload_n 0, 1) := by decide +kernel
theorem dL_holds_238 : decode cL_holds 238 = .ok (.iload 6, 2) := by decide +kernel
theorem dL_holds_240 : decode cL_holds 240 = .ok (.iload 5, 2) := by decide +kernel
theorem dL_holds_242 : decode cL_holds 242 = .ok (.iload 8, 2) := by decide +kernel
theorem dL_holds_244 : decode cL_holds 244 = .ok (.invokevirtual 65, 3) := by decide +kernel
theorem dL_holds_247 : decode cL_holds 247 = .ok (.istore 9, 2) := by decide +kernel
theorem dL_holds_249 : decode cL_holds 249 = .ok (.iload 7, 2) := by decide +kernel
theorem dL_holds_251 : decode cL_holds 251 = .ok (.iload 9, 2) := by decide +kernel
theorem dL_holds_253 : decode cL_holds 253 = .ok (.ifCond .ge 7, 3) := by decide +kernel
theorem dL_holds_256 : decode cL_holds 256 = .ok (.iconst 0, 1) := by decide +kernel
theorem dL_holds_257 : decode cL_holds 257 = .ok (.goto 5, 3) := by decide +kernel
theorem dL_holds_260 : decode cL_holds 260 = .ok (.iload 9, 2) := by decide +kernel
theorem dL_holds_262 : decode cL_holds 262 = .ok (.iadd, 1) := by decide +kernel
theorem dL_holds_263 : decode cL_holds 263 = .ok (.istore 7, 2) := by decide +kernel
theorem dL_holds_265 : decode cL_holds 265 = .ok (.iinc 8 1, 3) := by decide +kernel
theorem dL_holds_268 : decode cL_holds 268 = .ok (.goto (-38), 3) := by decide +kernel
theorem dL_holds_271 : decode cL_holds 271 = .ok (.iload_n 3, 1) := by decide +kernel
theorem dL_holds_272 : decode cL_holds 272 = .ok (.aload_n 0, 1) := by decide +kernel
theorem dL_holds_273 : decode cL_holds 273 = .ok (.iload 6, 2) := by decide +kernel
theorem dL_holds_275 : decode cL_holds 275 = .ok (.iconst 2, 1) := by decide +kernel
theorem dL_holds_276 : decode cL_holds 276 = .ok (.invokevirtual 58, 3) := by decide +kernel
theorem dL_holds_279 : decode cL_holds 279 = .ok (.ifCond .le 7, 3) := by decide +kernel
theorem dL_holds_282 : decode cL_holds 282 = .ok (.iconst 1, 1) := by decide +kernel
theorem dL_holds_283 : decode cL_holds 283 = .ok (.goto 4, 3) := by decide +kernel
theorem dL_holds_286 : decode cL_holds 286 = .ok (.iconst 0, 1) := by decide +kernel
theorem dL_holds_287 : decode cL_holds 287 = .ok (.iadd, 1) := by decide +kernel
theorem dL_holds_288 : decode cL_holds 288 = .ok (.istore_n 3, 1) := by decide +kernel
theorem dL_holds_289 : decode cL_holds 289 = .ok (.iload 4, 2) := by decide +kernel
theorem dL_holds_291 : decode cL_holds 291 = .ok (.aload_n 0, 1) := by decide +kernel
theorem dL_holds_292 : decode cL_holds 292 = .ok (.iload 6, 2) := by decide +kernel
theorem dL_holds_294 : decode cL_holds 294 = .ok (.iconst 3, 1) := by decide +kernel
theorem dL_holds_295 : decode cL_holds 295 = .ok (.invokevirtual 58, 3) := by decide +kernel
theorem dL_holds_298 : decode cL_holds 298 = .ok (.iadd, 1) := by decide +kernel
theorem dL_holds_299 : decode cL_holds 299 = .ok (.istore 4, 2) := by decide +kernel
theorem dL_holds_301 : decode cL_holds 301 = .ok (.iload 7, 2) := by decide +kernel
theorem dL_holds_303 : decode cL_holds 303 = .ok (.aload_n 0, 1) := by decide +kernel
theorem dL_holds_304 : decode cL_holds 304 = .ok (.iload 6, 2) := by decide +kernel
theorem dL_holds_306 : decode cL_holds 306 = .ok (.iconst 5, 1) := by decide +kernel
theorem dL_holds_307 : decode cL_holds 307 = .ok (.invokevirtual 58, 3) := by decide +kernel
theorem dL_holds_310 : decode cL_holds 310 = .ok (.if_icmp .ne 54, 3) := by decide +kernel
theorem dL_holds_313 : decode cL_holds 313 = .ok (.aload_n 0, 1) := by decide +kernel
theorem dL_holds_314 : decode cL_holds 314 = .ok (.iload 6, 2) := by decide +kernel
theorem dL_holds_316 : decode cL_holds 316 = .ok (.iconst 0, 1) := by decide +kernel
theorem dL_holds_317 : decode cL_holds 317 = .ok (.invokevirtual 58, 3) := by decide +kernel
theorem dL_holds_320 : decode cL_holds 320 = .ok (.aload_n 0, 1) := by decide +kernel
theorem dL_holds_321 : decode cL_holds 321 = .ok (.iconst 1, 1) := by decide +kernel
theorem dL_holds_322 : decode cL_holds 322 = .ok (.invokevirtual 8, 3) := by decide +kernel
theorem dL_holds_325 : decode cL_holds 325 = .ok (.if_icmp .lt 39, 3) := by decide +kernel
theorem dL_holds_328 : decode cL_holds 328 = .ok (.aload_n 0, 1) := by decide +kernel
theorem dL_holds_329 : decode cL_holds 329 = .ok (.iload 6, 2) := by decide +kernel
theorem dL_holds_331 : decode cL_holds 331 = .ok (.iconst 2, 1) := by decide +kernel
theorem dL_holds_332 : decode cL_holds 332 = .ok (.invokevirtual 58, 3) := by decide +kernel
theorem dL_holds_335 : decode cL_holds 335 = .ok (.iload 5, 2) := by decide +kernel
theorem dL_holds_337 : decode cL_holds 337 = .ok (.aload_n 0, 1) := by decide +kernel
theorem dL_holds_338 : decode cL_holds 338 = .ok (.iload 6, 2) := by decide +kernel
theorem dL_holds_340 : decode cL_holds 340 = .ok (.iconst 0, 1) := by decide +kernel
theorem dL_holds_341 : decode cL_holds 341 = .ok (.invokevirtual 58, 3) := by decide +kernel
theorem dL_holds_344 : decode cL_holds 344 = .ok (.isub, 1) := by decide +kernel
theorem dL_holds_345 : decode cL_holds 345 = .ok (.if_icmp .ne 19, 3) := by decide +kernel
theorem dL_holds_348 : decode cL_holds 348 = .ok (.aload_n 0, 1) := by decide +kernel
theorem dL_holds_349 : decode cL_holds 349 = .ok (.iload 6, 2) := by decide +kernel
theorem dL_holds_351 : decode cL_holds 351 = .ok (.aload_n 0, 1) := by decide +kernel
theorem dL_holds_352 : decode cL_holds 352 = .ok (.iload 6, 2) := by decide +kernel
theorem dL_holds_354 : decode cL_holds 354 = .ok (.iconst 0, 1) := by decide +kernel
theorem dL_holds_355 : decode cL_holds 355 = .ok (.invokevirtual 58, 3) := by decide +kernel
theorem dL_holds_358 : decode cL_holds 358 = .ok (.invokevirtual 71, 3) := by decide +kernel
theorem dL_holds_361 : decode cL_holds 361 = .ok (.ifCond .eq 5, 3) := by decide +kernel
theorem dL_holds_364 : decode cL_holds 364 = .ok (.iconst 0, 1) := by decide +kernel
theorem dL_holds_365 : decode cL_holds 365 = .ok (.ireturn, 1) := by decide +kernel
theorem dL_holds_366 : decode cL_holds 366 = .ok (.iinc 6 1, 3) := by decide +kernel
theorem dL_holds_369 : decode cL_holds 369 = .ok (.goto (-155), 3) := by decide +kernel
theorem dL_holds_372 : decode cL_holds 372 = .ok (.iload_n 1, 1) := by decide +kernel
theorem dL_holds_373 : decode cL_holds 373 = .ok (.aload_n 0, 1) := by decide +kernel
theorem dL_holds_374 : decode cL_holds 374 = .ok (.iconst 2, 1) := by decide +kernel
theorem dL_holds_375 : decode cL_holds 375 = .ok (.invokevirtual 8, 3) := by decide +kernel
theorem dL_holds_378 : decode cL_holds 378 = .ok (.if_icmp .ne 71, 3) := by decide +kernel
theorem dL_holds_381 : decode cL_holds 381 = .ok (.iload_n 2, 1) := by decide +kernel
theorem dL_holds_382 : decode cL_holds 382 = .ok (.iconst 4, 1) := by decide +kernel
theorem dL_holds_383 : decode cL_holds 383 = .ok (.if_icmp .ne 66, 3) := by decide +kernel
theorem dL_holds_386 : decode cL_holds 386 = .ok (.iload_n 3, 1) := by decide +kernel
theorem dL_holds_387 : decode cL_holds 387 = .ok (.aload_n 0, 1) := by decide +kernel
theorem dL_holds_388 : decode cL_holds 388 = .ok (.iconst 3, 1) := by decide +kernel
theorem dL_holds_389 : decode cL_holds 389 = .ok (.invokevirtual 8, 3) := by decide +kernel
theorem dL_holds_392 : decode cL_holds 392 = .ok (.if_icmp .ne 57, 3) := by decide +kernel
theorem dL_holds_395 : decode cL_holds 395 = .ok (.iload 4, 2) := by decide +kernel
theorem dL_holds_397 : decode cL_holds 397 = .ok (.aload_n 0, 1) := by decide +kernel
theorem dL_holds_398 : decode cL_holds 398 = .ok (.iconst 5, 1) := by decide +kernel
theorem dL_holds_399 : decode cL_holds 399 = .ok (.invokevirtual 8, 3) := by decide +kernel
theorem dL_holds_402 : decode cL_holds 402 = .ok (.if_icmp .gt 47, 3) := by decide +kernel
theorem dL_holds_405 : decode cL_holds 405 = .ok (.aload_n 0, 1) := by decide +kernel
theorem dL_holds_406 : decode cL_holds 406 = .ok (.bipush 8, 2) := by decide +kernel
theorem dL_holds_408 : decode cL_holds 408 = .ok (.invokevirtual 8, 3) := by decide +kernel
theorem dL_holds_411 : decode cL_holds 411 = .ok (.aload_n 0, 1) := by decide +kernel
theorem dL_holds_412 : decode cL_holds 412 = .ok (.iconst 1, 1) := by decide +kernel
theorem dL_holds_413 : decode cL_holds 413 = .ok (.invokevirtual 8, 3) := by decide +kernel
theorem dL_holds_416 : decode cL_holds 416 = .ok (.if_icmp .lt 33, 3) := by decide +kernel
theorem dL_holds_419 : decode cL_holds 419 = .ok (.aload_n 0, 1) := by decide +kernel
theorem dL_holds_420 : decode cL_holds 420 = .ok (.invokevirtual 74, 3) := by decide +kernel
theorem dL_holds_423 : decode cL_holds 423 = .ok (.dconst 1, 1) := by decide +kernel
theorem dL_holds_424 : decode cL_holds 424 = .ok (.dcmp .l, 1) := by decide +kernel
theorem dL_holds_425 : decode cL_holds 425 = .ok (.ifCond .ne 7, 3) := by decide +kernel
theorem dL_holds_428 : decode cL_holds 428 = .ok (.iconst 1, 1) := by decide +kernel
theorem dL_holds_429 : decode cL_holds 429 = .ok (.goto 4, 3) := by decide +kernel
theorem dL_holds_432 : decode cL_holds 432 = .ok (.iconst 0, 1) := by decide +kernel
theorem dL_holds_433 : decode cL_holds 433 = .ok (.iload_n 3, 1) := by decide +kernel
theorem dL_holds_434 : decode cL_holds 434 = .ok (.ifCond .ne 7, 3) := by decide +kernel
theorem dL_holds_437 : decode cL_holds 437 = .ok (.iconst 1, 1) := by decide +kernel
theorem dL_holds_438 : decode cL_holds 438 = .ok (.goto 4, 3) := by decide +kernel
theorem dL_holds_441 : decode cL_holds 441 = .ok (.iconst 0, 1) := by decide +kernel
theorem dL_holds_442 : decode cL_holds 442 = .ok (.if_icmp .ne 7, 3) := by decide +kernel
theorem dL_holds_445 : decode cL_holds 445 = .ok (.iconst 1, 1) := by decide +kernel
theorem dL_holds_446 : decode cL_holds 446 = .ok (.goto 4, 3) := by decide +kernel
theorem dL_holds_449 : decode cL_holds 449 = .ok (.iconst 0, 1) := by decide +kernel
theorem dL_holds_450 : decode cL_holds 450 = .ok (.ireturn, 1) := by decide +kernel
theorem dL_law_0 : decode cL_law 0 = .ok (.new 9, 3) := by decide +kernel
theorem dL_law_3 : decode cL_law 3 = .ok (.dup, 1) := by decide +kernel
theorem dL_law_4 : decode cL_law 4 = .ok (.invokespecial 78, 3) := by decide +kernel
theorem dL_law_7 : decode cL_law 7 = .ok (.astore_n 1, 1) := by decide +kernel
theorem dL_law_8 : decode cL_law 8 = .ok (.iconst 0, 1) := by decide +kernel
theorem dL_law_9 : decode cL_law 9 = .ok (.istore_n 2, 1) := by decide +kernel
theorem dL_law_10 : decode cL_law 10 = .ok (.iload_n 2, 1) := by decide +kernel
theorem dL_law_11 : decode cL_law 11 = .ok (.bipush 36, 2) := by decide +kernel
theorem dL_law_13 : decode cL_law 13 = .ok (.if_icmp .ge 182, 3) := by decide +kernel
theorem dL_law_16 : decode cL_law 16 = .ok (.aload_n 0, 1) := by decide +kernel
theorem dL_law_17 : decode cL_law 17 = .ok (.iconst 2, 1) := by decide +kernel
theorem dL_law_18 : decode cL_law 18 = .ok (.iload_n 2, 1) := by decide +kernel
theorem dL_law_19 : decode cL_law 19 = .ok (.imul, 1) := by decide +kernel
theorem dL_law_20 : decode cL_law 20 = .ok (.invokestatic 79, 3) := by decide +kernel
theorem dL_law_23 : decode cL_law 23 = .ok (.istore_n 3, 1) := by decide +kernel
theorem dL_law_24 : decode cL_law 24 = .ok (.aload_n 0, 1) := by decide +kernel
theorem dL_law_25 : decode cL_law 25 = .ok (.iconst 2, 1) := by decide +kernel
theorem dL_law_26 : decode cL_law 26 = .ok (.iload_n 2, 1) := by decide +kernel
theorem dL_law_27 : decode cL_law 27 = .ok (.imul, 1) := by decide +kernel
theorem dL_law_28 : decode cL_law 28 = .ok (.iconst 1, 1) := by decide +kernel
theorem dL_law_29 : decode cL_law 29 = .ok (.iadd, 1) := by decide +kernel
theorem dL_law_30 : decode cL_law 30 = .ok (.invokestatic 79, 3) := by decide +kernel
theorem dL_law_33 : decode cL_law 33 = .ok (.istore 4, 2) := by decide +kernel
theorem dL_law_35 : decode cL_law 35 = .ok (.aload_n 1, 1) := by decide +kernel
theorem dL_law_36 : decode cL_law 36 = .ok (.bipush 9, 2) := by decide +kernel
theorem dL_law_38 : decode cL_law 38 = .ok (.invokevirtual 8, 3) := by decide +kernel
theorem dL_law_41 : decode cL_law 41 = .ok (.istore 5, 2) := by decide +kernel
theorem dL_law_43 : decode cL_law 43 = .ok (.aload_n 1, 1) := by decide +kernel
theorem dL_law_44 : decode cL_law 44 = .ok (.invokevirtual 83, 3) := by decide +kernel
theorem dL_law_47 : decode cL_law 47 = .ok (.lstore 6, 2) := by decide +kernel
theorem dL_law_49 : decode cL_law 49 = .ok (.aload_n 1, 1) := by decide +kernel
theorem dL_law_50 : decode cL_law 50 = .ok (.iload_n 3, 1) := by decide +kernel
theorem dL_law_51 : decode cL_law 51 = .ok (.iload 4, 2) := by decide +kernel
theorem dL_law_53 : decode cL_law 53 = .ok (.invokestatic 87, 3) := by decide +kernel
theorem dL_law_56 : decode cL_law 56 = .ok (.istore 8, 2) := by decide +kernel
theorem dL_law_58 : decode cL_law 58 = .ok (.aload_n 1, 1) := by decide +kernel
theorem dL_law_59 : decode cL_law 59 = .ok (.invokevirtual 83, 3) := by decide +kernel
theorem dL_law_62 : decode cL_law 62 = .ok (.lstore 9, 2) := by decide +kernel
theorem dL_law_64 : decode cL_law 64 = .ok (.iload 8, 2) := by decide +kernel
theorem dL_law_66 : decode cL_law 66 = .ok (.ifCond .eq 31, 3) := by decide +kernel
theorem dL_law_69 : decode cL_law 69 = .ok (.aload_n 1, 1) := by decide +kernel
theorem dL_law_70 : decode cL_law 70 = .ok (.bipush 9, 2) := by decide +kernel
theorem dL_law_72 : decode cL_law 72 = .ok (.invokevirtual 8, 3) := by decide +kernel
theorem dL_law_75 : decode cL_law 75 = .ok (.iload 5, 2) := by decide +kernel
theorem dL_law_77 : decode cL_law 77 = .ok (.bipush 6, 2) := by decide +kernel
theorem dL_law_79 : decode cL_law 79 = .ok (.if_icmp .ge 10, 3) := by decide +kernel
theorem dL_law_82 : decode cL_law 82 = .ok (.iload 5, 2) := by decide +kernel
theorem dL_law_84 : decode cL_law 84 = .ok (.iconst 1, 1) := by decide +kernel
theorem dL_law_85 : decode cL_law 85 = .ok (.iadd, 1) := by decide +kernel
theorem dL_law_86 : decode cL_law 86 = .ok (.goto 5, 3) := by decide +kernel
theorem dL_law_89 : decode cL_law 89 = .ok (.bipush 6, 2) := by decide +kernel
theorem dL_law_91 : decode cL_law 91 = .ok (.if_icmp .eq 16, 3) := by decide +kernel
theorem dL_law_94 : decode cL_law 94 = .ok (.goto 11, 3) := by decide +kernel
theorem dL_law_97 : decode cL_law 97 = .ok (.lload 9, 2) := by decide +kernel
theorem dL_law_99 : decode cL_law 99 = .ok (.lload 6, 2) := by decide +kernel
theorem dL_law_101 : decode cL_law 101 = .ok (.lcmp, 1) := by decide +kernel
theorem dL_law_102 : decode cL_law 102 = .ok (.ifCond .eq 5, 3) := by decide +kernel
theorem dL_law_105 : decode cL_law 105 = .ok (.iconst 0, 1) := by decide +kernel
theorem dL_law_106 : decode cL_law 106 = .ok (.ireturn, 1) := by decide +kernel
theorem dL_law_107 : decode cL_law 107 = .ok (.iload 8, 2) := by decide +kernel
theorem dL_law_109 : decode cL_law 109 = .ok (.ifCond .eq 61, 3) := by decide +kernel
theorem dL_law_112 : decode cL_law 112 = .ok (.iload 5, 2) := by decide +kernel
theorem dL_law_114 : decode cL_law 114 = .ok (.bipush 6, 2) := by decide +kernel
theorem dL_law_116 : decode cL_law 116 = .ok (.if_icmp .ge 54, 3) := by decide +kernel
theorem dL_law_119 : decode cL_law 119 = .ok (.iload_n 3, 1) := by decide +kernel
theorem dL_law_120 : decode cL_law 120 = .ok (.bipush 12, 2) := by decide +kernel
theorem dL_law_122 : decode cL_law 122 = .ok (.ishr, 1) := by decide +kernel
theorem dL_law_123 : decode cL_law 123 = .ok (.iconst 1, 1) := by decide +kernel
theorem dL_law_124 : decode cL_law 124 = .ok (.iand, 1) := by decide +kernel
theorem dL_law_125 : decode cL_law 125 = .ok (.iconst 1, 1) := by decide +kernel
theorem dL_law_126 : decode cL_law 126 = .ok (.if_icmp .ne 44, 3) := by decide +kernel
theorem dL_law_129 : decode cL_law 129 = .ok (.aload_n 1, 1) := by decide +kernel
theorem dL_law_130 : decode cL_law 130 = .ok (.invokevirtual 91, 3) := by decide +kernel
theorem dL_law_133 : decode cL_law 133 = .ok (.iload 5, 2) := by decide +kernel
theorem dL_law_135 : decode cL_law 135 = .ok (.if_icmp .ne 33, 3) := by decide +kernel
theorem dL_law_138 : decode cL_law 138 = .ok (.aload_n 1, 1) := by decide +kernel
theorem dL_law_139 : decode cL_law 139 = .ok (.invokevirtual 83, 3) := by decide +kernel
theorem dL_law_142 : decode cL_law 142 = .ok (.lload 6, 2) := by decide +kernel
theorem dL_law_144 : decode cL_law 144 = .ok (.lcmp, 1) := by decide +kernel
theorem dL_law_145 : decode cL_law 145 = .ok (.ifCond .ne 23, 3) := by decide +kernel
theorem dL_law_148 : decode cL_law 148 = .ok (.aload_n 1, 1) := by decide +kernel
theorem dL_law_149 : decode cL_law 149 = .ok (.iload_n 3, 1) := by decide +kernel
theorem dL_law_150 : decode cL_law 150 = .ok (.iload 4, 2) := by decide +kernel
theorem dL_law_152 : decode cL_law 152 = .ok (.invokestatic 87, 3) := by decide +kernel
theorem dL_law_155 : decode cL_law 155 = .ok (.ifCond .eq 13, 3) := by decide +kernel
theorem dL_law_158 : decode cL_law 158 = .ok (.aload_n 1, 1) := by decide +kernel
theorem dL_law_159 : decode cL_law 159 = .ok (.invokevirtual 83, 3) := by decide +kernel
theorem dL_law_162 : decode cL_law 162 = .ok (.lload 9, 2) := by decide +kernel
theorem dL_law_164 : decode cL_law 164 = .ok (.lcmp, 1) := by decide +kernel
theorem dL_law_165 : decode cL_law 165 = .ok (.ifCond .eq 5, 3) := by decide +kernel
theorem dL_law_168 : decode cL_law 168 = .ok (.iconst 0, 1) := by decide +kernel
theorem dL_law_169 : decode cL_law 169 = .ok (.ireturn, 1) := by decide +kernel
theorem dL_law_170 : decode cL_law 170 = .ok (.aload_n 1, 1) := by decide +kernel
theorem dL_law_171 : decode cL_law 171 = .ok (.invokestatic 95, 3) := by decide +kernel
theorem dL_law_174 : decode cL_law 174 = .ok (.ifCond .eq 13, 3) := by decide +kernel
theorem dL_law_177 : decode cL_law 177 = .ok (.aload_n 1, 1) := by decide +kernel
theorem dL_law_178 : decode cL_law 178 = .ok (.invokevirtual 83, 3) := by decide +kernel
theorem dL_law_181 : decode cL_law 181 = .ok (.lload 9, 2) := by decide +kernel
theorem dL_law_183 : decode cL_law 183 = .ok (.lcmp, 1) := by decide +kernel
theorem dL_law_184 : decode cL_law 184 = .ok (.ifCond .eq 5, 3) := by decide +kernel
theorem dL_law_187 : decode cL_law 187 = .ok (.iconst 0, 1) := by decide +kernel
theorem dL_law_188 : decode cL_law 188 = .ok (.ireturn, 1) := by decide +kernel
theorem dL_law_189 : decode cL_law 189 = .ok (.iinc 2 1, 3) := by decide +kernel
theorem dL_law_192 : decode cL_law 192 = .ok (.goto (-182), 3) := by decide +kernel
theorem dL_law_195 : decode cL_law 195 = .ok (.iconst 1, 1) := by decide +kernel
theorem dL_law_196 : decode cL_law 196 = .ok (.ireturn, 1) := by decide +kernel
