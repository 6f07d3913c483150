theorem dX0_init_0 : decode cX0_init 0 = .ok (.aload_n 0, 1) := by decide +kernel
theorem dX0_init_1 : decode cX0_init 1 = .ok (.invokespecial 3, 3) := by decide +kernel
theorem dX0_init_4 : decode cX0_init 4 = .ok (.aload_n 0, 1) := by decide +kernel
theorem dX0_init_5 : decode cX0_init 5 = .ok (.bipush 6, 2) := by decide +kernel
theorem dX0_init_7 : decode cX0_init 7 = .ok (.anewarray 9, 3) := by decide +kernel
theorem dX0_init_10 : decode cX0_init 10 = .ok (.putfield 11, 3) := by decide +kernel
theorem dX0_init_13 : decode cX0_init 13 = .ok (.aload_n 0, 1) := by decide +kernel
theorem dX0_init_14 : decode cX0_init 14 = .ok (.iconst 0, 1) := by decide +kernel
theorem dX0_init_15 : decode cX0_init 15 = .ok (.putfield 17, 3) := by decide +kernel
theorem dX0_init_18 : decode cX0_init 18 = .ok (.iconst 0, 1) := by decide +kernel
theorem dX0_init_19 : decode cX0_init 19 = .ok (.istore_n 1, 1) := by decide +kernel
theorem dX0_init_20 : decode cX0_init 20 = .ok (.iload_n 1, 1) := by decide +kernel
theorem dX0_init_21 : decode cX0_init 21 = .ok (.aload_n 0, 1) := by decide +kernel
theorem dX0_init_22 : decode cX0_init 22 = .ok (.getfield 11, 3) := by decide +kernel
theorem dX0_init_25 : decode cX0_init 25 = .ok (.arraylength, 1) := by decide +kernel
theorem dX0_init_26 : decode cX0_init 26 = .ok (.if_icmp .ge 22, 3) := by decide +kernel
theorem dX0_init_29 : decode cX0_init 29 = .ok (.aload_n 0, 1) := by decide +kernel
theorem dX0_init_30 : decode cX0_init 30 = .ok (.getfield 11, 3) := by decide +kernel
theorem dX0_init_33 : decode cX0_init 33 = .ok (.iload_n 1, 1) := by decide +kernel
theorem dX0_init_34 : decode cX0_init 34 = .ok (.new 9, 3) := by decide +kernel
theorem dX0_init_37 : decode cX0_init 37 = .ok (.dup, 1) := by decide +kernel
theorem dX0_init_38 : decode cX0_init 38 = .ok (.invokespecial 21, 3) := by decide +kernel
theorem dX0_init_41 : decode cX0_init 41 = .ok (.aastore, 1) := by decide +kernel
theorem dX0_init_42 : decode cX0_init 42 = .ok (.iinc 1 1, 3) := by decide +kernel
theorem dX0_init_45 : decode cX0_init 45 = .ok (.goto (-25), 3) := by decide +kernel
theorem dX0_init_48 : decode cX0_init 48 = .ok (.return_, 1) := by decide +kernel
theorem dX0_size_0 : decode cX0_size 0 = .ok (.aload_n 0, 1) := by decide +kernel
theorem dX0_size_1 : decode cX0_size 1 = .ok (.getfield 17, 3) := by decide +kernel
theorem dX0_size_4 : decode cX0_size 4 = .ok (.ireturn, 1) := by decide +kernel
theorem dX0_save_0 : decode cX0_save 0 = .ok (.aload_n 0, 1) := by decide +kernel
theorem dX0_save_1 : decode cX0_save 1 = .ok (.getfield 17, 3) := by decide +kernel
theorem dX0_save_4 : decode cX0_save 4 = .ok (.bipush 6, 2) := by decide +kernel
theorem dX0_save_6 : decode cX0_save 6 = .ok (.if_icmp .lt 7, 3) := by decide +kernel
theorem dX0_save_9 : decode cX0_save 9 = .ok (.aload_n 0, 1) := by decide +kernel
theorem dX0_save_10 : decode cX0_save 10 = .ok (.invokevirtual 22, 3) := by decide +kernel
theorem dX0_save_13 : decode cX0_save 13 = .ok (.aload_n 0, 1) := by decide +kernel
theorem dX0_save_14 : decode cX0_save 14 = .ok (.aload_n 0, 1) := by decide +kernel
theorem dX0_save_15 : decode cX0_save 15 = .ok (.getfield 17, 3) := by decide +kernel
theorem dX0_save_18 : decode cX0_save 18 = .ok (.invokevirtual 25, 3) := by decide +kernel
theorem dX0_save_21 : decode cX0_save 21 = .ok (.astore_n 2, 1) := by decide +kernel
theorem dX0_save_22 : decode cX0_save 22 = .ok (.aload_n 2, 1) := by decide +kernel
theorem dX0_save_23 : decode cX0_save 23 = .ok (.ifnull 18, 3) := by decide +kernel
theorem dX0_save_26 : decode cX0_save 26 = .ok (.aload_n 2, 1) := by decide +kernel
theorem dX0_save_27 : decode cX0_save 27 = .ok (.aload_n 1, 1) := by decide +kernel
theorem dX0_save_28 : decode cX0_save 28 = .ok (.invokevirtual 29, 3) := by decide +kernel
theorem dX0_save_31 : decode cX0_save 31 = .ok (.aload_n 0, 1) := by decide +kernel
theorem dX0_save_32 : decode cX0_save 32 = .ok (.dup, 1) := by decide +kernel
theorem dX0_save_33 : decode cX0_save 33 = .ok (.getfield 17, 3) := by decide +kernel
theorem dX0_save_36 : decode cX0_save 36 = .ok (.iconst 1, 1) := by decide +kernel
theorem dX0_save_37 : decode cX0_save 37 = .ok (.iadd, 1) := by decide +kernel
theorem dX0_save_38 : decode cX0_save 38 = .ok (.putfield 17, 3) := by decide +kernel
theorem dX0_save_41 : decode cX0_save 41 = .ok (.return_, 1) := by decide +kernel
theorem dX0_restore_0 : decode cX0_restore 0 = .ok (.aload_n 0, 1) := by decide +kernel
theorem dX0_restore_1 : decode cX0_restore 1 = .ok (.aload_n 0, 1) := by decide +kernel
theorem dX0_restore_2 : decode cX0_restore 2 = .ok (.getfield 17, 3) := by decide +kernel
theorem dX0_restore_5 : decode cX0_restore 5 = .ok (.iconst 1, 1) := by decide +kernel
theorem dX0_restore_6 : decode cX0_restore 6 = .ok (.isub, 1) := by decide +kernel
theorem dX0_restore_7 : decode cX0_restore 7 = .ok (.invokevirtual 25, 3) := by decide +kernel
theorem dX0_restore_10 : decode cX0_restore 10 = .ok (.astore_n 2, 1) := by decide +kernel
theorem dX0_restore_11 : decode cX0_restore 11 = .ok (.aload_n 2, 1) := by decide +kernel
theorem dX0_restore_12 : decode cX0_restore 12 = .ok (.ifnull 18, 3) := by decide +kernel
theorem dX0_restore_15 : decode cX0_restore 15 = .ok (.aload_n 1, 1) := by decide +kernel
theorem dX0_restore_16 : decode cX0_restore 16 = .ok (.aload_n 2, 1) := by decide +kernel
theorem dX0_restore_17 : decode cX0_restore 17 = .ok (.invokevirtual 29, 3) := by decide +kernel
theorem dX0_restore_20 : decode cX0_restore 20 = .ok (.aload_n 0, 1) := by decide +kernel
theorem dX0_restore_21 : decode cX0_restore 21 = .ok (.dup, 1) := by decide +kernel
theorem dX0_restore_22 : decode cX0_restore 22 = .ok (.getfield 17, 3) := by decide +kernel
theorem dX0_restore_25 : decode cX0_restore 25 = .ok (.iconst 1, 1) := by decide +kernel
theorem dX0_restore_26 : decode cX0_restore 26 = .ok (.isub, 1) := by decide +kernel
theorem dX0_restore_27 : decode cX0_restore 27 = .ok (.putfield 17, 3) := by decide +kernel
theorem dX0_restore_30 : decode cX0_restore 30 = .ok (.aload_n 0, 1) := by decide +kernel
theorem dX0_restore_31 : decode cX0_restore 31 = .ok (.getfield 17, 3) := by decide +kernel
theorem dX0_restore_34 : decode cX0_restore 34 = .ok (.ireturn, 1) := by decide +kernel
theorem dX0_slotAt_0 : decode cX0_slotAt 0 = .ok (.iload_n 1, 1) := by decide +kernel
theorem dX0_slotAt_1 : decode cX0_slotAt 1 = .ok (.ifCond .lt 21, 3) := by decide +kernel
theorem dX0_slotAt_4 : decode cX0_slotAt 4 = .ok (.iload_n 1, 1) := by decide +kernel
theorem dX0_slotAt_5 : decode cX0_slotAt 5 = .ok (.aload_n 0, 1) := by decide +kernel
theorem dX0_slotAt_6 : decode cX0_slotAt 6 = .ok (.getfield 11, 3) := by decide +kernel
theorem dX0_slotAt_9 : decode cX0_slotAt 9 = .ok (.arraylength, 1) := by decide +kernel
theorem dX0_slotAt_10 : decode cX0_slotAt 10 = .ok (.if_icmp .ge 12, 3) := by decide +kernel
theorem dX0_slotAt_13 : decode cX0_slotAt 13 = .ok (.aload_n 0, 1) := by decide +kernel
theorem dX0_slotAt_14 : decode cX0_slotAt 14 = .ok (.getfield 11, 3) := by decide +kernel
theorem dX0_slotAt_17 : decode cX0_slotAt 17 = .ok (.iload_n 1, 1) := by decide +kernel
theorem dX0_slotAt_18 : decode cX0_slotAt 18 = .ok (.aaload, 1) := by decide +kernel
theorem dX0_slotAt_19 : decode cX0_slotAt 19 = .ok (.goto 4, 3) := by decide +kernel
theorem dX0_slotAt_22 : decode cX0_slotAt 22 = .ok (.aconst_null, 1) := by decide +kernel
theorem dX0_slotAt_23 : decode cX0_slotAt 23 = .ok (.areturn, 1) := by decide +kernel
theorem dX0_dropOldest_0 : decode cX0_dropOldest 0 = .ok (.aload_n 0, 1) := by decide +kernel
theorem dX0_dropOldest_1 : decode cX0_dropOldest 1 = .ok (.iconst 0, 1) := by decide +kernel
theorem dX0_dropOldest_2 : decode cX0_dropOldest 2 = .ok (.invokevirtual 25, 3) := by decide +kernel
theorem dX0_dropOldest_5 : decode cX0_dropOldest 5 = .ok (.astore_n 1, 1) := by decide +kernel
theorem dX0_dropOldest_6 : decode cX0_dropOldest 6 = .ok (.iconst 1, 1) := by decide +kernel
theorem dX0_dropOldest_7 : decode cX0_dropOldest 7 = .ok (.istore_n 2, 1) := by decide +kernel
theorem dX0_dropOldest_8 : decode cX0_dropOldest 8 = .ok (.iload_n 2, 1) := by decide +kernel
theorem dX0_dropOldest_9 : decode cX0_dropOldest 9 = .ok (.aload_n 0, 1) := by decide +kernel
theorem dX0_dropOldest_10 : decode cX0_dropOldest 10 = .ok (.getfield 11, 3) := by decide +kernel
theorem dX0_dropOldest_13 : decode cX0_dropOldest 13 = .ok (.arraylength, 1) := by decide +kernel
theorem dX0_dropOldest_14 : decode cX0_dropOldest 14 = .ok (.if_icmp .ge 23, 3) := by decide +kernel
theorem dX0_dropOldest_17 : decode cX0_dropOldest 17 = .ok (.aload_n 0, 1) := by decide +kernel
theorem dX0_dropOldest_18 : decode cX0_dropOldest 18 = .ok (.getfield 11, 3) := by decide +kernel
theorem dX0_dropOldest_21 : decode cX0_dropOldest 21 = .ok (.iload_n 2, 1) := by decide +kernel
theorem dX0_dropOldest_22 : decode cX0_dropOldest 22 = .ok (.iconst 1, 1) := by decide +kernel
theorem dX0_dropOldest_23 : decode cX0_dropOldest 23 = .ok (.isub, 1) := by decide +kernel
theorem dX0_dropOldest_24 : decode cX0_dropOldest 24 = .ok (.aload_n 0, 1) := by decide +kernel
theorem dX0_dropOldest_25 : decode cX0_dropOldest 25 = .ok (.getfield 11, 3) := by decide +kernel
theorem dX0_dropOldest_28 : decode cX0_dropOldest 28 = .ok (.iload_n 2, 1) := by decide +kernel
theorem dX0_dropOldest_29 : decode cX0_dropOldest 29 = .ok (.aaload, 1) := by decide +kernel
theorem dX0_dropOldest_30 : decode cX0_dropOldest 30 = .ok (.aastore, 1) := by decide +kernel
theorem dX0_dropOldest_31 : decode cX0_dropOldest 31 = .ok (.iinc 2 1, 3) := by decide +kernel
theorem dX0_dropOldest_34 : decode cX0_dropOldest 34 = .ok (.goto (-26), 3) := by decide +kernel
theorem dX0_dropOldest_37 : decode cX0_dropOldest 37 = .ok (.aload_n 0, 1) := by decide +kernel
theorem dX0_dropOldest_38 : decode cX0_dropOldest 38 = .ok (.getfield 17, 3) := by decide +kernel
theorem dX0_dropOldest_41 : decode cX0_dropOldest 41 = .ok (.ifCond .le 38, 3) := by decide +kernel
theorem dX0_dropOldest_44 : decode cX0_dropOldest 44 = .ok (.aload_n 0, 1) := by decide +kernel
theorem dX0_dropOldest_45 : decode cX0_dropOldest 45 = .ok (.getfield 17, 3) := by decide +kernel
theorem dX0_dropOldest_48 : decode cX0_dropOldest 48 = .ok (.aload_n 0, 1) := by decide +kernel
theorem dX0_dropOldest_49 : decode cX0_dropOldest 49 = .ok (.getfield 11, 3) := by decide +kernel
theorem dX0_dropOldest_52 : decode cX0_dropOldest 52 = .ok (.arraylength, 1) := by decide +kernel
theorem dX0_dropOldest_53 : decode cX0_dropOldest 53 = .ok (.if_icmp .gt 26, 3) := by decide +kernel
theorem dX0_dropOldest_56 : decode cX0_dropOldest 56 = .ok (.aload_n 0, 1) := by decide +kernel
theorem dX0_dropOldest_57 : decode cX0_dropOldest 57 = .ok (.getfield 11, 3) := by decide +kernel
theorem dX0_dropOldest_60 : decode cX0_dropOldest 60 = .ok (.aload_n 0, 1) := by decide +kernel
theorem dX0_dropOldest_61 : decode cX0_dropOldest 61 = .ok (.getfield 11, 3) := by decide +kernel
theorem dX0_dropOldest_64 : decode cX0_dropOldest 64 = .ok (.arraylength, 1) := by decide +kernel
theorem dX0_dropOldest_65 : decode cX0_dropOldest 65 = .ok (.iconst 1, 1) := by decide +kernel
theorem dX0_dropOldest_66 : decode cX0_dropOldest 66 = .ok (.isub, 1) := by decide +kernel
theorem dX0_dropOldest_67 : decode cX0_dropOldest 67 = .ok (.aload_n 1, 1) := by decide +kernel
theorem dX0_dropOldest_68 : decode cX0_dropOldest 68 = .ok (.aastore, 1) := by decide +kernel
theorem dX0_dropOldest_69 : decode cX0_dropOldest 69 = .ok (.aload_n 0, 1) := by decide +kernel
theorem dX0_dropOldest_70 : decode cX0_dropOldest 70 = .ok (.dup, 1) := by decide +kernel
theorem dX0_dropOldest_71 : decode cX0_dropOldest 71 = .ok (.getfield 17, 3) := by decide +kernel
theorem dX0_dropOldest_74 : decode cX0_dropOldest 74 = .ok (.iconst 1, 1) := by decide +kernel
theorem dX0_dropOldest_75 : decode cX0_dropOldest 75 = .ok (.isub, 1) := by decide +kernel
theorem dX0_dropOldest_76 : decode cX0_dropOldest 76 = .ok (.putfield 17, 3) := by decide +kernel
theorem dX0_dropOldest_79 : decode cX0_dropOldest 79 = .ok (.return_, 1) := by decide +kernel
theorem dX1_init_0 : decode cX1_init 0 = .ok (.aload_n 0, 1) := by decide +kernel
theorem dX1_init_1 : decode cX1_init 1 = .ok (.invokespecial 3, 3) := by decide +kernel
theorem dX1_init_4 : decode cX1_init 4 = .ok (.aload_n 0, 1) := by decide +kernel
theorem dX1_init_5 : decode cX1_init 5 = .ok (.iconst 0, 1) := by decide +kernel
theorem dX1_init_6 : decode cX1_init 6 = .ok (.putfield 9, 3) := by decide +kernel
theorem dX1_init_9 : decode cX1_init 9 = .ok (.aload_n 0, 1) := by decide +kernel
theorem dX1_init_10 : decode cX1_init 10 = .ok (.iconst 0, 1) := by decide +kernel
theorem dX1_init_11 : decode cX1_init 11 = .ok (.putfield 15, 3) := by decide +kernel
theorem dX1_init_14 : decode cX1_init 14 = .ok (.aload_n 0, 1) := by decide +kernel
theorem dX1_init_15 : decode cX1_init 15 = .ok (.iconst 0, 1) := by decide +kernel
theorem dX1_init_16 : decode cX1_init 16 = .ok (.putfield 18, 3) := by decide +kernel
theorem dX1_init_19 : decode cX1_init 19 = .ok (.aload_n 0, 1) := by decide +kernel
theorem dX1_init_20 : decode cX1_init 20 = .ok (.iconst 0, 1) := by decide +kernel
theorem dX1_init_21 : decode cX1_init 21 = .ok (.putfield 21, 3) := by decide +kernel
theorem dX1_init_24 : decode cX1_init 24 = .ok (.aload_n 0, 1) := by decide +kernel
theorem dX1_init_25 : decode cX1_init 25 = .ok (.bipush 12, 2) := by decide +kernel
theorem dX1_init_27 : decode cX1_init 27 = .ok (.newarray .int, 2) := by decide +kernel
theorem dX1_init_29 : decode cX1_init 29 = .ok (.putfield 24, 3) := by decide +kernel
theorem dX1_init_32 : decode cX1_init 32 = .ok (.aload_n 0, 1) := by decide +kernel
theorem dX1_init_33 : decode cX1_init 33 = .ok (.bipush 12, 2) := by decide +kernel
theorem dX1_init_35 : decode cX1_init 35 = .ok (.newarray .int, 2) := by decide +kernel
theorem dX1_init_37 : decode cX1_init 37 = .ok (.putfield 28, 3) := by decide +kernel
theorem dX1_init_40 : decode cX1_init 40 = .ok (.aload_n 0, 1) := by decide +kernel
theorem dX1_init_41 : decode cX1_init 41 = .ok (.sipush 144, 3) := by decide +kernel
theorem dX1_init_44 : decode cX1_init 44 = .ok (.newarray .int, 2) := by decide +kernel
theorem dX1_init_46 : decode cX1_init 46 = .ok (.putfield 31, 3) := by decide +kernel
theorem dX1_init_49 : decode cX1_init 49 = .ok (.return_, 1) := by decide +kernel
theorem dX1_size_0 : decode cX1_size 0 = .ok (.aload_n 0, 1) := by decide +kernel
theorem dX1_size_1 : decode cX1_size 1 = .ok (.getfield 9, 3) := by decide +kernel
theorem dX1_size_4 : decode cX1_size 4 = .ok (.ireturn, 1) := by decide +kernel
theorem dX1_cursor_0 : decode cX1_cursor 0 = .ok (.aload_n 0, 1) := by decide +kernel
theorem dX1_cursor_1 : decode cX1_cursor 1 = .ok (.getfield 15, 3) := by decide +kernel
theorem dX1_cursor_4 : decode cX1_cursor 4 = .ok (.ireturn, 1) := by decide +kernel
theorem dX1_rewritten_0 : decode cX1_rewritten 0 = .ok (.aload_n 0, 1) := by decide +kernel
theorem dX1_rewritten_1 : decode cX1_rewritten 1 = .ok (.getfield 18, 3) := by decide +kernel
theorem dX1_rewritten_4 : decode cX1_rewritten 4 = .ok (.ireturn, 1) := by decide +kernel
theorem dX1_writes_0 : decode cX1_writes 0 = .ok (.aload_n 0, 1) := by decide +kernel
theorem dX1_writes_1 : decode cX1_writes 1 = .ok (.getfield 21, 3) := by decide +kernel
theorem dX1_writes_4 : decode cX1_writes 4 = .ok (.ireturn, 1) := by decide +kernel
theorem dX1_isThere_0 : decode cX1_isThere 0 = .ok (.iload_n 1, 1) := by decide +kernel
theorem dX1_isThere_1 : decode cX1_isThere 1 = .ok (.ifCond .lt 15, 3) := by decide +kernel
theorem dX1_isThere_4 : decode cX1_isThere 4 = .ok (.iload_n 1, 1) := by decide +kernel
theorem dX1_isThere_5 : decode cX1_isThere 5 = .ok (.aload_n 0, 1) := by decide +kernel
theorem dX1_isThere_6 : decode cX1_isThere 6 = .ok (.getfield 9, 3) := by decide +kernel
theorem dX1_isThere_9 : decode cX1_isThere 9 = .ok (.if_icmp .ge 7, 3) := by decide +kernel
theorem dX1_isThere_12 : decode cX1_isThere 12 = .ok (.iconst 1, 1) := by decide +kernel
theorem dX1_isThere_13 : decode cX1_isThere 13 = .ok (.goto 4, 3) := by decide +kernel
theorem dX1_isThere_16 : decode cX1_isThere 16 = .ok (.iconst 0, 1) := by decide +kernel
theorem dX1_isThere_17 : decode cX1_isThere 17 = .ok (.ireturn, 1) := by decide +kernel
theorem dX1_isFull_0 : decode cX1_isFull 0 = .ok (.aload_n 0, 1) := by decide +kernel
theorem dX1_isFull_1 : decode cX1_isFull 1 = .ok (.getfield 9, 3) := by decide +kernel
theorem dX1_isFull_4 : decode cX1_isFull 4 = .ok (.bipush 12, 2) := by decide +kernel
theorem dX1_isFull_6 : decode cX1_isFull 6 = .ok (.if_icmp .lt 7, 3) := by decide +kernel
theorem dX1_isFull_9 : decode cX1_isFull 9 = .ok (.iconst 1, 1) := by decide +kernel
theorem dX1_isFull_10 : decode cX1_isFull 10 = .ok (.goto 4, 3) := by decide +kernel
theorem dX1_isFull_13 : decode cX1_isFull 13 = .ok (.iconst 0, 1) := by decide +kernel
theorem dX1_isFull_14 : decode cX1_isFull 14 = .ok (.ireturn, 1) := by decide +kernel
theorem dX1_shapeOf_0 : decode cX1_shapeOf 0 = .ok (.aload_n 0, 1) := by decide +kernel
theorem dX1_shapeOf_1 : decode cX1_shapeOf 1 = .ok (.getfield 24, 3) := by decide +kernel
theorem dX1_shapeOf_4 : decode cX1_shapeOf 4 = .ok (.iload_n 1, 1) := by decide +kernel
theorem dX1_shapeOf_5 : decode cX1_shapeOf 5 = .ok (.invokestatic 34, 3) := by decide +kernel
theorem dX1_shapeOf_8 : decode cX1_shapeOf 8 = .ok (.ireturn, 1) := by decide +kernel
theorem dX1_rewritesOf_0 : decode cX1_rewritesOf 0 = .ok (.aload_n 0, 1) := by decide +kernel
theorem dX1_rewritesOf_1 : decode cX1_rewritesOf 1 = .ok (.getfield 28, 3) := by decide +kernel
theorem dX1_rewritesOf_4 : decode cX1_rewritesOf 4 = .ok (.iload_n 1, 1) := by decide +kernel
theorem dX1_rewritesOf_5 : decode cX1_rewritesOf 5 = .ok (.invokestatic 34, 3) := by decide +kernel
theorem dX1_rewritesOf_8 : decode cX1_rewritesOf 8 = .ok (.ireturn, 1) := by decide +kernel
theorem dX1_value_0 : decode cX1_value 0 = .ok (.aload_n 0, 1) := by decide +kernel
theorem dX1_value_1 : decode cX1_value 1 = .ok (.getfield 31, 3) := by decide +kernel
theorem dX1_value_4 : decode cX1_value 4 = .ok (.iload_n 1, 1) := by decide +kernel
theorem dX1_value_5 : decode cX1_value 5 = .ok (.bipush 12, 2) := by decide +kernel
theorem dX1_value_7 : decode cX1_value 7 = .ok (.imul, 1) := by decide +kernel
theorem dX1_value_8 : decode cX1_value 8 = .ok (.iload_n 2, 1) := by decide +kernel
theorem dX1_value_9 : decode cX1_value 9 = .ok (.iadd, 1) := by decide +kernel
theorem dX1_value_10 : decode cX1_value 10 = .ok (.invokestatic 34, 3) := by decide +kernel
theorem dX1_value_13 : decode cX1_value 13 = .ok (.ireturn, 1) := by decide +kernel
theorem dX1_addRow_0 : decode cX1_addRow 0 = .ok (.aload_n 0, 1) := by decide +kernel
theorem dX1_addRow_1 : decode cX1_addRow 1 = .ok (.getfield 9, 3) := by decide +kernel
theorem dX1_addRow_4 : decode cX1_addRow 4 = .ok (.istore_n 2, 1) := by decide +kernel
theorem dX1_addRow_5 : decode cX1_addRow 5 = .ok (.aload_n 0, 1) := by decide +kernel
theorem dX1_addRow_6 : decode cX1_addRow 6 = .ok (.getfield 24, 3) := by decide +kernel
theorem dX1_addRow_9 : decode cX1_addRow 9 = .ok (.iload_n 2, 1) := by decide +kernel
theorem dX1_addRow_10 : decode cX1_addRow 10 = .ok (.iload_n 1, 1) := by decide +kernel
theorem dX1_addRow_11 : decode cX1_addRow 11 = .ok (.invokestatic 38, 3) := by decide +kernel
theorem dX1_addRow_14 : decode cX1_addRow 14 = .ok (.aload_n 0, 1) := by decide +kernel
theorem dX1_addRow_15 : decode cX1_addRow 15 = .ok (.getfield 28, 3) := by decide +kernel
theorem dX1_addRow_18 : decode cX1_addRow 18 = .ok (.iload_n 2, 1) := by decide +kernel
theorem dX1_addRow_19 : decode cX1_addRow 19 = .ok (.iconst 0, 1) := by decide +kernel
theorem dX1_addRow_20 : decode cX1_addRow 20 = .ok (.invokestatic 38, 3) := by decide +kernel
theorem dX1_addRow_23 : decode cX1_addRow 23 = .ok (.iconst 0, 1) := by decide +kernel
theorem dX1_addRow_24 : decode cX1_addRow 24 = .ok (.istore_n 3, 1) := by decide +kernel
theorem dX1_addRow_25 : decode cX1_addRow 25 = .ok (.iload_n 3, 1) := by decide +kernel
theorem dX1_addRow_26 : decode cX1_addRow 26 = .ok (.bipush 12, 2) := by decide +kernel
theorem dX1_addRow_28 : decode cX1_addRow 28 = .ok (.if_icmp .ge 23, 3) := by decide +kernel
theorem dX1_addRow_31 : decode cX1_addRow 31 = .ok (.aload_n 0, 1) := by decide +kernel
theorem dX1_addRow_32 : decode cX1_addRow 32 = .ok (.getfield 31, 3) := by decide +kernel
theorem dX1_addRow_35 : decode cX1_addRow 35 = .ok (.iload_n 2, 1) := by decide +kernel
theorem dX1_addRow_36 : decode cX1_addRow 36 = .ok (.bipush 12, 2) := by decide +kernel
theorem dX1_addRow_38 : decode cX1_addRow 38 = .ok (.imul, 1) := by decide +kernel
theorem dX1_addRow_39 : decode cX1_addRow 39 = .ok (.iload_n 3, 1) := by decide +kernel
theorem dX1_addRow_40 : decode cX1_addRow 40 = .ok (.iadd, 1) := by decide +kernel
theorem dX1_addRow_41 : decode cX1_addRow 41 = .ok (.iconst 0, 1) := by decide +kernel
theorem dX1_addRow_42 : decode cX1_addRow 42 = .ok (.invokestatic 38, 3) := by decide +kernel
theorem dX1_addRow_45 : decode cX1_addRow 45 = .ok (.iinc 3 1, 3) := by decide +kernel
theorem dX1_addRow_48 : decode cX1_addRow 48 = .ok (.goto (-23), 3) := by decide +kernel
theorem dX1_addRow_51 : decode cX1_addRow 51 = .ok (.aload_n 0, 1) := by decide +kernel
theorem dX1_addRow_52 : decode cX1_addRow 52 = .ok (.dup, 1) := by decide +kernel
theorem dX1_addRow_53 : decode cX1_addRow 53 = .ok (.getfield 9, 3) := by decide +kernel
theorem dX1_addRow_56 : decode cX1_addRow 56 = .ok (.iconst 1, 1) := by decide +kernel
theorem dX1_addRow_57 : decode cX1_addRow 57 = .ok (.iadd, 1) := by decide +kernel
theorem dX1_addRow_58 : decode cX1_addRow 58 = .ok (.putfield 9, 3) := by decide +kernel
theorem dX1_addRow_61 : decode cX1_addRow 61 = .ok (.iload_n 2, 1) := by decide +kernel
theorem dX1_addRow_62 : decode cX1_addRow 62 = .ok (.ireturn, 1) := by decide +kernel
theorem dX1_takeOut_0 : decode cX1_takeOut 0 = .ok (.iload_n 1, 1) := by decide +kernel
theorem dX1_takeOut_1 : decode cX1_takeOut 1 = .ok (.iconst 1, 1) := by decide +kernel
theorem dX1_takeOut_2 : decode cX1_takeOut 2 = .ok (.iadd, 1) := by decide +kernel
theorem dX1_takeOut_3 : decode cX1_takeOut 3 = .ok (.istore_n 2, 1) := by decide +kernel
theorem dX1_takeOut_4 : decode cX1_takeOut 4 = .ok (.iload_n 2, 1) := by decide +kernel
theorem dX1_takeOut_5 : decode cX1_takeOut 5 = .ok (.aload_n 0, 1) := by decide +kernel
theorem dX1_takeOut_6 : decode cX1_takeOut 6 = .ok (.getfield 9, 3) := by decide +kernel
theorem dX1_takeOut_9 : decode cX1_takeOut 9 = .ok (.if_icmp .ge 14, 3) := by decide +kernel
theorem dX1_takeOut_12 : decode cX1_takeOut 12 = .ok (.aload_n 0, 1) := by decide +kernel
theorem dX1_takeOut_13 : decode cX1_takeOut 13 = .ok (.iload_n 2, 1) := by decide +kernel
theorem dX1_takeOut_14 : decode cX1_takeOut 14 = .ok (.invokevirtual 42, 3) := by decide +kernel
theorem dX1_takeOut_17 : decode cX1_takeOut 17 = .ok (.iinc 2 1, 3) := by decide +kernel
theorem dX1_takeOut_20 : decode cX1_takeOut 20 = .ok (.goto (-16), 3) := by decide +kernel
theorem dX1_takeOut_23 : decode cX1_takeOut 23 = .ok (.aload_n 0, 1) := by decide +kernel
theorem dX1_takeOut_24 : decode cX1_takeOut 24 = .ok (.dup, 1) := by decide +kernel
theorem dX1_takeOut_25 : decode cX1_takeOut 25 = .ok (.getfield 9, 3) := by decide +kernel
theorem dX1_takeOut_28 : decode cX1_takeOut 28 = .ok (.iconst 1, 1) := by decide +kernel
theorem dX1_takeOut_29 : decode cX1_takeOut 29 = .ok (.isub, 1) := by decide +kernel
theorem dX1_takeOut_30 : decode cX1_takeOut 30 = .ok (.putfield 9, 3) := by decide +kernel
theorem dX1_takeOut_33 : decode cX1_takeOut 33 = .ok (.aload_n 0, 1) := by decide +kernel
theorem dX1_takeOut_34 : decode cX1_takeOut 34 = .ok (.getfield 15, 3) := by decide +kernel
theorem dX1_takeOut_37 : decode cX1_takeOut 37 = .ok (.iload_n 1, 1) := by decide +kernel
theorem dX1_takeOut_38 : decode cX1_takeOut 38 = .ok (.if_icmp .le 13, 3) := by decide +kernel
theorem dX1_takeOut_41 : decode cX1_takeOut 41 = .ok (.aload_n 0, 1) := by decide +kernel
theorem dX1_takeOut_42 : decode cX1_takeOut 42 = .ok (.dup, 1) := by decide +kernel
theorem dX1_takeOut_43 : decode cX1_takeOut 43 = .ok (.getfield 15, 3) := by decide +kernel
theorem dX1_takeOut_46 : decode cX1_takeOut 46 = .ok (.iconst 1, 1) := by decide +kernel
theorem dX1_takeOut_47 : decode cX1_takeOut 47 = .ok (.isub, 1) := by decide +kernel
theorem dX1_takeOut_48 : decode cX1_takeOut 48 = .ok (.putfield 15, 3) := by decide +kernel
theorem dX1_takeOut_51 : decode cX1_takeOut 51 = .ok (.aload_n 0, 1) := by decide +kernel
theorem dX1_takeOut_52 : decode cX1_takeOut 52 = .ok (.getfield 9, 3) := by decide +kernel
theorem dX1_takeOut_55 : decode cX1_takeOut 55 = .ok (.ireturn, 1) := by decide +kernel
theorem dX1_overwrite_0 : decode cX1_overwrite 0 = .ok (.aload_n 0, 1) := by decide +kernel
theorem dX1_overwrite_1 : decode cX1_overwrite 1 = .ok (.getfield 31, 3) := by decide +kernel
theorem dX1_overwrite_4 : decode cX1_overwrite 4 = .ok (.iload_n 1, 1) := by decide +kernel
theorem dX1_overwrite_5 : decode cX1_overwrite 5 = .ok (.bipush 12, 2) := by decide +kernel
theorem dX1_overwrite_7 : decode cX1_overwrite 7 = .ok (.imul, 1) := by decide +kernel
theorem dX1_overwrite_8 : decode cX1_overwrite 8 = .ok (.iload_n 2, 1) := by decide +kernel
theorem dX1_overwrite_9 : decode cX1_overwrite 9 = .ok (.iadd, 1) := by decide +kernel
theorem dX1_overwrite_10 : decode cX1_overwrite 10 = .ok (.iload_n 3, 1) := by decide +kernel
theorem dX1_overwrite_11 : decode cX1_overwrite 11 = .ok (.invokestatic 38, 3) := by decide +kernel
theorem dX1_overwrite_14 : decode cX1_overwrite 14 = .ok (.aload_n 0, 1) := by decide +kernel
theorem dX1_overwrite_15 : decode cX1_overwrite 15 = .ok (.dup, 1) := by decide +kernel
theorem dX1_overwrite_16 : decode cX1_overwrite 16 = .ok (.getfield 21, 3) := by decide +kernel
theorem dX1_overwrite_19 : decode cX1_overwrite 19 = .ok (.iconst 1, 1) := by decide +kernel
theorem dX1_overwrite_20 : decode cX1_overwrite 20 = .ok (.iadd, 1) := by decide +kernel
theorem dX1_overwrite_21 : decode cX1_overwrite 21 = .ok (.putfield 21, 3) := by decide +kernel
theorem dX1_overwrite_24 : decode cX1_overwrite 24 = .ok (.return_, 1) := by decide +kernel
theorem dX1_rewrite_0 : decode cX1_rewrite 0 = .ok (.iconst 0, 1) := by decide +kernel
theorem dX1_rewrite_1 : decode cX1_rewrite 1 = .ok (.istore 4, 2) := by decide +kernel
theorem dX1_rewrite_3 : decode cX1_rewrite 3 = .ok (.iload 4, 2) := by decide +kernel
theorem dX1_rewrite_5 : decode cX1_rewrite 5 = .ok (.bipush 12, 2) := by decide +kernel
theorem dX1_rewrite_7 : decode cX1_rewrite 7 = .ok (.if_icmp .ge 29, 3) := by decide +kernel
theorem dX1_rewrite_10 : decode cX1_rewrite 10 = .ok (.aload_n 0, 1) := by decide +kernel
theorem dX1_rewrite_11 : decode cX1_rewrite 11 = .ok (.getfield 31, 3) := by decide +kernel
theorem dX1_rewrite_14 : decode cX1_rewrite 14 = .ok (.iload_n 1, 1) := by decide +kernel
theorem dX1_rewrite_15 : decode cX1_rewrite 15 = .ok (.bipush 12, 2) := by decide +kernel
theorem dX1_rewrite_17 : decode cX1_rewrite 17 = .ok (.imul, 1) := by decide +kernel
theorem dX1_rewrite_18 : decode cX1_rewrite 18 = .ok (.iload 4, 2) := by decide +kernel
theorem dX1_rewrite_20 : decode cX1_rewrite 20 = .ok (.iadd, 1) := by decide +kernel
theorem dX1_rewrite_21 : decode cX1_rewrite 21 = .ok (.aload_n 3, 1) := by decide +kernel
theorem dX1_rewrite_22 : decode cX1_rewrite 22 = .ok (.iload 4, 2) := by decide +kernel
theorem dX1_rewrite_24 : decode cX1_rewrite 24 = .ok (.invokestatic 34, 3) := by decide +kernel
theorem dX1_rewrite_27 : decode cX1_rewrite 27 = .ok (.invokestatic 38, 3) := by decide +kernel
theorem dX1_rewrite_30 : decode cX1_rewrite 30 = .ok (.iinc 4 1, 3) := by decide +kernel
theorem dX1_rewrite_33 : decode cX1_rewrite 33 = .ok (.goto (-30), 3) := by decide +kernel
theorem dX1_rewrite_36 : decode cX1_rewrite 36 = .ok (.aload_n 0, 1) := by decide +kernel
theorem dX1_rewrite_37 : decode cX1_rewrite 37 = .ok (.getfield 24, 3) := by decide +kernel
theorem dX1_rewrite_40 : decode cX1_rewrite 40 = .ok (.iload_n 1, 1) := by decide +kernel
theorem dX1_rewrite_41 : decode cX1_rewrite 41 = .ok (.iload_n 2, 1) := by decide +kernel
theorem dX1_rewrite_42 : decode cX1_rewrite 42 = .ok (.invokestatic 38, 3) := by decide +kernel
theorem dX1_rewrite_45 : decode cX1_rewrite 45 = .ok (.aload_n 0, 1) := by decide +kernel
theorem dX1_rewrite_46 : decode cX1_rewrite 46 = .ok (.getfield 28, 3) := by decide +kernel
theorem dX1_rewrite_49 : decode cX1_rewrite 49 = .ok (.iload_n 1, 1) := by decide +kernel
theorem dX1_rewrite_50 : decode cX1_rewrite 50 = .ok (.aload_n 0, 1) := by decide +kernel
theorem dX1_rewrite_51 : decode cX1_rewrite 51 = .ok (.iload_n 1, 1) := by decide +kernel
theorem dX1_rewrite_52 : decode cX1_rewrite 52 = .ok (.invokevirtual 46, 3) := by decide +kernel
theorem dX1_rewrite_55 : decode cX1_rewrite 55 = .ok (.iconst 1, 1) := by decide +kernel
theorem dX1_rewrite_56 : decode cX1_rewrite 56 = .ok (.iadd, 1) := by decide +kernel
theorem dX1_rewrite_57 : decode cX1_rewrite 57 = .ok (.invokestatic 38, 3) := by decide +kernel
theorem dX1_rewrite_60 : decode cX1_rewrite 60 = .ok (.aload_n 0, 1) := by decide +kernel
theorem dX1_rewrite_61 : decode cX1_rewrite 61 = .ok (.dup, 1) := by decide +kernel
theorem dX1_rewrite_62 : decode cX1_rewrite 62 = .ok (.getfield 18, 3) := by decide +kernel
theorem dX1_rewrite_65 : decode cX1_rewrite 65 = .ok (.iconst 1, 1) := by decide +kernel
theorem dX1_rewrite_66 : decode cX1_rewrite 66 = .ok (.iadd, 1) := by decide +kernel
theorem dX1_rewrite_67 : decode cX1_rewrite 67 = .ok (.putfield 18, 3) := by decide +kernel
theorem dX1_rewrite_70 : decode cX1_rewrite 70 = .ok (.return_, 1) := by decide +kernel
theorem dX1_nextRow_0 : decode cX1_nextRow 0 = .ok (.aload_n 0, 1) := by decide +kernel
theorem dX1_nextRow_1 : decode cX1_nextRow 1 = .ok (.aload_n 0, 1) := by decide +kernel
theorem dX1_nextRow_2 : decode cX1_nextRow 2 = .ok (.getfield 15, 3) := by decide +kernel
theorem dX1_nextRow_5 : decode cX1_nextRow 5 = .ok (.invokevirtual 50, 3) := by decide +kernel
theorem dX1_nextRow_8 : decode cX1_nextRow 8 = .ok (.ifCond .eq 10, 3) := by decide +kernel
theorem dX1_nextRow_11 : decode cX1_nextRow 11 = .ok (.aload_n 0, 1) := by decide +kernel
theorem dX1_nextRow_12 : decode cX1_nextRow 12 = .ok (.getfield 15, 3) := by decide +kernel
theorem dX1_nextRow_15 : decode cX1_nextRow 15 = .ok (.goto 4, 3) := by decide +kernel
theorem dX1_nextRow_18 : decode cX1_nextRow 18 = .ok (.iconst 0, 1) := by decide +kernel
theorem dX1_nextRow_19 : decode cX1_nextRow 19 = .ok (.ireturn, 1) := by decide +kernel
theorem dX1_setCursor_0 : decode cX1_setCursor 0 = .ok (.aload_n 0, 1) := by decide +kernel
theorem dX1_setCursor_1 : decode cX1_setCursor 1 = .ok (.iload_n 1, 1) := by decide +kernel
theorem dX1_setCursor_2 : decode cX1_setCursor 2 = .ok (.putfield 15, 3) := by decide +kernel
theorem dX1_setCursor_5 : decode cX1_setCursor 5 = .ok (.return_, 1) := by decide +kernel
theorem dX1_copyValues_0 : decode cX1_copyValues 0 = .ok (.iconst 0, 1) := by decide +kernel
theorem dX1_copyValues_1 : decode cX1_copyValues 1 = .ok (.istore_n 3, 1) := by decide +kernel
theorem dX1_copyValues_2 : decode cX1_copyValues 2 = .ok (.iload_n 3, 1) := by decide +kernel
theorem dX1_copyValues_3 : decode cX1_copyValues 3 = .ok (.bipush 12, 2) := by decide +kernel
theorem dX1_copyValues_5 : decode cX1_copyValues 5 = .ok (.if_icmp .ge 27, 3) := by decide +kernel
theorem dX1_copyValues_8 : decode cX1_copyValues 8 = .ok (.aload_n 2, 1) := by decide +kernel
theorem dX1_copyValues_9 : decode cX1_copyValues 9 = .ok (.iload_n 3, 1) := by decide +kernel
theorem dX1_copyValues_10 : decode cX1_copyValues 10 = .ok (.aload_n 0, 1) := by decide +kernel
theorem dX1_copyValues_11 : decode cX1_copyValues 11 = .ok (.getfield 31, 3) := by decide +kernel
theorem dX1_copyValues_14 : decode cX1_copyValues 14 = .ok (.iload_n 1, 1) := by decide +kernel
theorem dX1_copyValues_15 : decode cX1_copyValues 15 = .ok (.bipush 12, 2) := by decide +kernel
theorem dX1_copyValues_17 : decode cX1_copyValues 17 = .ok (.imul, 1) := by decide +kernel
theorem dX1_copyValues_18 : decode cX1_copyValues 18 = .ok (.iload_n 3, 1) := by decide +kernel
theorem dX1_copyValues_19 : decode cX1_copyValues 19 = .ok (.iadd, 1) := by decide +kernel
theorem dX1_copyValues_20 : decode cX1_copyValues 20 = .ok (.invokestatic 34, 3) := by decide +kernel
theorem dX1_copyValues_23 : decode cX1_copyValues 23 = .ok (.invokestatic 38, 3) := by decide +kernel
theorem dX1_copyValues_26 : decode cX1_copyValues 26 = .ok (.iinc 3 1, 3) := by decide +kernel
theorem dX1_copyValues_29 : decode cX1_copyValues 29 = .ok (.goto (-27), 3) := by decide +kernel
theorem dX1_copyValues_32 : decode cX1_copyValues 32 = .ok (.return_, 1) := by decide +kernel
theorem dX1_takeFrom_0 : decode cX1_takeFrom 0 = .ok (.aload_n 0, 1) := by decide +kernel
theorem dX1_takeFrom_1 : decode cX1_takeFrom 1 = .ok (.aload_n 1, 1) := by decide +kernel
theorem dX1_takeFrom_2 : decode cX1_takeFrom 2 = .ok (.getfield 9, 3) := by decide +kernel
theorem dX1_takeFrom_5 : decode cX1_takeFrom 5 = .ok (.putfield 9, 3) := by decide +kernel
theorem dX1_takeFrom_8 : decode cX1_takeFrom 8 = .ok (.aload_n 0, 1) := by decide +kernel
theorem dX1_takeFrom_9 : decode cX1_takeFrom 9 = .ok (.aload_n 1, 1) := by decide +kernel
theorem dX1_takeFrom_10 : decode cX1_takeFrom 10 = .ok (.getfield 15, 3) := by decide +kernel
theorem dX1_takeFrom_13 : decode cX1_takeFrom 13 = .ok (.putfield 15, 3) := by decide +kernel
theorem dX1_takeFrom_16 : decode cX1_takeFrom 16 = .ok (.aload_n 0, 1) := by decide +kernel
theorem dX1_takeFrom_17 : decode cX1_takeFrom 17 = .ok (.aload_n 1, 1) := by decide +kernel
theorem dX1_takeFrom_18 : decode cX1_takeFrom 18 = .ok (.getfield 18, 3) := by decide +kernel
theorem dX1_takeFrom_21 : decode cX1_takeFrom 21 = .ok (.putfield 18, 3) := by decide +kernel
theorem dX1_takeFrom_24 : decode cX1_takeFrom 24 = .ok (.aload_n 0, 1) := by decide +kernel
theorem dX1_takeFrom_25 : decode cX1_takeFrom 25 = .ok (.aload_n 1, 1) := by decide +kernel
theorem dX1_takeFrom_26 : decode cX1_takeFrom 26 = .ok (.getfield 21, 3) := by decide +kernel
theorem dX1_takeFrom_29 : decode cX1_takeFrom 29 = .ok (.putfield 21, 3) := by decide +kernel
theorem dX1_takeFrom_32 : decode cX1_takeFrom 32 = .ok (.aload_n 1, 1) := by decide +kernel
theorem dX1_takeFrom_33 : decode cX1_takeFrom 33 = .ok (.getfield 24, 3) := by decide +kernel
theorem dX1_takeFrom_36 : decode cX1_takeFrom 36 = .ok (.aload_n 0, 1) := by decide +kernel
theorem dX1_takeFrom_37 : decode cX1_takeFrom 37 = .ok (.getfield 24, 3) := by decide +kernel
theorem dX1_takeFrom_40 : decode cX1_takeFrom 40 = .ok (.invokestatic 54, 3) := by decide +kernel
theorem dX1_takeFrom_43 : decode cX1_takeFrom 43 = .ok (.aload_n 1, 1) := by decide +kernel
theorem dX1_takeFrom_44 : decode cX1_takeFrom 44 = .ok (.getfield 28, 3) := by decide +kernel
theorem dX1_takeFrom_47 : decode cX1_takeFrom 47 = .ok (.aload_n 0, 1) := by decide +kernel
theorem dX1_takeFrom_48 : decode cX1_takeFrom 48 = .ok (.getfield 28, 3) := by decide +kernel
theorem dX1_takeFrom_51 : decode cX1_takeFrom 51 = .ok (.invokestatic 54, 3) := by decide +kernel
theorem dX1_takeFrom_54 : decode cX1_takeFrom 54 = .ok (.aload_n 1, 1) := by decide +kernel
theorem dX1_takeFrom_55 : decode cX1_takeFrom 55 = .ok (.getfield 31, 3) := by decide +kernel
theorem dX1_takeFrom_58 : decode cX1_takeFrom 58 = .ok (.aload_n 0, 1) := by decide +kernel
theorem dX1_takeFrom_59 : decode cX1_takeFrom 59 = .ok (.getfield 31, 3) := by decide +kernel
theorem dX1_takeFrom_62 : decode cX1_takeFrom 62 = .ok (.invokestatic 54, 3) := by decide +kernel
theorem dX1_takeFrom_65 : decode cX1_takeFrom 65 = .ok (.return_, 1) := by decide +kernel
theorem dX1_moveDown_0 : decode cX1_moveDown 0 = .ok (.aload_n 0, 1) := by decide +kernel
theorem dX1_moveDown_1 : decode cX1_moveDown 1 = .ok (.getfield 24, 3) := by decide +kernel
theorem dX1_moveDown_4 : decode cX1_moveDown 4 = .ok (.iload_n 1, 1) := by decide +kernel
theorem dX1_moveDown_5 : decode cX1_moveDown 5 = .ok (.iconst 1, 1) := by decide +kernel
theorem dX1_moveDown_6 : decode cX1_moveDown 6 = .ok (.isub, 1) := by decide +kernel
theorem dX1_moveDown_7 : decode cX1_moveDown 7 = .ok (.aload_n 0, 1) := by decide +kernel
theorem dX1_moveDown_8 : decode cX1_moveDown 8 = .ok (.iload_n 1, 1) := by decide +kernel
theorem dX1_moveDown_9 : decode cX1_moveDown 9 = .ok (.invokevirtual 58, 3) := by decide +kernel
theorem dX1_moveDown_12 : decode cX1_moveDown 12 = .ok (.invokestatic 38, 3) := by decide +kernel
theorem dX1_moveDown_15 : decode cX1_moveDown 15 = .ok (.aload_n 0, 1) := by decide +kernel
theorem dX1_moveDown_16 : decode cX1_moveDown 16 = .ok (.getfield 28, 3) := by decide +kernel
theorem dX1_moveDown_19 : decode cX1_moveDown 19 = .ok (.iload_n 1, 1) := by decide +kernel
theorem dX1_moveDown_20 : decode cX1_moveDown 20 = .ok (.iconst 1, 1) := by decide +kernel
theorem dX1_moveDown_21 : decode cX1_moveDown 21 = .ok (.isub, 1) := by decide +kernel
theorem dX1_moveDown_22 : decode cX1_moveDown 22 = .ok (.aload_n 0, 1) := by decide +kernel
theorem dX1_moveDown_23 : decode cX1_moveDown 23 = .ok (.iload_n 1, 1) := by decide +kernel
theorem dX1_moveDown_24 : decode cX1_moveDown 24 = .ok (.invokevirtual 46, 3) := by decide +kernel
theorem dX1_moveDown_27 : decode cX1_moveDown 27 = .ok (.invokestatic 38, 3) := by decide +kernel
theorem dX1_moveDown_30 : decode cX1_moveDown 30 = .ok (.iconst 0, 1) := by decide +kernel
theorem dX1_moveDown_31 : decode cX1_moveDown 31 = .ok (.istore_n 2, 1) := by decide +kernel
theorem dX1_moveDown_32 : decode cX1_moveDown 32 = .ok (.iload_n 2, 1) := by decide +kernel
theorem dX1_moveDown_33 : decode cX1_moveDown 33 = .ok (.bipush 12, 2) := by decide +kernel
theorem dX1_moveDown_35 : decode cX1_moveDown 35 = .ok (.if_icmp .ge 30, 3) := by decide +kernel
theorem dX1_moveDown_38 : decode cX1_moveDown 38 = .ok (.aload_n 0, 1) := by decide +kernel
theorem dX1_moveDown_39 : decode cX1_moveDown 39 = .ok (.getfield 31, 3) := by decide +kernel
theorem dX1_moveDown_42 : decode cX1_moveDown 42 = .ok (.iload_n 1, 1) := by decide +kernel
theorem dX1_moveDown_43 : decode cX1_moveDown 43 = .ok (.iconst 1, 1) := by decide +kernel
theorem dX1_moveDown_44 : decode cX1_moveDown 44 = .ok (.isub, 1) := by decide +kernel
theorem dX1_moveDown_45 : decode cX1_moveDown 45 = .ok (.bipush 12, 2) := by decide +kernel
theorem dX1_moveDown_47 : decode cX1_moveDown 47 = .ok (.imul, 1) := by decide +kernel
theorem dX1_moveDown_48 : decode cX1_moveDown 48 = .ok (.iload_n 2, 1) := by decide +kernel
theorem dX1_moveDown_49 : decode cX1_moveDown 49 = .ok (.iadd, 1) := by decide +kernel
theorem dX1_moveDown_50 : decode cX1_moveDown 50 = .ok (.aload_n 0, 1) := by decide +kernel
theorem dX1_moveDown_51 : decode cX1_moveDown 51 = .ok (.iload_n 1, 1) := by decide +kernel
theorem dX1_moveDown_52 : decode cX1_moveDown 52 = .ok (.iload_n 2, 1) := by decide +kernel
theorem dX1_moveDown_53 : decode cX1_moveDown 53 = .ok (.invokevirtual 61, 3) := by decide +kernel
theorem dX1_moveDown_56 : decode cX1_moveDown 56 = .ok (.invokestatic 38, 3) := by decide +kernel
theorem dX1_moveDown_59 : decode cX1_moveDown 59 = .ok (.iinc 2 1, 3) := by decide +kernel
theorem dX1_moveDown_62 : decode cX1_moveDown 62 = .ok (.goto (-30), 3) := by decide +kernel
theorem dX1_moveDown_65 : decode cX1_moveDown 65 = .ok (.return_, 1) := by decide +kernel
theorem dX2_init_0 : decode cX2_init 0 = .ok (.aload_n 0, 1) := by decide +kernel
theorem dX2_init_1 : decode cX2_init 1 = .ok (.invokespecial 3, 3) := by decide +kernel
theorem dX2_init_4 : decode cX2_init 4 = .ok (.aload_n 0, 1) := by decide +kernel
theorem dX2_init_5 : decode cX2_init 5 = .ok (.iconst 1, 1) := by decide +kernel
theorem dX2_init_6 : decode cX2_init 6 = .ok (.putfield 9, 3) := by decide +kernel
theorem dX2_init_9 : decode cX2_init 9 = .ok (.aload_n 0, 1) := by decide +kernel
theorem dX2_init_10 : decode cX2_init 10 = .ok (.iconst 0, 1) := by decide +kernel
theorem dX2_init_11 : decode cX2_init 11 = .ok (.putfield 15, 3) := by decide +kernel
theorem dX2_init_14 : decode cX2_init 14 = .ok (.aload_n 0, 1) := by decide +kernel
theorem dX2_init_15 : decode cX2_init 15 = .ok (.bipush 12, 2) := by decide +kernel
theorem dX2_init_17 : decode cX2_init 17 = .ok (.newarray .int, 2) := by decide +kernel
theorem dX2_init_19 : decode cX2_init 19 = .ok (.putfield 18, 3) := by decide +kernel
theorem dX2_init_22 : decode cX2_init 22 = .ok (.aload_n 0, 1) := by decide +kernel
theorem dX2_init_23 : decode cX2_init 23 = .ok (.bipush 12, 2) := by decide +kernel
theorem dX2_init_25 : decode cX2_init 25 = .ok (.newarray .int, 2) := by decide +kernel
theorem dX2_init_27 : decode cX2_init 27 = .ok (.putfield 22, 3) := by decide +kernel
theorem dX2_init_30 : decode cX2_init 30 = .ok (.aload_n 0, 1) := by decide +kernel
theorem dX2_init_31 : decode cX2_init 31 = .ok (.bipush 12, 2) := by decide +kernel
theorem dX2_init_33 : decode cX2_init 33 = .ok (.newarray .int, 2) := by decide +kernel
theorem dX2_init_35 : decode cX2_init 35 = .ok (.putfield 25, 3) := by decide +kernel
theorem dX2_init_38 : decode cX2_init 38 = .ok (.aload_n 0, 1) := by decide +kernel
theorem dX2_init_39 : decode cX2_init 39 = .ok (.bipush 12, 2) := by decide +kernel
theorem dX2_init_41 : decode cX2_init 41 = .ok (.newarray .int, 2) := by decide +kernel
theorem dX2_init_43 : decode cX2_init 43 = .ok (.putfield 28, 3) := by decide +kernel
theorem dX2_init_46 : decode cX2_init 46 = .ok (.aload_n 0, 1) := by decide +kernel
theorem dX2_init_47 : decode cX2_init 47 = .ok (.bipush 12, 2) := by decide +kernel
theorem dX2_init_49 : decode cX2_init 49 = .ok (.newarray .int, 2) := by decide +kernel
theorem dX2_init_51 : decode cX2_init 51 = .ok (.putfield 31, 3) := by decide +kernel
theorem dX2_init_54 : decode cX2_init 54 = .ok (.aload_n 0, 1) := by decide +kernel
theorem dX2_init_55 : decode cX2_init 55 = .ok (.bipush 96, 2) := by decide +kernel
theorem dX2_init_57 : decode cX2_init 57 = .ok (.newarray .int, 2) := by decide +kernel
theorem dX2_init_59 : decode cX2_init 59 = .ok (.putfield 34, 3) := by decide +kernel
theorem dX2_init_62 : decode cX2_init 62 = .ok (.aload_n 0, 1) := by decide +kernel
theorem dX2_init_63 : decode cX2_init 63 = .ok (.bipush 96, 2) := by decide +kernel
theorem dX2_init_65 : decode cX2_init 65 = .ok (.newarray .int, 2) := by decide +kernel
theorem dX2_init_67 : decode cX2_init 67 = .ok (.putfield 37, 3) := by decide +kernel
theorem dX2_init_70 : decode cX2_init 70 = .ok (.return_, 1) := by decide +kernel
theorem dX2_size_0 : decode cX2_size 0 = .ok (.aload_n 0, 1) := by decide +kernel
theorem dX2_size_1 : decode cX2_size 1 = .ok (.getfield 9, 3) := by decide +kernel
theorem dX2_size_4 : decode cX2_size 4 = .ok (.ireturn, 1) := by decide +kernel
theorem dX2_mark_0 : decode cX2_mark 0 = .ok (.aload_n 0, 1) := by decide +kernel
theorem dX2_mark_1 : decode cX2_mark 1 = .ok (.getfield 15, 3) := by decide +kernel
theorem dX2_mark_4 : decode cX2_mark 4 = .ok (.ireturn, 1) := by decide +kernel
theorem dX2_newest_0 : decode cX2_newest 0 = .ok (.aload_n 0, 1) := by decide +kernel
theorem dX2_newest_1 : decode cX2_newest 1 = .ok (.getfield 9, 3) := by decide +kernel
theorem dX2_newest_4 : decode cX2_newest 4 = .ok (.iconst 1, 1) := by decide +kernel
theorem dX2_newest_5 : decode cX2_newest 5 = .ok (.isub, 1) := by decide +kernel
theorem dX2_newest_6 : decode cX2_newest 6 = .ok (.ireturn, 1) := by decide +kernel
theorem dX2_isThere_0 : decode cX2_isThere 0 = .ok (.iload_n 1, 1) := by decide +kernel
theorem dX2_isThere_1 : decode cX2_isThere 1 = .ok (.ifCond .lt 15, 3) := by decide +kernel
theorem dX2_isThere_4 : decode cX2_isThere 4 = .ok (.iload_n 1, 1) := by decide +kernel
theorem dX2_isThere_5 : decode cX2_isThere 5 = .ok (.aload_n 0, 1) := by decide +kernel
theorem dX2_isThere_6 : decode cX2_isThere 6 = .ok (.getfield 9, 3) := by decide +kernel
theorem dX2_isThere_9 : decode cX2_isThere 9 = .ok (.if_icmp .ge 7, 3) := by decide +kernel
theorem dX2_isThere_12 : decode cX2_isThere 12 = .ok (.iconst 1, 1) := by decide +kernel
theorem dX2_isThere_13 : decode cX2_isThere 13 = .ok (.goto 4, 3) := by decide +kernel
theorem dX2_isThere_16 : decode cX2_isThere 16 = .ok (.iconst 0, 1) := by decide +kernel
theorem dX2_isThere_17 : decode cX2_isThere 17 = .ok (.ireturn, 1) := by decide +kernel
theorem dX2_isRetired_0 : decode cX2_isRetired 0 = .ok (.iload_n 1, 1) := by decide +kernel
theorem dX2_isRetired_1 : decode cX2_isRetired 1 = .ok (.aload_n 0, 1) := by decide +kernel
theorem dX2_isRetired_2 : decode cX2_isRetired 2 = .ok (.getfield 15, 3) := by decide +kernel
theorem dX2_isRetired_5 : decode cX2_isRetired 5 = .ok (.if_icmp .ge 7, 3) := by decide +kernel
theorem dX2_isRetired_8 : decode cX2_isRetired 8 = .ok (.iconst 1, 1) := by decide +kernel
theorem dX2_isRetired_9 : decode cX2_isRetired 9 = .ok (.goto 4, 3) := by decide +kernel
theorem dX2_isRetired_12 : decode cX2_isRetired 12 = .ok (.iconst 0, 1) := by decide +kernel
theorem dX2_isRetired_13 : decode cX2_isRetired 13 = .ok (.ireturn, 1) := by decide +kernel
theorem dX2_isUsable_0 : decode cX2_isUsable 0 = .ok (.aload_n 0, 1) := by decide +kernel
theorem dX2_isUsable_1 : decode cX2_isUsable 1 = .ok (.iload_n 1, 1) := by decide +kernel
theorem dX2_isUsable_2 : decode cX2_isUsable 2 = .ok (.invokevirtual 40, 3) := by decide +kernel
theorem dX2_isUsable_5 : decode cX2_isUsable 5 = .ok (.ifCond .eq 15, 3) := by decide +kernel
theorem dX2_isUsable_8 : decode cX2_isUsable 8 = .ok (.aload_n 0, 1) := by decide +kernel
theorem dX2_isUsable_9 : decode cX2_isUsable 9 = .ok (.iload_n 1, 1) := by decide +kernel
theorem dX2_isUsable_10 : decode cX2_isUsable 10 = .ok (.invokevirtual 44, 3) := by decide +kernel
theorem dX2_isUsable_13 : decode cX2_isUsable 13 = .ok (.ifCond .ne 7, 3) := by decide +kernel
theorem dX2_isUsable_16 : decode cX2_isUsable 16 = .ok (.iconst 1, 1) := by decide +kernel
theorem dX2_isUsable_17 : decode cX2_isUsable 17 = .ok (.goto 4, 3) := by decide +kernel
theorem dX2_isUsable_20 : decode cX2_isUsable 20 = .ok (.iconst 0, 1) := by decide +kernel
theorem dX2_isUsable_21 : decode cX2_isUsable 21 = .ok (.ireturn, 1) := by decide +kernel
theorem dX2_width_0 : decode cX2_width 0 = .ok (.aload_n 0, 1) := by decide +kernel
theorem dX2_width_1 : decode cX2_width 1 = .ok (.getfield 31, 3) := by decide +kernel
theorem dX2_width_4 : decode cX2_width 4 = .ok (.iload_n 1, 1) := by decide +kernel
theorem dX2_width_5 : decode cX2_width 5 = .ok (.invokestatic 47, 3) := by decide +kernel
theorem dX2_width_8 : decode cX2_width 8 = .ok (.ireturn, 1) := by decide +kernel
theorem dX2_changeOf_0 : decode cX2_changeOf 0 = .ok (.aload_n 0, 1) := by decide +kernel
theorem dX2_changeOf_1 : decode cX2_changeOf 1 = .ok (.getfield 18, 3) := by decide +kernel
theorem dX2_changeOf_4 : decode cX2_changeOf 4 = .ok (.iload_n 1, 1) := by decide +kernel
theorem dX2_changeOf_5 : decode cX2_changeOf 5 = .ok (.invokestatic 47, 3) := by decide +kernel
theorem dX2_changeOf_8 : decode cX2_changeOf 8 = .ok (.ireturn, 1) := by decide +kernel
theorem dX2_columnAt_0 : decode cX2_columnAt 0 = .ok (.aload_n 0, 1) := by decide +kernel
theorem dX2_columnAt_1 : decode cX2_columnAt 1 = .ok (.getfield 34, 3) := by decide +kernel
theorem dX2_columnAt_4 : decode cX2_columnAt 4 = .ok (.iload_n 1, 1) := by decide +kernel
theorem dX2_columnAt_5 : decode cX2_columnAt 5 = .ok (.bipush 8, 2) := by decide +kernel
theorem dX2_columnAt_7 : decode cX2_columnAt 7 = .ok (.imul, 1) := by decide +kernel
theorem dX2_columnAt_8 : decode cX2_columnAt 8 = .ok (.iload_n 2, 1) := by decide +kernel
theorem dX2_columnAt_9 : decode cX2_columnAt 9 = .ok (.iadd, 1) := by decide +kernel
theorem dX2_columnAt_10 : decode cX2_columnAt 10 = .ok (.invokestatic 47, 3) := by decide +kernel
theorem dX2_columnAt_13 : decode cX2_columnAt 13 = .ok (.ireturn, 1) := by decide +kernel
theorem dX2_columnOfLetter_0 : decode cX2_columnOfLetter 0 = .ok (.aload_n 0, 1) := by decide +kernel
theorem dX2_columnOfLetter_1 : decode cX2_columnOfLetter 1 = .ok (.iload_n 1, 1) := by decide +kernel
theorem dX2_columnOfLetter_2 : decode cX2_columnOfLetter 2 = .ok (.iload_n 2, 1) := by decide +kernel
theorem dX2_columnOfLetter_3 : decode cX2_columnOfLetter 3 = .ok (.invokevirtual 51, 3) := by decide +kernel
theorem dX2_columnOfLetter_6 : decode cX2_columnOfLetter 6 = .ok (.istore_n 3, 1) := by decide +kernel
theorem dX2_columnOfLetter_7 : decode cX2_columnOfLetter 7 = .ok (.iload_n 3, 1) := by decide +kernel
theorem dX2_columnOfLetter_8 : decode cX2_columnOfLetter 8 = .ok (.iconst (-1), 1) := by decide +kernel
theorem dX2_columnOfLetter_9 : decode cX2_columnOfLetter 9 = .ok (.if_icmp .ne 7, 3) := by decide +kernel
theorem dX2_columnOfLetter_12 : decode cX2_columnOfLetter 12 = .ok (.iconst (-1), 1) := by decide +kernel
theorem dX2_columnOfLetter_13 : decode cX2_columnOfLetter 13 = .ok (.goto 9, 3) := by decide +kernel
theorem dX2_columnOfLetter_16 : decode cX2_columnOfLetter 16 = .ok (.aload_n 0, 1) := by decide +kernel
theorem dX2_columnOfLetter_17 : decode cX2_columnOfLetter 17 = .ok (.iload_n 1, 1) := by decide +kernel
theorem dX2_columnOfLetter_18 : decode cX2_columnOfLetter 18 = .ok (.iload_n 3, 1) := by decide +kernel
theorem dX2_columnOfLetter_19 : decode cX2_columnOfLetter 19 = .ok (.invokevirtual 55, 3) := by decide +kernel
theorem dX2_columnOfLetter_22 : decode cX2_columnOfLetter 22 = .ok (.ireturn, 1) := by decide +kernel
theorem dX2_hasColumn_0 : decode cX2_hasColumn 0 = .ok (.aload_n 0, 1) := by decide +kernel
theorem dX2_hasColumn_1 : decode cX2_hasColumn 1 = .ok (.iload_n 1, 1) := by decide +kernel
theorem dX2_hasColumn_2 : decode cX2_hasColumn 2 = .ok (.iload_n 2, 1) := by decide +kernel
theorem dX2_hasColumn_3 : decode cX2_hasColumn 3 = .ok (.invokevirtual 58, 3) := by decide +kernel
theorem dX2_hasColumn_6 : decode cX2_hasColumn 6 = .ok (.iconst (-1), 1) := by decide +kernel
theorem dX2_hasColumn_7 : decode cX2_hasColumn 7 = .ok (.if_icmp .eq 7, 3) := by decide +kernel
theorem dX2_hasColumn_10 : decode cX2_hasColumn 10 = .ok (.iconst 1, 1) := by decide +kernel
theorem dX2_hasColumn_11 : decode cX2_hasColumn 11 = .ok (.goto 4, 3) := by decide +kernel
theorem dX2_hasColumn_14 : decode cX2_hasColumn 14 = .ok (.iconst 0, 1) := by decide +kernel
theorem dX2_hasColumn_15 : decode cX2_hasColumn 15 = .ok (.ireturn, 1) := by decide +kernel
theorem dX2_letterMask_0 : decode cX2_letterMask 0 = .ok (.iconst 0, 1) := by decide +kernel
theorem dX2_letterMask_1 : decode cX2_letterMask 1 = .ok (.istore_n 2, 1) := by decide +kernel
theorem dX2_letterMask_2 : decode cX2_letterMask 2 = .ok (.iconst 0, 1) := by decide +kernel
theorem dX2_letterMask_3 : decode cX2_letterMask 3 = .ok (.istore_n 3, 1) := by decide +kernel
theorem dX2_letterMask_4 : decode cX2_letterMask 4 = .ok (.iload_n 3, 1) := by decide +kernel
theorem dX2_letterMask_5 : decode cX2_letterMask 5 = .ok (.bipush 8, 2) := by decide +kernel
theorem dX2_letterMask_7 : decode cX2_letterMask 7 = .ok (.if_icmp .ge 25, 3) := by decide +kernel
theorem dX2_letterMask_10 : decode cX2_letterMask 10 = .ok (.aload_n 0, 1) := by decide +kernel
theorem dX2_letterMask_11 : decode cX2_letterMask 11 = .ok (.iload_n 1, 1) := by decide +kernel
theorem dX2_letterMask_12 : decode cX2_letterMask 12 = .ok (.iload_n 3, 1) := by decide +kernel
theorem dX2_letterMask_13 : decode cX2_letterMask 13 = .ok (.invokevirtual 51, 3) := by decide +kernel
theorem dX2_letterMask_16 : decode cX2_letterMask 16 = .ok (.iconst (-1), 1) := by decide +kernel
theorem dX2_letterMask_17 : decode cX2_letterMask 17 = .ok (.if_icmp .eq 9, 3) := by decide +kernel
theorem dX2_letterMask_20 : decode cX2_letterMask 20 = .ok (.iload_n 2, 1) := by decide +kernel
theorem dX2_letterMask_21 : decode cX2_letterMask 21 = .ok (.iconst 1, 1) := by decide +kernel
theorem dX2_letterMask_22 : decode cX2_letterMask 22 = .ok (.iload_n 3, 1) := by decide +kernel
theorem dX2_letterMask_23 : decode cX2_letterMask 23 = .ok (.ishl, 1) := by decide +kernel
theorem dX2_letterMask_24 : decode cX2_letterMask 24 = .ok (.ior, 1) := by decide +kernel
theorem dX2_letterMask_25 : decode cX2_letterMask 25 = .ok (.istore_n 2, 1) := by decide +kernel
theorem dX2_letterMask_26 : decode cX2_letterMask 26 = .ok (.iinc 3 1, 3) := by decide +kernel
theorem dX2_letterMask_29 : decode cX2_letterMask 29 = .ok (.goto (-25), 3) := by decide +kernel
theorem dX2_letterMask_32 : decode cX2_letterMask 32 = .ok (.iload_n 2, 1) := by decide +kernel
theorem dX2_letterMask_33 : decode cX2_letterMask 33 = .ok (.ireturn, 1) := by decide +kernel
theorem dX2_columnProperty_0 : decode cX2_columnProperty 0 = .ok (.iload_n 2, 1) := by decide +kernel
theorem dX2_columnProperty_1 : decode cX2_columnProperty 1 = .ok (.ifCond .lt 12, 3) := by decide +kernel
theorem dX2_columnProperty_4 : decode cX2_columnProperty 4 = .ok (.iload_n 2, 1) := by decide +kernel
theorem dX2_columnProperty_5 : decode cX2_columnProperty 5 = .ok (.aload_n 0, 1) := by decide +kernel
theorem dX2_columnProperty_6 : decode cX2_columnProperty 6 = .ok (.iload_n 1, 1) := by decide +kernel
theorem dX2_columnProperty_7 : decode cX2_columnProperty 7 = .ok (.invokevirtual 61, 3) := by decide +kernel
theorem dX2_columnProperty_10 : decode cX2_columnProperty 10 = .ok (.if_icmp .lt 5, 3) := by decide +kernel
theorem dX2_columnProperty_13 : decode cX2_columnProperty 13 = .ok (.iconst (-1), 1) := by decide +kernel
theorem dX2_columnProperty_14 : decode cX2_columnProperty 14 = .ok (.ireturn, 1) := by decide +kernel
theorem dX2_columnProperty_15 : decode cX2_columnProperty 15 = .ok (.iload_n 3, 1) := by decide +kernel
theorem dX2_columnProperty_16 : decode cX2_columnProperty 16 = .ok (.lookupswitch 42 #[(0, 28), (1, 35)], 28) := by decide +kernel
theorem dX2_columnProperty_44 : decode cX2_columnProperty 44 = .ok (.aload_n 0, 1) := by decide +kernel
theorem dX2_columnProperty_45 : decode cX2_columnProperty 45 = .ok (.iload_n 1, 1) := by decide +kernel
theorem dX2_columnProperty_46 : decode cX2_columnProperty 46 = .ok (.iload_n 2, 1) := by decide +kernel
theorem dX2_columnProperty_47 : decode cX2_columnProperty 47 = .ok (.invokevirtual 65, 3) := by decide +kernel
theorem dX2_columnProperty_50 : decode cX2_columnProperty 50 = .ok (.ireturn, 1) := by decide +kernel
theorem dX2_columnProperty_51 : decode cX2_columnProperty 51 = .ok (.aload_n 0, 1) := by decide +kernel
theorem dX2_columnProperty_52 : decode cX2_columnProperty 52 = .ok (.iload_n 1, 1) := by decide +kernel
theorem dX2_columnProperty_53 : decode cX2_columnProperty 53 = .ok (.iload_n 2, 1) := by decide +kernel
theorem dX2_columnProperty_54 : decode cX2_columnProperty 54 = .ok (.invokevirtual 55, 3) := by decide +kernel
theorem dX2_columnProperty_57 : decode cX2_columnProperty 57 = .ok (.ireturn, 1) := by decide +kernel
theorem dX2_columnProperty_58 : decode cX2_columnProperty 58 = .ok (.aload_n 0, 1) := by decide +kernel
theorem dX2_columnProperty_59 : decode cX2_columnProperty 59 = .ok (.aload_n 0, 1) := by decide +kernel
theorem dX2_columnProperty_60 : decode cX2_columnProperty 60 = .ok (.invokevirtual 68, 3) := by decide +kernel
theorem dX2_columnProperty_63 : decode cX2_columnProperty 63 = .ok (.aload_n 0, 1) := by decide +kernel
theorem dX2_columnProperty_64 : decode cX2_columnProperty 64 = .ok (.iload_n 1, 1) := by decide +kernel
theorem dX2_columnProperty_65 : decode cX2_columnProperty 65 = .ok (.iload_n 2, 1) := by decide +kernel
theorem dX2_columnProperty_66 : decode cX2_columnProperty 66 = .ok (.invokevirtual 55, 3) := by decide +kernel
theorem dX2_columnProperty_69 : decode cX2_columnProperty 69 = .ok (.invokevirtual 58, 3) := by decide +kernel
theorem dX2_columnProperty_72 : decode cX2_columnProperty 72 = .ok (.ireturn, 1) := by decide +kernel
theorem dX2_canAdd_0 : decode cX2_canAdd 0 = .ok (.aload_n 0, 1) := by decide +kernel
theorem dX2_canAdd_1 : decode cX2_canAdd 1 = .ok (.invokevirtual 72, 3) := by decide +kernel
theorem dX2_canAdd_4 : decode cX2_canAdd 4 = .ok (.ifCond .ne 15, 3) := by decide +kernel
theorem dX2_canAdd_7 : decode cX2_canAdd 7 = .ok (.aload_n 0, 1) := by decide +kernel
theorem dX2_canAdd_8 : decode cX2_canAdd 8 = .ok (.iload_n 1, 1) := by decide +kernel
theorem dX2_canAdd_9 : decode cX2_canAdd 9 = .ok (.invokevirtual 76, 3) := by decide +kernel
theorem dX2_canAdd_12 : decode cX2_canAdd 12 = .ok (.ifCond .ne 7, 3) := by decide +kernel
theorem dX2_canAdd_15 : decode cX2_canAdd 15 = .ok (.iconst 1, 1) := by decide +kernel
theorem dX2_canAdd_16 : decode cX2_canAdd 16 = .ok (.goto 4, 3) := by decide +kernel
theorem dX2_canAdd_19 : decode cX2_canAdd 19 = .ok (.iconst 0, 1) := by decide +kernel
theorem dX2_canAdd_20 : decode cX2_canAdd 20 = .ok (.ireturn, 1) := by decide +kernel
theorem dX2_canAddFrom_0 : decode cX2_canAddFrom 0 = .ok (.aload_n 0, 1) := by decide +kernel
theorem dX2_canAddFrom_1 : decode cX2_canAddFrom 1 = .ok (.invokevirtual 72, 3) := by decide +kernel
theorem dX2_canAddFrom_4 : decode cX2_canAddFrom 4 = .ok (.ifCond .ne 36, 3) := by decide +kernel
theorem dX2_canAddFrom_7 : decode cX2_canAddFrom 7 = .ok (.aload_n 0, 1) := by decide +kernel
theorem dX2_canAddFrom_8 : decode cX2_canAddFrom 8 = .ok (.iload_n 1, 1) := by decide +kernel
theorem dX2_canAddFrom_9 : decode cX2_canAddFrom 9 = .ok (.invokevirtual 76, 3) := by decide +kernel
theorem dX2_canAddFrom_12 : decode cX2_canAddFrom 12 = .ok (.ifCond .ne 28, 3) := by decide +kernel
theorem dX2_canAddFrom_15 : decode cX2_canAddFrom 15 = .ok (.aload_n 0, 1) := by decide +kernel
theorem dX2_canAddFrom_16 : decode cX2_canAddFrom 16 = .ok (.iload_n 2, 1) := by decide +kernel
theorem dX2_canAddFrom_17 : decode cX2_canAddFrom 17 = .ok (.invokevirtual 76, 3) := by decide +kernel
theorem dX2_canAddFrom_20 : decode cX2_canAddFrom 20 = .ok (.ifCond .eq 20, 3) := by decide +kernel
theorem dX2_canAddFrom_23 : decode cX2_canAddFrom 23 = .ok (.iload_n 3, 1) := by decide +kernel
theorem dX2_canAddFrom_24 : decode cX2_canAddFrom 24 = .ok (.iconst (-1), 1) := by decide +kernel
theorem dX2_canAddFrom_25 : decode cX2_canAddFrom 25 = .ok (.if_icmp .eq 11, 3) := by decide +kernel
theorem dX2_canAddFrom_28 : decode cX2_canAddFrom 28 = .ok (.aload_n 0, 1) := by decide +kernel
theorem dX2_canAddFrom_29 : decode cX2_canAddFrom 29 = .ok (.iload_n 3, 1) := by decide +kernel
theorem dX2_canAddFrom_30 : decode cX2_canAddFrom 30 = .ok (.invokevirtual 76, 3) := by decide +kernel
theorem dX2_canAddFrom_33 : decode cX2_canAddFrom 33 = .ok (.ifCond .eq 7, 3) := by decide +kernel
theorem dX2_canAddFrom_36 : decode cX2_canAddFrom 36 = .ok (.iconst 1, 1) := by decide +kernel
theorem dX2_canAddFrom_37 : decode cX2_canAddFrom 37 = .ok (.goto 4, 3) := by decide +kernel
theorem dX2_canAddFrom_40 : decode cX2_canAddFrom 40 = .ok (.iconst 0, 1) := by decide +kernel
theorem dX2_canAddFrom_41 : decode cX2_canAddFrom 41 = .ok (.ireturn, 1) := by decide +kernel
theorem dX2_canDrop_0 : decode cX2_canDrop 0 = .ok (.aload_n 0, 1) := by decide +kernel
theorem dX2_canDrop_1 : decode cX2_canDrop 1 = .ok (.invokevirtual 72, 3) := by decide +kernel
theorem dX2_canDrop_4 : decode cX2_canDrop 4 = .ok (.ifCond .ne 15, 3) := by decide +kernel
theorem dX2_canDrop_7 : decode cX2_canDrop 7 = .ok (.aload_n 0, 1) := by decide +kernel
theorem dX2_canDrop_8 : decode cX2_canDrop 8 = .ok (.iload_n 1, 1) := by decide +kernel
theorem dX2_canDrop_9 : decode cX2_canDrop 9 = .ok (.invokevirtual 76, 3) := by decide +kernel
theorem dX2_canDrop_12 : decode cX2_canDrop 12 = .ok (.ifCond .eq 7, 3) := by decide +kernel
theorem dX2_canDrop_15 : decode cX2_canDrop 15 = .ok (.iconst 1, 1) := by decide +kernel
theorem dX2_canDrop_16 : decode cX2_canDrop 16 = .ok (.goto 4, 3) := by decide +kernel
theorem dX2_canDrop_19 : decode cX2_canDrop 19 = .ok (.iconst 0, 1) := by decide +kernel
theorem dX2_canDrop_20 : decode cX2_canDrop 20 = .ok (.ireturn, 1) := by decide +kernel
theorem dX2_canRename_0 : decode cX2_canRename 0 = .ok (.aload_n 0, 1) := by decide +kernel
theorem dX2_canRename_1 : decode cX2_canRename 1 = .ok (.invokevirtual 72, 3) := by decide +kernel
theorem dX2_canRename_4 : decode cX2_canRename 4 = .ok (.ifCond .ne 23, 3) := by decide +kernel
theorem dX2_canRename_7 : decode cX2_canRename 7 = .ok (.aload_n 0, 1) := by decide +kernel
theorem dX2_canRename_8 : decode cX2_canRename 8 = .ok (.iload_n 1, 1) := by decide +kernel
theorem dX2_canRename_9 : decode cX2_canRename 9 = .ok (.invokevirtual 76, 3) := by decide +kernel
theorem dX2_canRename_12 : decode cX2_canRename 12 = .ok (.ifCond .eq 15, 3) := by decide +kernel
theorem dX2_canRename_15 : decode cX2_canRename 15 = .ok (.aload_n 0, 1) := by decide +kernel
theorem dX2_canRename_16 : decode cX2_canRename 16 = .ok (.iload_n 2, 1) := by decide +kernel
theorem dX2_canRename_17 : decode cX2_canRename 17 = .ok (.invokevirtual 76, 3) := by decide +kernel
theorem dX2_canRename_20 : decode cX2_canRename 20 = .ok (.ifCond .ne 7, 3) := by decide +kernel
theorem dX2_canRename_23 : decode cX2_canRename 23 = .ok (.iconst 1, 1) := by decide +kernel
theorem dX2_canRename_24 : decode cX2_canRename 24 = .ok (.goto 4, 3) := by decide +kernel
theorem dX2_canRename_27 : decode cX2_canRename 27 = .ok (.iconst 0, 1) := by decide +kernel
theorem dX2_canRename_28 : decode cX2_canRename 28 = .ok (.ireturn, 1) := by decide +kernel
theorem dX2_extendByNumber_0 : decode cX2_extendByNumber 0 = .ok (.aload_n 0, 1) := by decide +kernel
theorem dX2_extendByNumber_1 : decode cX2_extendByNumber 1 = .ok (.iconst 1, 1) := by decide +kernel
theorem dX2_extendByNumber_2 : decode cX2_extendByNumber 2 = .ok (.invokevirtual 79, 3) := by decide +kernel
theorem dX2_extendByNumber_5 : decode cX2_extendByNumber 5 = .ok (.istore_n 3, 1) := by decide +kernel
theorem dX2_extendByNumber_6 : decode cX2_extendByNumber 6 = .ok (.aload_n 0, 1) := by decide +kernel
theorem dX2_extendByNumber_7 : decode cX2_extendByNumber 7 = .ok (.getfield 22, 3) := by decide +kernel
theorem dX2_extendByNumber_10 : decode cX2_extendByNumber 10 = .ok (.iload_n 3, 1) := by decide +kernel
theorem dX2_extendByNumber_11 : decode cX2_extendByNumber 11 = .ok (.iload_n 2, 1) := by decide +kernel
theorem dX2_extendByNumber_12 : decode cX2_extendByNumber 12 = .ok (.invokestatic 82, 3) := by decide +kernel
theorem dX2_extendByNumber_15 : decode cX2_extendByNumber 15 = .ok (.aload_n 0, 1) := by decide +kernel
theorem dX2_extendByNumber_16 : decode cX2_extendByNumber 16 = .ok (.iload_n 3, 1) := by decide +kernel
theorem dX2_extendByNumber_17 : decode cX2_extendByNumber 17 = .ok (.iload_n 1, 1) := by decide +kernel
theorem dX2_extendByNumber_18 : decode cX2_extendByNumber 18 = .ok (.invokevirtual 86, 3) := by decide +kernel
theorem dX2_extendByNumber_21 : decode cX2_extendByNumber 21 = .ok (.iload_n 3, 1) := by decide +kernel
theorem dX2_extendByNumber_22 : decode cX2_extendByNumber 22 = .ok (.ireturn, 1) := by decide +kernel
theorem dX2_extendFrom_0 : decode cX2_extendFrom 0 = .ok (.aload_n 0, 1) := by decide +kernel
theorem dX2_extendFrom_1 : decode cX2_extendFrom 1 = .ok (.aload_n 0, 1) := by decide +kernel
theorem dX2_extendFrom_2 : decode cX2_extendFrom 2 = .ok (.invokevirtual 68, 3) := by decide +kernel
theorem dX2_extendFrom_5 : decode cX2_extendFrom 5 = .ok (.iload_n 2, 1) := by decide +kernel
theorem dX2_extendFrom_6 : decode cX2_extendFrom 6 = .ok (.invokevirtual 90, 3) := by decide +kernel
theorem dX2_extendFrom_9 : decode cX2_extendFrom 9 = .ok (.istore 4, 2) := by decide +kernel
theorem dX2_extendFrom_11 : decode cX2_extendFrom 11 = .ok (.aload_n 0, 1) := by decide +kernel
theorem dX2_extendFrom_12 : decode cX2_extendFrom 12 = .ok (.aload_n 0, 1) := by decide +kernel
theorem dX2_extendFrom_13 : decode cX2_extendFrom 13 = .ok (.invokevirtual 68, 3) := by decide +kernel
theorem dX2_extendFrom_16 : decode cX2_extendFrom 16 = .ok (.iload_n 3, 1) := by decide +kernel
theorem dX2_extendFrom_17 : decode cX2_extendFrom 17 = .ok (.invokevirtual 90, 3) := by decide +kernel
theorem dX2_extendFrom_20 : decode cX2_extendFrom 20 = .ok (.istore 5, 2) := by decide +kernel
theorem dX2_extendFrom_22 : decode cX2_extendFrom 22 = .ok (.aload_n 0, 1) := by decide +kernel
theorem dX2_extendFrom_23 : decode cX2_extendFrom 23 = .ok (.iload_n 3, 1) := by decide +kernel
theorem dX2_extendFrom_24 : decode cX2_extendFrom 24 = .ok (.iconst (-1), 1) := by decide +kernel
theorem dX2_extendFrom_25 : decode cX2_extendFrom 25 = .ok (.if_icmp .ne 7, 3) := by decide +kernel
theorem dX2_extendFrom_28 : decode cX2_extendFrom 28 = .ok (.iconst 2, 1) := by decide +kernel
theorem dX2_extendFrom_29 : decode cX2_extendFrom 29 = .ok (.goto 4, 3) := by decide +kernel
theorem dX2_extendFrom_32 : decode cX2_extendFrom 32 = .ok (.iconst 3, 1) := by decide +kernel
theorem dX2_extendFrom_33 : decode cX2_extendFrom 33 = .ok (.invokevirtual 79, 3) := by decide +kernel
theorem dX2_extendFrom_36 : decode cX2_extendFrom 36 = .ok (.istore 6, 2) := by decide +kernel
theorem dX2_extendFrom_38 : decode cX2_extendFrom 38 = .ok (.aload_n 0, 1) := by decide +kernel
theorem dX2_extendFrom_39 : decode cX2_extendFrom 39 = .ok (.getfield 25, 3) := by decide +kernel
theorem dX2_extendFrom_42 : decode cX2_extendFrom 42 = .ok (.iload 6, 2) := by decide +kernel
theorem dX2_extendFrom_44 : decode cX2_extendFrom 44 = .ok (.iload 4, 2) := by decide +kernel
theorem dX2_extendFrom_46 : decode cX2_extendFrom 46 = .ok (.invokestatic 82, 3) := by decide +kernel
theorem dX2_extendFrom_49 : decode cX2_extendFrom 49 = .ok (.aload_n 0, 1) := by decide +kernel
theorem dX2_extendFrom_50 : decode cX2_extendFrom 50 = .ok (.getfield 28, 3) := by decide +kernel
theorem dX2_extendFrom_53 : decode cX2_extendFrom 53 = .ok (.iload 6, 2) := by decide +kernel
theorem dX2_extendFrom_55 : decode cX2_extendFrom 55 = .ok (.iload 5, 2) := by decide +kernel
theorem dX2_extendFrom_57 : decode cX2_extendFrom 57 = .ok (.invokestatic 82, 3) := by decide +kernel
theorem dX2_extendFrom_60 : decode cX2_extendFrom 60 = .ok (.aload_n 0, 1) := by decide +kernel
theorem dX2_extendFrom_61 : decode cX2_extendFrom 61 = .ok (.iload 6, 2) := by decide +kernel
theorem dX2_extendFrom_63 : decode cX2_extendFrom 63 = .ok (.iload_n 1, 1) := by decide +kernel
theorem dX2_extendFrom_64 : decode cX2_extendFrom 64 = .ok (.invokevirtual 86, 3) := by decide +kernel
theorem dX2_extendFrom_67 : decode cX2_extendFrom 67 = .ok (.iload 6, 2) := by decide +kernel
theorem dX2_extendFrom_69 : decode cX2_extendFrom 69 = .ok (.ireturn, 1) := by decide +kernel
theorem dX2_leaveOut_0 : decode cX2_leaveOut 0 = .ok (.aload_n 0, 1) := by decide +kernel
theorem dX2_leaveOut_1 : decode cX2_leaveOut 1 = .ok (.aload_n 0, 1) := by decide +kernel
theorem dX2_leaveOut_2 : decode cX2_leaveOut 2 = .ok (.invokevirtual 68, 3) := by decide +kernel
theorem dX2_leaveOut_5 : decode cX2_leaveOut 5 = .ok (.iload_n 1, 1) := by decide +kernel
theorem dX2_leaveOut_6 : decode cX2_leaveOut 6 = .ok (.invokevirtual 51, 3) := by decide +kernel
theorem dX2_leaveOut_9 : decode cX2_leaveOut 9 = .ok (.istore_n 3, 1) := by decide +kernel
theorem dX2_leaveOut_10 : decode cX2_leaveOut 10 = .ok (.aload_n 0, 1) := by decide +kernel
theorem dX2_leaveOut_11 : decode cX2_leaveOut 11 = .ok (.aload_n 0, 1) := by decide +kernel
theorem dX2_leaveOut_12 : decode cX2_leaveOut 12 = .ok (.invokevirtual 68, 3) := by decide +kernel
theorem dX2_leaveOut_15 : decode cX2_leaveOut 15 = .ok (.iload_n 3, 1) := by decide +kernel
theorem dX2_leaveOut_16 : decode cX2_leaveOut 16 = .ok (.invokevirtual 55, 3) := by decide +kernel
theorem dX2_leaveOut_19 : decode cX2_leaveOut 19 = .ok (.istore 4, 2) := by decide +kernel
theorem dX2_leaveOut_21 : decode cX2_leaveOut 21 = .ok (.aload_n 0, 1) := by decide +kernel
theorem dX2_leaveOut_22 : decode cX2_leaveOut 22 = .ok (.iconst 4, 1) := by decide +kernel
theorem dX2_leaveOut_23 : decode cX2_leaveOut 23 = .ok (.invokevirtual 79, 3) := by decide +kernel
theorem dX2_leaveOut_26 : decode cX2_leaveOut 26 = .ok (.istore 5, 2) := by decide +kernel
theorem dX2_leaveOut_28 : decode cX2_leaveOut 28 = .ok (.aload_n 0, 1) := by decide +kernel
theorem dX2_leaveOut_29 : decode cX2_leaveOut 29 = .ok (.getfield 25, 3) := by decide +kernel
theorem dX2_leaveOut_32 : decode cX2_leaveOut 32 = .ok (.iload 5, 2) := by decide +kernel
theorem dX2_leaveOut_34 : decode cX2_leaveOut 34 = .ok (.iload 4, 2) := by decide +kernel
theorem dX2_leaveOut_36 : decode cX2_leaveOut 36 = .ok (.invokestatic 82, 3) := by decide +kernel
theorem dX2_leaveOut_39 : decode cX2_leaveOut 39 = .ok (.aload_n 0, 1) := by decide +kernel
theorem dX2_leaveOut_40 : decode cX2_leaveOut 40 = .ok (.getfield 22, 3) := by decide +kernel
theorem dX2_leaveOut_43 : decode cX2_leaveOut 43 = .ok (.iload 5, 2) := by decide +kernel
theorem dX2_leaveOut_45 : decode cX2_leaveOut 45 = .ok (.iload_n 2, 1) := by decide +kernel
theorem dX2_leaveOut_46 : decode cX2_leaveOut 46 = .ok (.invokestatic 82, 3) := by decide +kernel
theorem dX2_leaveOut_49 : decode cX2_leaveOut 49 = .ok (.aload_n 0, 1) := by decide +kernel
theorem dX2_leaveOut_50 : decode cX2_leaveOut 50 = .ok (.iload 5, 2) := by decide +kernel
theorem dX2_leaveOut_52 : decode cX2_leaveOut 52 = .ok (.iload_n 3, 1) := by decide +kernel
theorem dX2_leaveOut_53 : decode cX2_leaveOut 53 = .ok (.invokevirtual 93, 3) := by decide +kernel
theorem dX2_leaveOut_56 : decode cX2_leaveOut 56 = .ok (.iload 5, 2) := by decide +kernel
theorem dX2_leaveOut_58 : decode cX2_leaveOut 58 = .ok (.ireturn, 1) := by decide +kernel
theorem dX2_exchangeLetter_0 : decode cX2_exchangeLetter 0 = .ok (.aload_n 0, 1) := by decide +kernel
theorem dX2_exchangeLetter_1 : decode cX2_exchangeLetter 1 = .ok (.aload_n 0, 1) := by decide +kernel
theorem dX2_exchangeLetter_2 : decode cX2_exchangeLetter 2 = .ok (.invokevirtual 68, 3) := by decide +kernel
theorem dX2_exchangeLetter_5 : decode cX2_exchangeLetter 5 = .ok (.iload_n 1, 1) := by decide +kernel
theorem dX2_exchangeLetter_6 : decode cX2_exchangeLetter 6 = .ok (.invokevirtual 51, 3) := by decide +kernel
theorem dX2_exchangeLetter_9 : decode cX2_exchangeLetter 9 = .ok (.istore_n 3, 1) := by decide +kernel
theorem dX2_exchangeLetter_10 : decode cX2_exchangeLetter 10 = .ok (.aload_n 0, 1) := by decide +kernel
theorem dX2_exchangeLetter_11 : decode cX2_exchangeLetter 11 = .ok (.iconst 5, 1) := by decide +kernel
theorem dX2_exchangeLetter_12 : decode cX2_exchangeLetter 12 = .ok (.invokevirtual 79, 3) := by decide +kernel
theorem dX2_exchangeLetter_15 : decode cX2_exchangeLetter 15 = .ok (.istore 4, 2) := by decide +kernel
theorem dX2_exchangeLetter_17 : decode cX2_exchangeLetter 17 = .ok (.aload_n 0, 1) := by decide +kernel
theorem dX2_exchangeLetter_18 : decode cX2_exchangeLetter 18 = .ok (.getfield 37, 3) := by decide +kernel
theorem dX2_exchangeLetter_21 : decode cX2_exchangeLetter 21 = .ok (.iload 4, 2) := by decide +kernel
theorem dX2_exchangeLetter_23 : decode cX2_exchangeLetter 23 = .ok (.bipush 8, 2) := by decide +kernel
theorem dX2_exchangeLetter_25 : decode cX2_exchangeLetter 25 = .ok (.imul, 1) := by decide +kernel
theorem dX2_exchangeLetter_26 : decode cX2_exchangeLetter 26 = .ok (.iload_n 3, 1) := by decide +kernel
theorem dX2_exchangeLetter_27 : decode cX2_exchangeLetter 27 = .ok (.iadd, 1) := by decide +kernel
theorem dX2_exchangeLetter_28 : decode cX2_exchangeLetter 28 = .ok (.iload_n 2, 1) := by decide +kernel
theorem dX2_exchangeLetter_29 : decode cX2_exchangeLetter 29 = .ok (.invokestatic 82, 3) := by decide +kernel
theorem dX2_exchangeLetter_32 : decode cX2_exchangeLetter 32 = .ok (.iload 4, 2) := by decide +kernel
theorem dX2_exchangeLetter_34 : decode cX2_exchangeLetter 34 = .ok (.ireturn, 1) := by decide +kernel
theorem dX2_setMark_0 : decode cX2_setMark 0 = .ok (.aload_n 0, 1) := by decide +kernel
theorem dX2_setMark_1 : decode cX2_setMark 1 = .ok (.iload_n 1, 1) := by decide +kernel
theorem dX2_setMark_2 : decode cX2_setMark 2 = .ok (.putfield 15, 3) := by decide +kernel
theorem dX2_setMark_5 : decode cX2_setMark 5 = .ok (.aload_n 0, 1) := by decide +kernel
theorem dX2_setMark_6 : decode cX2_setMark 6 = .ok (.getfield 9, 3) := by decide +kernel
theorem dX2_setMark_9 : decode cX2_setMark 9 = .ok (.aload_n 0, 1) := by decide +kernel
theorem dX2_setMark_10 : decode cX2_setMark 10 = .ok (.getfield 15, 3) := by decide +kernel
theorem dX2_setMark_13 : decode cX2_setMark 13 = .ok (.isub, 1) := by decide +kernel
theorem dX2_setMark_14 : decode cX2_setMark 14 = .ok (.ireturn, 1) := by decide +kernel
theorem dX2_carryForth_0 : decode cX2_carryForth 0 = .ok (.iload_n 2, 1) := by decide +kernel
theorem dX2_carryForth_1 : decode cX2_carryForth 1 = .ok (.iconst 1, 1) := by decide +kernel
theorem dX2_carryForth_2 : decode cX2_carryForth 2 = .ok (.iadd, 1) := by decide +kernel
theorem dX2_carryForth_3 : decode cX2_carryForth 3 = .ok (.istore 4, 2) := by decide +kernel
theorem dX2_carryForth_5 : decode cX2_carryForth 5 = .ok (.iload 4, 2) := by decide +kernel
theorem dX2_carryForth_7 : decode cX2_carryForth 7 = .ok (.iload_n 3, 1) := by decide +kernel
theorem dX2_carryForth_8 : decode cX2_carryForth 8 = .ok (.if_icmp .gt 117, 3) := by decide +kernel
theorem dX2_carryForth_11 : decode cX2_carryForth 11 = .ok (.aload_n 1, 1) := by decide +kernel
theorem dX2_carryForth_12 : decode cX2_carryForth 12 = .ok (.aload_n 0, 1) := by decide +kernel
theorem dX2_carryForth_13 : decode cX2_carryForth 13 = .ok (.getfield 25, 3) := by decide +kernel
theorem dX2_carryForth_16 : decode cX2_carryForth 16 = .ok (.iload 4, 2) := by decide +kernel
theorem dX2_carryForth_18 : decode cX2_carryForth 18 = .ok (.invokestatic 47, 3) := by decide +kernel
theorem dX2_carryForth_21 : decode cX2_carryForth 21 = .ok (.invokestatic 47, 3) := by decide +kernel
theorem dX2_carryForth_24 : decode cX2_carryForth 24 = .ok (.istore 5, 2) := by decide +kernel
theorem dX2_carryForth_26 : decode cX2_carryForth 26 = .ok (.aload_n 0, 1) := by decide +kernel
theorem dX2_carryForth_27 : decode cX2_carryForth 27 = .ok (.getfield 18, 3) := by decide +kernel
theorem dX2_carryForth_30 : decode cX2_carryForth 30 = .ok (.iload 4, 2) := by decide +kernel
theorem dX2_carryForth_32 : decode cX2_carryForth 32 = .ok (.invokestatic 47, 3) := by decide +kernel
theorem dX2_carryForth_35 : decode cX2_carryForth 35 = .ok (.tableswitch 84 1 3 #[25, 43, 54], 25) := by decide +kernel
theorem dX2_carryForth_60 : decode cX2_carryForth 60 = .ok (.aload_n 1, 1) := by decide +kernel
theorem dX2_carryForth_61 : decode cX2_carryForth 61 = .ok (.iload 4, 2) := by decide +kernel
theorem dX2_carryForth_63 : decode cX2_carryForth 63 = .ok (.aload_n 0, 1) := by decide +kernel
theorem dX2_carryForth_64 : decode cX2_carryForth 64 = .ok (.getfield 22, 3) := by decide +kernel
theorem dX2_carryForth_67 : decode cX2_carryForth 67 = .ok (.iload 4, 2) := by decide +kernel
theorem dX2_carryForth_69 : decode cX2_carryForth 69 = .ok (.invokestatic 47, 3) := by decide +kernel
theorem dX2_carryForth_72 : decode cX2_carryForth 72 = .ok (.invokestatic 82, 3) := by decide +kernel
theorem dX2_carryForth_75 : decode cX2_carryForth 75 = .ok (.goto 44, 3) := by decide +kernel
theorem dX2_carryForth_78 : decode cX2_carryForth 78 = .ok (.aload_n 1, 1) := by decide +kernel
theorem dX2_carryForth_79 : decode cX2_carryForth 79 = .ok (.iload 4, 2) := by decide +kernel
theorem dX2_carryForth_81 : decode cX2_carryForth 81 = .ok (.iload 5, 2) := by decide +kernel
theorem dX2_carryForth_83 : decode cX2_carryForth 83 = .ok (.invokestatic 82, 3) := by decide +kernel
theorem dX2_carryForth_86 : decode cX2_carryForth 86 = .ok (.goto 33, 3) := by decide +kernel
theorem dX2_carryForth_89 : decode cX2_carryForth 89 = .ok (.aload_n 1, 1) := by decide +kernel
theorem dX2_carryForth_90 : decode cX2_carryForth 90 = .ok (.iload 4, 2) := by decide +kernel
theorem dX2_carryForth_92 : decode cX2_carryForth 92 = .ok (.iload 5, 2) := by decide +kernel
theorem dX2_carryForth_94 : decode cX2_carryForth 94 = .ok (.aload_n 1, 1) := by decide +kernel
theorem dX2_carryForth_95 : decode cX2_carryForth 95 = .ok (.aload_n 0, 1) := by decide +kernel
theorem dX2_carryForth_96 : decode cX2_carryForth 96 = .ok (.getfield 28, 3) := by decide +kernel
theorem dX2_carryForth_99 : decode cX2_carryForth 99 = .ok (.iload 4, 2) := by decide +kernel
theorem dX2_carryForth_101 : decode cX2_carryForth 101 = .ok (.invokestatic 47, 3) := by decide +kernel
theorem dX2_carryForth_104 : decode cX2_carryForth 104 = .ok (.invokestatic 47, 3) := by decide +kernel
theorem dX2_carryForth_107 : decode cX2_carryForth 107 = .ok (.iadd, 1) := by decide +kernel
theorem dX2_carryForth_108 : decode cX2_carryForth 108 = .ok (.ldc 96, 2) := by decide +kernel
theorem dX2_carryForth_110 : decode cX2_carryForth 110 = .ok (.invokestatic 97, 3) := by decide +kernel
theorem dX2_carryForth_113 : decode cX2_carryForth 113 = .ok (.invokestatic 82, 3) := by decide +kernel
theorem dX2_carryForth_116 : decode cX2_carryForth 116 = .ok (.goto 3, 3) := by decide +kernel
theorem dX2_carryForth_119 : decode cX2_carryForth 119 = .ok (.iinc 4 1, 3) := by decide +kernel
theorem dX2_carryForth_122 : decode cX2_carryForth 122 = .ok (.goto (-117), 3) := by decide +kernel
theorem dX2_carryForth_125 : decode cX2_carryForth 125 = .ok (.return_, 1) := by decide +kernel
theorem dX2_carryBack_0 : decode cX2_carryBack 0 = .ok (.iload_n 2, 1) := by decide +kernel
theorem dX2_carryBack_1 : decode cX2_carryBack 1 = .ok (.istore 4, 2) := by decide +kernel
theorem dX2_carryBack_3 : decode cX2_carryBack 3 = .ok (.iload 4, 2) := by decide +kernel
theorem dX2_carryBack_5 : decode cX2_carryBack 5 = .ok (.iload_n 3, 1) := by decide +kernel
theorem dX2_carryBack_6 : decode cX2_carryBack 6 = .ok (.if_icmp .le 44, 3) := by decide +kernel
theorem dX2_carryBack_9 : decode cX2_carryBack 9 = .ok (.aload_n 0, 1) := by decide +kernel
theorem dX2_carryBack_10 : decode cX2_carryBack 10 = .ok (.getfield 18, 3) := by decide +kernel
theorem dX2_carryBack_13 : decode cX2_carryBack 13 = .ok (.iload 4, 2) := by decide +kernel
theorem dX2_carryBack_15 : decode cX2_carryBack 15 = .ok (.invokestatic 47, 3) := by decide +kernel
theorem dX2_carryBack_18 : decode cX2_carryBack 18 = .ok (.iconst 4, 1) := by decide +kernel
theorem dX2_carryBack_19 : decode cX2_carryBack 19 = .ok (.if_icmp .ne 25, 3) := by decide +kernel
theorem dX2_carryBack_22 : decode cX2_carryBack 22 = .ok (.aload_n 1, 1) := by decide +kernel
theorem dX2_carryBack_23 : decode cX2_carryBack 23 = .ok (.aload_n 0, 1) := by decide +kernel
theorem dX2_carryBack_24 : decode cX2_carryBack 24 = .ok (.getfield 25, 3) := by decide +kernel
theorem dX2_carryBack_27 : decode cX2_carryBack 27 = .ok (.iload 4, 2) := by decide +kernel
theorem dX2_carryBack_29 : decode cX2_carryBack 29 = .ok (.invokestatic 47, 3) := by decide +kernel
theorem dX2_carryBack_32 : decode cX2_carryBack 32 = .ok (.aload_n 0, 1) := by decide +kernel
theorem dX2_carryBack_33 : decode cX2_carryBack 33 = .ok (.getfield 22, 3) := by decide +kernel
theorem dX2_carryBack_36 : decode cX2_carryBack 36 = .ok (.iload 4, 2) := by decide +kernel
theorem dX2_carryBack_38 : decode cX2_carryBack 38 = .ok (.invokestatic 47, 3) := by decide +kernel
theorem dX2_carryBack_41 : decode cX2_carryBack 41 = .ok (.invokestatic 82, 3) := by decide +kernel
theorem dX2_carryBack_44 : decode cX2_carryBack 44 = .ok (.iinc 4 (-1), 3) := by decide +kernel
theorem dX2_carryBack_47 : decode cX2_carryBack 47 = .ok (.goto (-44), 3) := by decide +kernel
theorem dX2_carryBack_50 : decode cX2_carryBack 50 = .ok (.return_, 1) := by decide +kernel
theorem dX2_takeFrom_0 : decode cX2_takeFrom 0 = .ok (.aload_n 0, 1) := by decide +kernel
theorem dX2_takeFrom_1 : decode cX2_takeFrom 1 = .ok (.aload_n 1, 1) := by decide +kernel
theorem dX2_takeFrom_2 : decode cX2_takeFrom 2 = .ok (.getfield 9, 3) := by decide +kernel
theorem dX2_takeFrom_5 : decode cX2_takeFrom 5 = .ok (.putfield 9, 3) := by decide +kernel
theorem dX2_takeFrom_8 : decode cX2_takeFrom 8 = .ok (.aload_n 0, 1) := by decide +kernel
theorem dX2_takeFrom_9 : decode cX2_takeFrom 9 = .ok (.aload_n 1, 1) := by decide +kernel
theorem dX2_takeFrom_10 : decode cX2_takeFrom 10 = .ok (.getfield 15, 3) := by decide +kernel
theorem dX2_takeFrom_13 : decode cX2_takeFrom 13 = .ok (.putfield 15, 3) := by decide +kernel
theorem dX2_takeFrom_16 : decode cX2_takeFrom 16 = .ok (.aload_n 1, 1) := by decide +kernel
theorem dX2_takeFrom_17 : decode cX2_takeFrom 17 = .ok (.getfield 18, 3) := by decide +kernel
theorem dX2_takeFrom_20 : decode cX2_takeFrom 20 = .ok (.aload_n 0, 1) := by decide +kernel
theorem dX2_takeFrom_21 : decode cX2_takeFrom 21 = .ok (.getfield 18, 3) := by decide +kernel
theorem dX2_takeFrom_24 : decode cX2_takeFrom 24 = .ok (.invokestatic 102, 3) := by decide +kernel
theorem dX2_takeFrom_27 : decode cX2_takeFrom 27 = .ok (.aload_n 1, 1) := by decide +kernel
theorem dX2_takeFrom_28 : decode cX2_takeFrom 28 = .ok (.getfield 22, 3) := by decide +kernel
theorem dX2_takeFrom_31 : decode cX2_takeFrom 31 = .ok (.aload_n 0, 1) := by decide +kernel
theorem dX2_takeFrom_32 : decode cX2_takeFrom 32 = .ok (.getfield 22, 3) := by decide +kernel
theorem dX2_takeFrom_35 : decode cX2_takeFrom 35 = .ok (.invokestatic 102, 3) := by decide +kernel
theorem dX2_takeFrom_38 : decode cX2_takeFrom 38 = .ok (.aload_n 1, 1) := by decide +kernel
theorem dX2_takeFrom_39 : decode cX2_takeFrom 39 = .ok (.getfield 25, 3) := by decide +kernel
theorem dX2_takeFrom_42 : decode cX2_takeFrom 42 = .ok (.aload_n 0, 1) := by decide +kernel
theorem dX2_takeFrom_43 : decode cX2_takeFrom 43 = .ok (.getfield 25, 3) := by decide +kernel
theorem dX2_takeFrom_46 : decode cX2_takeFrom 46 = .ok (.invokestatic 102, 3) := by decide +kernel
theorem dX2_takeFrom_49 : decode cX2_takeFrom 49 = .ok (.aload_n 1, 1) := by decide +kernel
theorem dX2_takeFrom_50 : decode cX2_takeFrom 50 = .ok (.getfield 28, 3) := by decide +kernel
theorem dX2_takeFrom_53 : decode cX2_takeFrom 53 = .ok (.aload_n 0, 1) := by decide +kernel
theorem dX2_takeFrom_54 : decode cX2_takeFrom 54 = .ok (.getfield 28, 3) := by decide +kernel
theorem dX2_takeFrom_57 : decode cX2_takeFrom 57 = .ok (.invokestatic 102, 3) := by decide +kernel
theorem dX2_takeFrom_60 : decode cX2_takeFrom 60 = .ok (.aload_n 1, 1) := by decide +kernel
theorem dX2_takeFrom_61 : decode cX2_takeFrom 61 = .ok (.getfield 31, 3) := by decide +kernel
theorem dX2_takeFrom_64 : decode cX2_takeFrom 64 = .ok (.aload_n 0, 1) := by decide +kernel
theorem dX2_takeFrom_65 : decode cX2_takeFrom 65 = .ok (.getfield 31, 3) := by decide +kernel
theorem dX2_takeFrom_68 : decode cX2_takeFrom 68 = .ok (.invokestatic 102, 3) := by decide +kernel
theorem dX2_takeFrom_71 : decode cX2_takeFrom 71 = .ok (.aload_n 1, 1) := by decide +kernel
theorem dX2_takeFrom_72 : decode cX2_takeFrom 72 = .ok (.getfield 34, 3) := by decide +kernel
theorem dX2_takeFrom_75 : decode cX2_takeFrom 75 = .ok (.aload_n 0, 1) := by decide +kernel
theorem dX2_takeFrom_76 : decode cX2_takeFrom 76 = .ok (.getfield 34, 3) := by decide +kernel
theorem dX2_takeFrom_79 : decode cX2_takeFrom 79 = .ok (.invokestatic 102, 3) := by decide +kernel
theorem dX2_takeFrom_82 : decode cX2_takeFrom 82 = .ok (.aload_n 1, 1) := by decide +kernel
theorem dX2_takeFrom_83 : decode cX2_takeFrom 83 = .ok (.getfield 37, 3) := by decide +kernel
theorem dX2_takeFrom_86 : decode cX2_takeFrom 86 = .ok (.aload_n 0, 1) := by decide +kernel
theorem dX2_takeFrom_87 : decode cX2_takeFrom 87 = .ok (.getfield 37, 3) := by decide +kernel
theorem dX2_takeFrom_90 : decode cX2_takeFrom 90 = .ok (.invokestatic 102, 3) := by decide +kernel
theorem dX2_takeFrom_93 : decode cX2_takeFrom 93 = .ok (.return_, 1) := by decide +kernel
theorem dX2_isFull_0 : decode cX2_isFull 0 = .ok (.aload_n 0, 1) := by decide +kernel
theorem dX2_isFull_1 : decode cX2_isFull 1 = .ok (.getfield 9, 3) := by decide +kernel
theorem dX2_isFull_4 : decode cX2_isFull 4 = .ok (.bipush 12, 2) := by decide +kernel
theorem dX2_isFull_6 : decode cX2_isFull 6 = .ok (.if_icmp .lt 7, 3) := by decide +kernel
theorem dX2_isFull_9 : decode cX2_isFull 9 = .ok (.iconst 1, 1) := by decide +kernel
theorem dX2_isFull_10 : decode cX2_isFull 10 = .ok (.goto 4, 3) := by decide +kernel
theorem dX2_isFull_13 : decode cX2_isFull 13 = .ok (.iconst 0, 1) := by decide +kernel
theorem dX2_isFull_14 : decode cX2_isFull 14 = .ok (.ireturn, 1) := by decide +kernel
theorem dX2_newestHas_0 : decode cX2_newestHas 0 = .ok (.aload_n 0, 1) := by decide +kernel
theorem dX2_newestHas_1 : decode cX2_newestHas 1 = .ok (.aload_n 0, 1) := by decide +kernel
theorem dX2_newestHas_2 : decode cX2_newestHas 2 = .ok (.invokevirtual 68, 3) := by decide +kernel
theorem dX2_newestHas_5 : decode cX2_newestHas 5 = .ok (.iload_n 1, 1) := by decide +kernel
theorem dX2_newestHas_6 : decode cX2_newestHas 6 = .ok (.invokevirtual 51, 3) := by decide +kernel
theorem dX2_newestHas_9 : decode cX2_newestHas 9 = .ok (.iconst (-1), 1) := by decide +kernel
theorem dX2_newestHas_10 : decode cX2_newestHas 10 = .ok (.if_icmp .eq 7, 3) := by decide +kernel
theorem dX2_newestHas_13 : decode cX2_newestHas 13 = .ok (.iconst 1, 1) := by decide +kernel
theorem dX2_newestHas_14 : decode cX2_newestHas 14 = .ok (.goto 4, 3) := by decide +kernel
theorem dX2_newestHas_17 : decode cX2_newestHas 17 = .ok (.iconst 0, 1) := by decide +kernel
theorem dX2_newestHas_18 : decode cX2_newestHas 18 = .ok (.ireturn, 1) := by decide +kernel
theorem dX2_placeOfLetter_0 : decode cX2_placeOfLetter 0 = .ok (.aload_n 0, 1) := by decide +kernel
theorem dX2_placeOfLetter_1 : decode cX2_placeOfLetter 1 = .ok (.getfield 31, 3) := by decide +kernel
theorem dX2_placeOfLetter_4 : decode cX2_placeOfLetter 4 = .ok (.iload_n 1, 1) := by decide +kernel
theorem dX2_placeOfLetter_5 : decode cX2_placeOfLetter 5 = .ok (.invokestatic 47, 3) := by decide +kernel
theorem dX2_placeOfLetter_8 : decode cX2_placeOfLetter 8 = .ok (.istore_n 3, 1) := by decide +kernel
theorem dX2_placeOfLetter_9 : decode cX2_placeOfLetter 9 = .ok (.iconst 0, 1) := by decide +kernel
theorem dX2_placeOfLetter_10 : decode cX2_placeOfLetter 10 = .ok (.istore 4, 2) := by decide +kernel
theorem dX2_placeOfLetter_12 : decode cX2_placeOfLetter 12 = .ok (.iload 4, 2) := by decide +kernel
theorem dX2_placeOfLetter_14 : decode cX2_placeOfLetter 14 = .ok (.iload_n 3, 1) := by decide +kernel
theorem dX2_placeOfLetter_15 : decode cX2_placeOfLetter 15 = .ok (.if_icmp .ge 30, 3) := by decide +kernel
theorem dX2_placeOfLetter_18 : decode cX2_placeOfLetter 18 = .ok (.aload_n 0, 1) := by decide +kernel
theorem dX2_placeOfLetter_19 : decode cX2_placeOfLetter 19 = .ok (.getfield 37, 3) := by decide +kernel
theorem dX2_placeOfLetter_22 : decode cX2_placeOfLetter 22 = .ok (.iload_n 1, 1) := by decide +kernel
theorem dX2_placeOfLetter_23 : decode cX2_placeOfLetter 23 = .ok (.bipush 8, 2) := by decide +kernel
theorem dX2_placeOfLetter_25 : decode cX2_placeOfLetter 25 = .ok (.imul, 1) := by decide +kernel
theorem dX2_placeOfLetter_26 : decode cX2_placeOfLetter 26 = .ok (.iload 4, 2) := by decide +kernel
theorem dX2_placeOfLetter_28 : decode cX2_placeOfLetter 28 = .ok (.iadd, 1) := by decide +kernel
theorem dX2_placeOfLetter_29 : decode cX2_placeOfLetter 29 = .ok (.invokestatic 47, 3) := by decide +kernel
theorem dX2_placeOfLetter_32 : decode cX2_placeOfLetter 32 = .ok (.iload_n 2, 1) := by decide +kernel
theorem dX2_placeOfLetter_33 : decode cX2_placeOfLetter 33 = .ok (.if_icmp .ne 6, 3) := by decide +kernel
theorem dX2_placeOfLetter_36 : decode cX2_placeOfLetter 36 = .ok (.iload 4, 2) := by decide +kernel
theorem dX2_placeOfLetter_38 : decode cX2_placeOfLetter 38 = .ok (.ireturn, 1) := by decide +kernel
theorem dX2_placeOfLetter_39 : decode cX2_placeOfLetter 39 = .ok (.iinc 4 1, 3) := by decide +kernel
theorem dX2_placeOfLetter_42 : decode cX2_placeOfLetter 42 = .ok (.goto (-30), 3) := by decide +kernel
theorem dX2_placeOfLetter_45 : decode cX2_placeOfLetter 45 = .ok (.iconst (-1), 1) := by decide +kernel
theorem dX2_placeOfLetter_46 : decode cX2_placeOfLetter 46 = .ok (.ireturn, 1) := by decide +kernel
theorem dX2_placeOfColumn_0 : decode cX2_placeOfColumn 0 = .ok (.aload_n 0, 1) := by decide +kernel
theorem dX2_placeOfColumn_1 : decode cX2_placeOfColumn 1 = .ok (.getfield 31, 3) := by decide +kernel
theorem dX2_placeOfColumn_4 : decode cX2_placeOfColumn 4 = .ok (.iload_n 1, 1) := by decide +kernel
theorem dX2_placeOfColumn_5 : decode cX2_placeOfColumn 5 = .ok (.invokestatic 47, 3) := by decide +kernel
theorem dX2_placeOfColumn_8 : decode cX2_placeOfColumn 8 = .ok (.istore_n 3, 1) := by decide +kernel
theorem dX2_placeOfColumn_9 : decode cX2_placeOfColumn 9 = .ok (.iconst 0, 1) := by decide +kernel
theorem dX2_placeOfColumn_10 : decode cX2_placeOfColumn 10 = .ok (.istore 4, 2) := by decide +kernel
theorem dX2_placeOfColumn_12 : decode cX2_placeOfColumn 12 = .ok (.iload 4, 2) := by decide +kernel
theorem dX2_placeOfColumn_14 : decode cX2_placeOfColumn 14 = .ok (.iload_n 3, 1) := by decide +kernel
theorem dX2_placeOfColumn_15 : decode cX2_placeOfColumn 15 = .ok (.if_icmp .ge 30, 3) := by decide +kernel
theorem dX2_placeOfColumn_18 : decode cX2_placeOfColumn 18 = .ok (.aload_n 0, 1) := by decide +kernel
theorem dX2_placeOfColumn_19 : decode cX2_placeOfColumn 19 = .ok (.getfield 34, 3) := by decide +kernel
theorem dX2_placeOfColumn_22 : decode cX2_placeOfColumn 22 = .ok (.iload_n 1, 1) := by decide +kernel
theorem dX2_placeOfColumn_23 : decode cX2_placeOfColumn 23 = .ok (.bipush 8, 2) := by decide +kernel
theorem dX2_placeOfColumn_25 : decode cX2_placeOfColumn 25 = .ok (.imul, 1) := by decide +kernel
theorem dX2_placeOfColumn_26 : decode cX2_placeOfColumn 26 = .ok (.iload 4, 2) := by decide +kernel
theorem dX2_placeOfColumn_28 : decode cX2_placeOfColumn 28 = .ok (.iadd, 1) := by decide +kernel
theorem dX2_placeOfColumn_29 : decode cX2_placeOfColumn 29 = .ok (.invokestatic 47, 3) := by decide +kernel
theorem dX2_placeOfColumn_32 : decode cX2_placeOfColumn 32 = .ok (.iload_n 2, 1) := by decide +kernel
theorem dX2_placeOfColumn_33 : decode cX2_placeOfColumn 33 = .ok (.if_icmp .ne 6, 3) := by decide +kernel
theorem dX2_placeOfColumn_36 : decode cX2_placeOfColumn 36 = .ok (.iload 4, 2) := by decide +kernel
theorem dX2_placeOfColumn_38 : decode cX2_placeOfColumn 38 = .ok (.ireturn, 1) := by decide +kernel
theorem dX2_placeOfColumn_39 : decode cX2_placeOfColumn 39 = .ok (.iinc 4 1, 3) := by decide +kernel
theorem dX2_placeOfColumn_42 : decode cX2_placeOfColumn 42 = .ok (.goto (-30), 3) := by decide +kernel
theorem dX2_placeOfColumn_45 : decode cX2_placeOfColumn 45 = .ok (.iconst (-1), 1) := by decide +kernel
theorem dX2_placeOfColumn_46 : decode cX2_placeOfColumn 46 = .ok (.ireturn, 1) := by decide +kernel
theorem dX2_letterAt_0 : decode cX2_letterAt 0 = .ok (.aload_n 0, 1) := by decide +kernel
theorem dX2_letterAt_1 : decode cX2_letterAt 1 = .ok (.getfield 37, 3) := by decide +kernel
theorem dX2_letterAt_4 : decode cX2_letterAt 4 = .ok (.iload_n 1, 1) := by decide +kernel
theorem dX2_letterAt_5 : decode cX2_letterAt 5 = .ok (.bipush 8, 2) := by decide +kernel
theorem dX2_letterAt_7 : decode cX2_letterAt 7 = .ok (.imul, 1) := by decide +kernel
theorem dX2_letterAt_8 : decode cX2_letterAt 8 = .ok (.iload_n 2, 1) := by decide +kernel
theorem dX2_letterAt_9 : decode cX2_letterAt 9 = .ok (.iadd, 1) := by decide +kernel
theorem dX2_letterAt_10 : decode cX2_letterAt 10 = .ok (.invokestatic 47, 3) := by decide +kernel
theorem dX2_letterAt_13 : decode cX2_letterAt 13 = .ok (.ireturn, 1) := by decide +kernel
theorem dX2_comeBy_0 : decode cX2_comeBy 0 = .ok (.aload_n 0, 1) := by decide +kernel
theorem dX2_comeBy_1 : decode cX2_comeBy 1 = .ok (.getfield 9, 3) := by decide +kernel
theorem dX2_comeBy_4 : decode cX2_comeBy 4 = .ok (.istore_n 2, 1) := by decide +kernel
theorem dX2_comeBy_5 : decode cX2_comeBy 5 = .ok (.aload_n 0, 1) := by decide +kernel
theorem dX2_comeBy_6 : decode cX2_comeBy 6 = .ok (.invokevirtual 68, 3) := by decide +kernel
theorem dX2_comeBy_9 : decode cX2_comeBy 9 = .ok (.istore_n 3, 1) := by decide +kernel
theorem dX2_comeBy_10 : decode cX2_comeBy 10 = .ok (.aload_n 0, 1) := by decide +kernel
theorem dX2_comeBy_11 : decode cX2_comeBy 11 = .ok (.getfield 18, 3) := by decide +kernel
theorem dX2_comeBy_14 : decode cX2_comeBy 14 = .ok (.iload_n 2, 1) := by decide +kernel
theorem dX2_comeBy_15 : decode cX2_comeBy 15 = .ok (.iload_n 1, 1) := by decide +kernel
theorem dX2_comeBy_16 : decode cX2_comeBy 16 = .ok (.invokestatic 82, 3) := by decide +kernel
theorem dX2_comeBy_19 : decode cX2_comeBy 19 = .ok (.aload_n 0, 1) := by decide +kernel
theorem dX2_comeBy_20 : decode cX2_comeBy 20 = .ok (.getfield 31, 3) := by decide +kernel
theorem dX2_comeBy_23 : decode cX2_comeBy 23 = .ok (.iload_n 2, 1) := by decide +kernel
theorem dX2_comeBy_24 : decode cX2_comeBy 24 = .ok (.aload_n 0, 1) := by decide +kernel
theorem dX2_comeBy_25 : decode cX2_comeBy 25 = .ok (.iload_n 3, 1) := by decide +kernel
theorem dX2_comeBy_26 : decode cX2_comeBy 26 = .ok (.invokevirtual 61, 3) := by decide +kernel
theorem dX2_comeBy_29 : decode cX2_comeBy 29 = .ok (.invokestatic 82, 3) := by decide +kernel
theorem dX2_comeBy_32 : decode cX2_comeBy 32 = .ok (.iconst 0, 1) := by decide +kernel
theorem dX2_comeBy_33 : decode cX2_comeBy 33 = .ok (.istore 4, 2) := by decide +kernel
theorem dX2_comeBy_35 : decode cX2_comeBy 35 = .ok (.iload 4, 2) := by decide +kernel
theorem dX2_comeBy_37 : decode cX2_comeBy 37 = .ok (.aload_n 0, 1) := by decide +kernel
theorem dX2_comeBy_38 : decode cX2_comeBy 38 = .ok (.iload_n 3, 1) := by decide +kernel
theorem dX2_comeBy_39 : decode cX2_comeBy 39 = .ok (.invokevirtual 61, 3) := by decide +kernel
theorem dX2_comeBy_42 : decode cX2_comeBy 42 = .ok (.if_icmp .ge 51, 3) := by decide +kernel
theorem dX2_comeBy_45 : decode cX2_comeBy 45 = .ok (.aload_n 0, 1) := by decide +kernel
theorem dX2_comeBy_46 : decode cX2_comeBy 46 = .ok (.getfield 34, 3) := by decide +kernel
theorem dX2_comeBy_49 : decode cX2_comeBy 49 = .ok (.iload_n 2, 1) := by decide +kernel
theorem dX2_comeBy_50 : decode cX2_comeBy 50 = .ok (.bipush 8, 2) := by decide +kernel
theorem dX2_comeBy_52 : decode cX2_comeBy 52 = .ok (.imul, 1) := by decide +kernel
theorem dX2_comeBy_53 : decode cX2_comeBy 53 = .ok (.iload 4, 2) := by decide +kernel
theorem dX2_comeBy_55 : decode cX2_comeBy 55 = .ok (.iadd, 1) := by decide +kernel
theorem dX2_comeBy_56 : decode cX2_comeBy 56 = .ok (.aload_n 0, 1) := by decide +kernel
theorem dX2_comeBy_57 : decode cX2_comeBy 57 = .ok (.iload_n 3, 1) := by decide +kernel
theorem dX2_comeBy_58 : decode cX2_comeBy 58 = .ok (.iload 4, 2) := by decide +kernel
theorem dX2_comeBy_60 : decode cX2_comeBy 60 = .ok (.invokevirtual 55, 3) := by decide +kernel
theorem dX2_comeBy_63 : decode cX2_comeBy 63 = .ok (.invokestatic 82, 3) := by decide +kernel
theorem dX2_comeBy_66 : decode cX2_comeBy 66 = .ok (.aload_n 0, 1) := by decide +kernel
theorem dX2_comeBy_67 : decode cX2_comeBy 67 = .ok (.getfield 37, 3) := by decide +kernel
theorem dX2_comeBy_70 : decode cX2_comeBy 70 = .ok (.iload_n 2, 1) := by decide +kernel
theorem dX2_comeBy_71 : decode cX2_comeBy 71 = .ok (.bipush 8, 2) := by decide +kernel
theorem dX2_comeBy_73 : decode cX2_comeBy 73 = .ok (.imul, 1) := by decide +kernel
theorem dX2_comeBy_74 : decode cX2_comeBy 74 = .ok (.iload 4, 2) := by decide +kernel
theorem dX2_comeBy_76 : decode cX2_comeBy 76 = .ok (.iadd, 1) := by decide +kernel
theorem dX2_comeBy_77 : decode cX2_comeBy 77 = .ok (.aload_n 0, 1) := by decide +kernel
theorem dX2_comeBy_78 : decode cX2_comeBy 78 = .ok (.iload_n 3, 1) := by decide +kernel
theorem dX2_comeBy_79 : decode cX2_comeBy 79 = .ok (.iload 4, 2) := by decide +kernel
theorem dX2_comeBy_81 : decode cX2_comeBy 81 = .ok (.invokevirtual 65, 3) := by decide +kernel
theorem dX2_comeBy_84 : decode cX2_comeBy 84 = .ok (.invokestatic 82, 3) := by decide +kernel
theorem dX2_comeBy_87 : decode cX2_comeBy 87 = .ok (.iinc 4 1, 3) := by decide +kernel
theorem dX2_comeBy_90 : decode cX2_comeBy 90 = .ok (.goto (-55), 3) := by decide +kernel
theorem dX2_comeBy_93 : decode cX2_comeBy 93 = .ok (.aload_n 0, 1) := by decide +kernel
theorem dX2_comeBy_94 : decode cX2_comeBy 94 = .ok (.dup, 1) := by decide +kernel
theorem dX2_comeBy_95 : decode cX2_comeBy 95 = .ok (.getfield 9, 3) := by decide +kernel
theorem dX2_comeBy_98 : decode cX2_comeBy 98 = .ok (.iconst 1, 1) := by decide +kernel
theorem dX2_comeBy_99 : decode cX2_comeBy 99 = .ok (.iadd, 1) := by decide +kernel
theorem dX2_comeBy_100 : decode cX2_comeBy 100 = .ok (.putfield 9, 3) := by decide +kernel
theorem dX2_comeBy_103 : decode cX2_comeBy 103 = .ok (.iload_n 2, 1) := by decide +kernel
theorem dX2_comeBy_104 : decode cX2_comeBy 104 = .ok (.ireturn, 1) := by decide +kernel
theorem dX2_addLast_0 : decode cX2_addLast 0 = .ok (.aload_n 0, 1) := by decide +kernel
theorem dX2_addLast_1 : decode cX2_addLast 1 = .ok (.iload_n 1, 1) := by decide +kernel
theorem dX2_addLast_2 : decode cX2_addLast 2 = .ok (.invokevirtual 61, 3) := by decide +kernel
theorem dX2_addLast_5 : decode cX2_addLast 5 = .ok (.istore_n 3, 1) := by decide +kernel
theorem dX2_addLast_6 : decode cX2_addLast 6 = .ok (.aload_n 0, 1) := by decide +kernel
theorem dX2_addLast_7 : decode cX2_addLast 7 = .ok (.getfield 31, 3) := by decide +kernel
theorem dX2_addLast_10 : decode cX2_addLast 10 = .ok (.iload_n 1, 1) := by decide +kernel
theorem dX2_addLast_11 : decode cX2_addLast 11 = .ok (.iload_n 3, 1) := by decide +kernel
theorem dX2_addLast_12 : decode cX2_addLast 12 = .ok (.iconst 1, 1) := by decide +kernel
theorem dX2_addLast_13 : decode cX2_addLast 13 = .ok (.iadd, 1) := by decide +kernel
theorem dX2_addLast_14 : decode cX2_addLast 14 = .ok (.invokestatic 82, 3) := by decide +kernel
theorem dX2_addLast_17 : decode cX2_addLast 17 = .ok (.aload_n 0, 1) := by decide +kernel
theorem dX2_addLast_18 : decode cX2_addLast 18 = .ok (.getfield 34, 3) := by decide +kernel
theorem dX2_addLast_21 : decode cX2_addLast 21 = .ok (.iload_n 1, 1) := by decide +kernel
theorem dX2_addLast_22 : decode cX2_addLast 22 = .ok (.bipush 8, 2) := by decide +kernel
theorem dX2_addLast_24 : decode cX2_addLast 24 = .ok (.imul, 1) := by decide +kernel
theorem dX2_addLast_25 : decode cX2_addLast 25 = .ok (.iload_n 3, 1) := by decide +kernel
theorem dX2_addLast_26 : decode cX2_addLast 26 = .ok (.iadd, 1) := by decide +kernel
theorem dX2_addLast_27 : decode cX2_addLast 27 = .ok (.iload_n 1, 1) := by decide +kernel
theorem dX2_addLast_28 : decode cX2_addLast 28 = .ok (.invokestatic 82, 3) := by decide +kernel
theorem dX2_addLast_31 : decode cX2_addLast 31 = .ok (.aload_n 0, 1) := by decide +kernel
theorem dX2_addLast_32 : decode cX2_addLast 32 = .ok (.getfield 37, 3) := by decide +kernel
theorem dX2_addLast_35 : decode cX2_addLast 35 = .ok (.iload_n 1, 1) := by decide +kernel
theorem dX2_addLast_36 : decode cX2_addLast 36 = .ok (.bipush 8, 2) := by decide +kernel
theorem dX2_addLast_38 : decode cX2_addLast 38 = .ok (.imul, 1) := by decide +kernel
theorem dX2_addLast_39 : decode cX2_addLast 39 = .ok (.iload_n 3, 1) := by decide +kernel
theorem dX2_addLast_40 : decode cX2_addLast 40 = .ok (.iadd, 1) := by decide +kernel
theorem dX2_addLast_41 : decode cX2_addLast 41 = .ok (.iload_n 2, 1) := by decide +kernel
theorem dX2_addLast_42 : decode cX2_addLast 42 = .ok (.invokestatic 82, 3) := by decide +kernel
theorem dX2_addLast_45 : decode cX2_addLast 45 = .ok (.return_, 1) := by decide +kernel
theorem dX2_closeGap_0 : decode cX2_closeGap 0 = .ok (.aload_n 0, 1) := by decide +kernel
theorem dX2_closeGap_1 : decode cX2_closeGap 1 = .ok (.iload_n 1, 1) := by decide +kernel
theorem dX2_closeGap_2 : decode cX2_closeGap 2 = .ok (.invokevirtual 61, 3) := by decide +kernel
theorem dX2_closeGap_5 : decode cX2_closeGap 5 = .ok (.iconst 1, 1) := by decide +kernel
theorem dX2_closeGap_6 : decode cX2_closeGap 6 = .ok (.isub, 1) := by decide +kernel
theorem dX2_closeGap_7 : decode cX2_closeGap 7 = .ok (.istore_n 3, 1) := by decide +kernel
theorem dX2_closeGap_8 : decode cX2_closeGap 8 = .ok (.iload_n 2, 1) := by decide +kernel
theorem dX2_closeGap_9 : decode cX2_closeGap 9 = .ok (.istore 4, 2) := by decide +kernel
theorem dX2_closeGap_11 : decode cX2_closeGap 11 = .ok (.iload 4, 2) := by decide +kernel
theorem dX2_closeGap_13 : decode cX2_closeGap 13 = .ok (.iload_n 3, 1) := by decide +kernel
theorem dX2_closeGap_14 : decode cX2_closeGap 14 = .ok (.if_icmp .ge 55, 3) := by decide +kernel
theorem dX2_closeGap_17 : decode cX2_closeGap 17 = .ok (.aload_n 0, 1) := by decide +kernel
theorem dX2_closeGap_18 : decode cX2_closeGap 18 = .ok (.getfield 34, 3) := by decide +kernel
theorem dX2_closeGap_21 : decode cX2_closeGap 21 = .ok (.iload_n 1, 1) := by decide +kernel
theorem dX2_closeGap_22 : decode cX2_closeGap 22 = .ok (.bipush 8, 2) := by decide +kernel
theorem dX2_closeGap_24 : decode cX2_closeGap 24 = .ok (.imul, 1) := by decide +kernel
theorem dX2_closeGap_25 : decode cX2_closeGap 25 = .ok (.iload 4, 2) := by decide +kernel
theorem dX2_closeGap_27 : decode cX2_closeGap 27 = .ok (.iadd, 1) := by decide +kernel
theorem dX2_closeGap_28 : decode cX2_closeGap 28 = .ok (.aload_n 0, 1) := by decide +kernel
theorem dX2_closeGap_29 : decode cX2_closeGap 29 = .ok (.iload_n 1, 1) := by decide +kernel
theorem dX2_closeGap_30 : decode cX2_closeGap 30 = .ok (.iload 4, 2) := by decide +kernel
theorem dX2_closeGap_32 : decode cX2_closeGap 32 = .ok (.iconst 1, 1) := by decide +kernel
theorem dX2_closeGap_33 : decode cX2_closeGap 33 = .ok (.iadd, 1) := by decide +kernel
theorem dX2_closeGap_34 : decode cX2_closeGap 34 = .ok (.invokevirtual 55, 3) := by decide +kernel
theorem dX2_closeGap_37 : decode cX2_closeGap 37 = .ok (.invokestatic 82, 3) := by decide +kernel
theorem dX2_closeGap_40 : decode cX2_closeGap 40 = .ok (.aload_n 0, 1) := by decide +kernel
theorem dX2_closeGap_41 : decode cX2_closeGap 41 = .ok (.getfield 37, 3) := by decide +kernel
theorem dX2_closeGap_44 : decode cX2_closeGap 44 = .ok (.iload_n 1, 1) := by decide +kernel
theorem dX2_closeGap_45 : decode cX2_closeGap 45 = .ok (.bipush 8, 2) := by decide +kernel
theorem dX2_closeGap_47 : decode cX2_closeGap 47 = .ok (.imul, 1) := by decide +kernel
theorem dX2_closeGap_48 : decode cX2_closeGap 48 = .ok (.iload 4, 2) := by decide +kernel
theorem dX2_closeGap_50 : decode cX2_closeGap 50 = .ok (.iadd, 1) := by decide +kernel
theorem dX2_closeGap_51 : decode cX2_closeGap 51 = .ok (.aload_n 0, 1) := by decide +kernel
theorem dX2_closeGap_52 : decode cX2_closeGap 52 = .ok (.iload_n 1, 1) := by decide +kernel
theorem dX2_closeGap_53 : decode cX2_closeGap 53 = .ok (.iload 4, 2) := by decide +kernel
theorem dX2_closeGap_55 : decode cX2_closeGap 55 = .ok (.iconst 1, 1) := by decide +kernel
theorem dX2_closeGap_56 : decode cX2_closeGap 56 = .ok (.iadd, 1) := by decide +kernel
theorem dX2_closeGap_57 : decode cX2_closeGap 57 = .ok (.invokevirtual 65, 3) := by decide +kernel
theorem dX2_closeGap_60 : decode cX2_closeGap 60 = .ok (.invokestatic 82, 3) := by decide +kernel
theorem dX2_closeGap_63 : decode cX2_closeGap 63 = .ok (.iinc 4 1, 3) := by decide +kernel
theorem dX2_closeGap_66 : decode cX2_closeGap 66 = .ok (.goto (-55), 3) := by decide +kernel
theorem dX2_closeGap_69 : decode cX2_closeGap 69 = .ok (.aload_n 0, 1) := by decide +kernel
theorem dX2_closeGap_70 : decode cX2_closeGap 70 = .ok (.getfield 31, 3) := by decide +kernel
theorem dX2_closeGap_73 : decode cX2_closeGap 73 = .ok (.iload_n 1, 1) := by decide +kernel
theorem dX2_closeGap_74 : decode cX2_closeGap 74 = .ok (.iload_n 3, 1) := by decide +kernel
theorem dX2_closeGap_75 : decode cX2_closeGap 75 = .ok (.invokestatic 82, 3) := by decide +kernel
theorem dX2_closeGap_78 : decode cX2_closeGap 78 = .ok (.return_, 1) := by decide +kernel
theorem dX3_init_0 : decode cX3_init 0 = .ok (.aload_n 0, 1) := by decide +kernel
theorem dX3_init_1 : decode cX3_init 1 = .ok (.invokespecial 3, 3) := by decide +kernel
theorem dX3_init_4 : decode cX3_init 4 = .ok (.aload_n 0, 1) := by decide +kernel
theorem dX3_init_5 : decode cX3_init 5 = .ok (.new 9, 3) := by decide +kernel
theorem dX3_init_8 : decode cX3_init 8 = .ok (.dup, 1) := by decide +kernel
theorem dX3_init_9 : decode cX3_init 9 = .ok (.invokespecial 11, 3) := by decide +kernel
theorem dX3_init_12 : decode cX3_init 12 = .ok (.putfield 12, 3) := by decide +kernel
theorem dX3_init_15 : decode cX3_init 15 = .ok (.aload_n 0, 1) := by decide +kernel
theorem dX3_init_16 : decode cX3_init 16 = .ok (.new 18, 3) := by decide +kernel
theorem dX3_init_19 : decode cX3_init 19 = .ok (.dup, 1) := by decide +kernel
theorem dX3_init_20 : decode cX3_init 20 = .ok (.invokespecial 20, 3) := by decide +kernel
theorem dX3_init_23 : decode cX3_init 23 = .ok (.putfield 21, 3) := by decide +kernel
theorem dX3_init_26 : decode cX3_init 26 = .ok (.aload_n 0, 1) := by decide +kernel
theorem dX3_init_27 : decode cX3_init 27 = .ok (.iconst 4, 1) := by decide +kernel
theorem dX3_init_28 : decode cX3_init 28 = .ok (.newarray .int, 2) := by decide +kernel
theorem dX3_init_30 : decode cX3_init 30 = .ok (.putfield 25, 3) := by decide +kernel
theorem dX3_init_33 : decode cX3_init 33 = .ok (.aload_n 0, 1) := by decide +kernel
theorem dX3_init_34 : decode cX3_init 34 = .ok (.bipush 12, 2) := by decide +kernel
theorem dX3_init_36 : decode cX3_init 36 = .ok (.newarray .int, 2) := by decide +kernel
theorem dX3_init_38 : decode cX3_init 38 = .ok (.putfield 29, 3) := by decide +kernel
theorem dX3_init_41 : decode cX3_init 41 = .ok (.return_, 1) := by decide +kernel
theorem dX3_heldBy_0 : decode cX3_heldBy 0 = .ok (.aload_n 0, 1) := by decide +kernel
theorem dX3_heldBy_1 : decode cX3_heldBy 1 = .ok (.getfield 25, 3) := by decide +kernel
theorem dX3_heldBy_4 : decode cX3_heldBy 4 = .ok (.iload_n 1, 1) := by decide +kernel
theorem dX3_heldBy_5 : decode cX3_heldBy 5 = .ok (.invokestatic 32, 3) := by decide +kernel
theorem dX3_heldBy_8 : decode cX3_heldBy 8 = .ok (.ireturn, 1) := by decide +kernel
theorem dX3_letHold_0 : decode cX3_letHold 0 = .ok (.aload_n 0, 1) := by decide +kernel
theorem dX3_letHold_1 : decode cX3_letHold 1 = .ok (.iload_n 1, 1) := by decide +kernel
theorem dX3_letHold_2 : decode cX3_letHold 2 = .ok (.invokevirtual 36, 3) := by decide +kernel
theorem dX3_letHold_5 : decode cX3_letHold 5 = .ok (.istore_n 3, 1) := by decide +kernel
theorem dX3_letHold_6 : decode cX3_letHold 6 = .ok (.aload_n 0, 1) := by decide +kernel
theorem dX3_letHold_7 : decode cX3_letHold 7 = .ok (.getfield 25, 3) := by decide +kernel
theorem dX3_letHold_10 : decode cX3_letHold 10 = .ok (.iload_n 1, 1) := by decide +kernel
theorem dX3_letHold_11 : decode cX3_letHold 11 = .ok (.iload_n 2, 1) := by decide +kernel
theorem dX3_letHold_12 : decode cX3_letHold 12 = .ok (.invokestatic 40, 3) := by decide +kernel
theorem dX3_letHold_15 : decode cX3_letHold 15 = .ok (.iload_n 3, 1) := by decide +kernel
theorem dX3_letHold_16 : decode cX3_letHold 16 = .ok (.ireturn, 1) := by decide +kernel
theorem dX3_valuesRead_0 : decode cX3_valuesRead 0 = .ok (.aload_n 0, 1) := by decide +kernel
theorem dX3_valuesRead_1 : decode cX3_valuesRead 1 = .ok (.getfield 21, 3) := by decide +kernel
theorem dX3_valuesRead_4 : decode cX3_valuesRead 4 = .ok (.iload_n 1, 1) := by decide +kernel
theorem dX3_valuesRead_5 : decode cX3_valuesRead 5 = .ok (.aload_n 0, 1) := by decide +kernel
theorem dX3_valuesRead_6 : decode cX3_valuesRead 6 = .ok (.getfield 29, 3) := by decide +kernel
theorem dX3_valuesRead_9 : decode cX3_valuesRead 9 = .ok (.invokevirtual 44, 3) := by decide +kernel
theorem dX3_valuesRead_12 : decode cX3_valuesRead 12 = .ok (.aload_n 0, 1) := by decide +kernel
theorem dX3_valuesRead_13 : decode cX3_valuesRead 13 = .ok (.getfield 12, 3) := by decide +kernel
theorem dX3_valuesRead_16 : decode cX3_valuesRead 16 = .ok (.aload_n 0, 1) := by decide +kernel
theorem dX3_valuesRead_17 : decode cX3_valuesRead 17 = .ok (.getfield 29, 3) := by decide +kernel
theorem dX3_valuesRead_20 : decode cX3_valuesRead 20 = .ok (.aload_n 0, 1) := by decide +kernel
theorem dX3_valuesRead_21 : decode cX3_valuesRead 21 = .ok (.getfield 21, 3) := by decide +kernel
theorem dX3_valuesRead_24 : decode cX3_valuesRead 24 = .ok (.iload_n 1, 1) := by decide +kernel
theorem dX3_valuesRead_25 : decode cX3_valuesRead 25 = .ok (.invokevirtual 48, 3) := by decide +kernel
theorem dX3_valuesRead_28 : decode cX3_valuesRead 28 = .ok (.iload_n 2, 1) := by decide +kernel
theorem dX3_valuesRead_29 : decode cX3_valuesRead 29 = .ok (.invokevirtual 51, 3) := by decide +kernel
theorem dX3_valuesRead_32 : decode cX3_valuesRead 32 = .ok (.aload_n 0, 1) := by decide +kernel
theorem dX3_valuesRead_33 : decode cX3_valuesRead 33 = .ok (.getfield 12, 3) := by decide +kernel
theorem dX3_valuesRead_36 : decode cX3_valuesRead 36 = .ok (.aload_n 0, 1) := by decide +kernel
theorem dX3_valuesRead_37 : decode cX3_valuesRead 37 = .ok (.getfield 29, 3) := by decide +kernel
theorem dX3_valuesRead_40 : decode cX3_valuesRead 40 = .ok (.aload_n 0, 1) := by decide +kernel
theorem dX3_valuesRead_41 : decode cX3_valuesRead 41 = .ok (.getfield 21, 3) := by decide +kernel
theorem dX3_valuesRead_44 : decode cX3_valuesRead 44 = .ok (.iload_n 1, 1) := by decide +kernel
theorem dX3_valuesRead_45 : decode cX3_valuesRead 45 = .ok (.invokevirtual 48, 3) := by decide +kernel
theorem dX3_valuesRead_48 : decode cX3_valuesRead 48 = .ok (.iload_n 2, 1) := by decide +kernel
theorem dX3_valuesRead_49 : decode cX3_valuesRead 49 = .ok (.invokevirtual 54, 3) := by decide +kernel
theorem dX3_valuesRead_52 : decode cX3_valuesRead 52 = .ok (.aload_n 0, 1) := by decide +kernel
theorem dX3_valuesRead_53 : decode cX3_valuesRead 53 = .ok (.getfield 29, 3) := by decide +kernel
theorem dX3_valuesRead_56 : decode cX3_valuesRead 56 = .ok (.areturn, 1) := by decide +kernel
theorem dX3_valueRead_0 : decode cX3_valueRead 0 = .ok (.aload_n 0, 1) := by decide +kernel
theorem dX3_valueRead_1 : decode cX3_valueRead 1 = .ok (.getfield 12, 3) := by decide +kernel
theorem dX3_valueRead_4 : decode cX3_valueRead 4 = .ok (.iload_n 2, 1) := by decide +kernel
theorem dX3_valueRead_5 : decode cX3_valueRead 5 = .ok (.iload_n 3, 1) := by decide +kernel
theorem dX3_valueRead_6 : decode cX3_valueRead 6 = .ok (.invokevirtual 57, 3) := by decide +kernel
theorem dX3_valueRead_9 : decode cX3_valueRead 9 = .ok (.istore 4, 2) := by decide +kernel
theorem dX3_valueRead_11 : decode cX3_valueRead 11 = .ok (.iload 4, 2) := by decide +kernel
theorem dX3_valueRead_13 : decode cX3_valueRead 13 = .ok (.iconst (-1), 1) := by decide +kernel
theorem dX3_valueRead_14 : decode cX3_valueRead 14 = .ok (.if_icmp .ne 7, 3) := by decide +kernel
theorem dX3_valueRead_17 : decode cX3_valueRead 17 = .ok (.iconst (-1), 1) := by decide +kernel
theorem dX3_valueRead_18 : decode cX3_valueRead 18 = .ok (.goto 14, 3) := by decide +kernel
theorem dX3_valueRead_21 : decode cX3_valueRead 21 = .ok (.aload_n 0, 1) := by decide +kernel
theorem dX3_valueRead_22 : decode cX3_valueRead 22 = .ok (.iload_n 1, 1) := by decide +kernel
theorem dX3_valueRead_23 : decode cX3_valueRead 23 = .ok (.iload_n 2, 1) := by decide +kernel
theorem dX3_valueRead_24 : decode cX3_valueRead 24 = .ok (.invokevirtual 61, 3) := by decide +kernel
theorem dX3_valueRead_27 : decode cX3_valueRead 27 = .ok (.iload 4, 2) := by decide +kernel
theorem dX3_valueRead_29 : decode cX3_valueRead 29 = .ok (.invokestatic 32, 3) := by decide +kernel
theorem dX3_valueRead_32 : decode cX3_valueRead 32 = .ok (.ireturn, 1) := by decide +kernel
theorem dX3_refusal_0 : decode cX3_refusal 0 = .ok (.aload_n 0, 1) := by decide +kernel
theorem dX3_refusal_1 : decode cX3_refusal 1 = .ok (.getfield 12, 3) := by decide +kernel
theorem dX3_refusal_4 : decode cX3_refusal 4 = .ok (.iload_n 2, 1) := by decide +kernel
theorem dX3_refusal_5 : decode cX3_refusal 5 = .ok (.iload_n 3, 1) := by decide +kernel
theorem dX3_refusal_6 : decode cX3_refusal 6 = .ok (.invokevirtual 57, 3) := by decide +kernel
theorem dX3_refusal_9 : decode cX3_refusal 9 = .ok (.istore 4, 2) := by decide +kernel
theorem dX3_refusal_11 : decode cX3_refusal 11 = .ok (.iload 4, 2) := by decide +kernel
theorem dX3_refusal_13 : decode cX3_refusal 13 = .ok (.iconst (-1), 1) := by decide +kernel
theorem dX3_refusal_14 : decode cX3_refusal 14 = .ok (.if_icmp .ne 5, 3) := by decide +kernel
theorem dX3_refusal_17 : decode cX3_refusal 17 = .ok (.iconst 1, 1) := by decide +kernel
theorem dX3_refusal_18 : decode cX3_refusal 18 = .ok (.ireturn, 1) := by decide +kernel
theorem dX3_refusal_19 : decode cX3_refusal 19 = .ok (.aload_n 0, 1) := by decide +kernel
theorem dX3_refusal_20 : decode cX3_refusal 20 = .ok (.getfield 21, 3) := by decide +kernel
theorem dX3_refusal_23 : decode cX3_refusal 23 = .ok (.iload_n 1, 1) := by decide +kernel
theorem dX3_refusal_24 : decode cX3_refusal 24 = .ok (.invokevirtual 48, 3) := by decide +kernel
theorem dX3_refusal_27 : decode cX3_refusal 27 = .ok (.istore 5, 2) := by decide +kernel
theorem dX3_refusal_29 : decode cX3_refusal 29 = .ok (.iload 5, 2) := by decide +kernel
theorem dX3_refusal_31 : decode cX3_refusal 31 = .ok (.iload_n 2, 1) := by decide +kernel
theorem dX3_refusal_32 : decode cX3_refusal 32 = .ok (.if_icmp .lt 17, 3) := by decide +kernel
theorem dX3_refusal_35 : decode cX3_refusal 35 = .ok (.aload_n 0, 1) := by decide +kernel
theorem dX3_refusal_36 : decode cX3_refusal 36 = .ok (.getfield 12, 3) := by decide +kernel
theorem dX3_refusal_39 : decode cX3_refusal 39 = .ok (.iload 5, 2) := by decide +kernel
theorem dX3_refusal_41 : decode cX3_refusal 41 = .ok (.iload 4, 2) := by decide +kernel
theorem dX3_refusal_43 : decode cX3_refusal 43 = .ok (.invokevirtual 65, 3) := by decide +kernel
theorem dX3_refusal_46 : decode cX3_refusal 46 = .ok (.ifCond .eq 7, 3) := by decide +kernel
theorem dX3_refusal_49 : decode cX3_refusal 49 = .ok (.iconst 0, 1) := by decide +kernel
theorem dX3_refusal_50 : decode cX3_refusal 50 = .ok (.goto 4, 3) := by decide +kernel
theorem dX3_refusal_53 : decode cX3_refusal 53 = .ok (.iconst 2, 1) := by decide +kernel
theorem dX3_refusal_54 : decode cX3_refusal 54 = .ok (.ireturn, 1) := by decide +kernel
theorem dX3_writeValue_0 : decode cX3_writeValue 0 = .ok (.aload_n 0, 1) := by decide +kernel
theorem dX3_writeValue_1 : decode cX3_writeValue 1 = .ok (.getfield 12, 3) := by decide +kernel
theorem dX3_writeValue_4 : decode cX3_writeValue 4 = .ok (.iload_n 2, 1) := by decide +kernel
theorem dX3_writeValue_5 : decode cX3_writeValue 5 = .ok (.iload_n 3, 1) := by decide +kernel
theorem dX3_writeValue_6 : decode cX3_writeValue 6 = .ok (.invokevirtual 57, 3) := by decide +kernel
theorem dX3_writeValue_9 : decode cX3_writeValue 9 = .ok (.istore 5, 2) := by decide +kernel
theorem dX3_writeValue_11 : decode cX3_writeValue 11 = .ok (.aload_n 0, 1) := by decide +kernel
theorem dX3_writeValue_12 : decode cX3_writeValue 12 = .ok (.getfield 12, 3) := by decide +kernel
theorem dX3_writeValue_15 : decode cX3_writeValue 15 = .ok (.aload_n 0, 1) := by decide +kernel
theorem dX3_writeValue_16 : decode cX3_writeValue 16 = .ok (.getfield 21, 3) := by decide +kernel
theorem dX3_writeValue_19 : decode cX3_writeValue 19 = .ok (.iload_n 1, 1) := by decide +kernel
theorem dX3_writeValue_20 : decode cX3_writeValue 20 = .ok (.invokevirtual 48, 3) := by decide +kernel
theorem dX3_writeValue_23 : decode cX3_writeValue 23 = .ok (.iload 5, 2) := by decide +kernel
theorem dX3_writeValue_25 : decode cX3_writeValue 25 = .ok (.invokevirtual 65, 3) := by decide +kernel
theorem dX3_writeValue_28 : decode cX3_writeValue 28 = .ok (.ifCond .ne 18, 3) := by decide +kernel
theorem dX3_writeValue_31 : decode cX3_writeValue 31 = .ok (.aload_n 0, 1) := by decide +kernel
theorem dX3_writeValue_32 : decode cX3_writeValue 32 = .ok (.getfield 21, 3) := by decide +kernel
theorem dX3_writeValue_35 : decode cX3_writeValue 35 = .ok (.iload_n 1, 1) := by decide +kernel
theorem dX3_writeValue_36 : decode cX3_writeValue 36 = .ok (.iload_n 2, 1) := by decide +kernel
theorem dX3_writeValue_37 : decode cX3_writeValue 37 = .ok (.aload_n 0, 1) := by decide +kernel
theorem dX3_writeValue_38 : decode cX3_writeValue 38 = .ok (.iload_n 1, 1) := by decide +kernel
theorem dX3_writeValue_39 : decode cX3_writeValue 39 = .ok (.iload_n 2, 1) := by decide +kernel
theorem dX3_writeValue_40 : decode cX3_writeValue 40 = .ok (.invokevirtual 61, 3) := by decide +kernel
theorem dX3_writeValue_43 : decode cX3_writeValue 43 = .ok (.invokevirtual 69, 3) := by decide +kernel
theorem dX3_writeValue_46 : decode cX3_writeValue 46 = .ok (.aload_n 0, 1) := by decide +kernel
theorem dX3_writeValue_47 : decode cX3_writeValue 47 = .ok (.getfield 21, 3) := by decide +kernel
theorem dX3_writeValue_50 : decode cX3_writeValue 50 = .ok (.iload_n 1, 1) := by decide +kernel
theorem dX3_writeValue_51 : decode cX3_writeValue 51 = .ok (.iload 5, 2) := by decide +kernel
theorem dX3_writeValue_53 : decode cX3_writeValue 53 = .ok (.iload 4, 2) := by decide +kernel
theorem dX3_writeValue_55 : decode cX3_writeValue 55 = .ok (.invokevirtual 73, 3) := by decide +kernel
theorem dX3_writeValue_58 : decode cX3_writeValue 58 = .ok (.aload_n 0, 1) := by decide +kernel
theorem dX3_writeValue_59 : decode cX3_writeValue 59 = .ok (.getfield 21, 3) := by decide +kernel
theorem dX3_writeValue_62 : decode cX3_writeValue 62 = .ok (.iload_n 1, 1) := by decide +kernel
theorem dX3_writeValue_63 : decode cX3_writeValue 63 = .ok (.invokevirtual 48, 3) := by decide +kernel
theorem dX3_writeValue_66 : decode cX3_writeValue 66 = .ok (.ireturn, 1) := by decide +kernel
theorem dX3_stepOn_0 : decode cX3_stepOn 0 = .ok (.aload_n 0, 1) := by decide +kernel
theorem dX3_stepOn_1 : decode cX3_stepOn 1 = .ok (.getfield 21, 3) := by decide +kernel
theorem dX3_stepOn_4 : decode cX3_stepOn 4 = .ok (.invokevirtual 77, 3) := by decide +kernel
theorem dX3_stepOn_7 : decode cX3_stepOn 7 = .ok (.istore_n 2, 1) := by decide +kernel
theorem dX3_stepOn_8 : decode cX3_stepOn 8 = .ok (.iconst 0, 1) := by decide +kernel
theorem dX3_stepOn_9 : decode cX3_stepOn 9 = .ok (.istore_n 3, 1) := by decide +kernel
theorem dX3_stepOn_10 : decode cX3_stepOn 10 = .ok (.iload_n 3, 1) := by decide +kernel
theorem dX3_stepOn_11 : decode cX3_stepOn 11 = .ok (.iload_n 1, 1) := by decide +kernel
theorem dX3_stepOn_12 : decode cX3_stepOn 12 = .ok (.if_icmp .ge 13, 3) := by decide +kernel
theorem dX3_stepOn_15 : decode cX3_stepOn 15 = .ok (.aload_n 0, 1) := by decide +kernel
theorem dX3_stepOn_16 : decode cX3_stepOn 16 = .ok (.invokevirtual 81, 3) := by decide +kernel
theorem dX3_stepOn_19 : decode cX3_stepOn 19 = .ok (.iinc 3 1, 3) := by decide +kernel
theorem dX3_stepOn_22 : decode cX3_stepOn 22 = .ok (.goto (-12), 3) := by decide +kernel
theorem dX3_stepOn_25 : decode cX3_stepOn 25 = .ok (.aload_n 0, 1) := by decide +kernel
theorem dX3_stepOn_26 : decode cX3_stepOn 26 = .ok (.getfield 21, 3) := by decide +kernel
theorem dX3_stepOn_29 : decode cX3_stepOn 29 = .ok (.invokevirtual 77, 3) := by decide +kernel
theorem dX3_stepOn_32 : decode cX3_stepOn 32 = .ok (.iload_n 2, 1) := by decide +kernel
theorem dX3_stepOn_33 : decode cX3_stepOn 33 = .ok (.isub, 1) := by decide +kernel
theorem dX3_stepOn_34 : decode cX3_stepOn 34 = .ok (.ireturn, 1) := by decide +kernel
theorem dX3_stepsLeft_0 : decode cX3_stepsLeft 0 = .ok (.iconst 0, 1) := by decide +kernel
theorem dX3_stepsLeft_1 : decode cX3_stepsLeft 1 = .ok (.istore_n 1, 1) := by decide +kernel
theorem dX3_stepsLeft_2 : decode cX3_stepsLeft 2 = .ok (.iconst 0, 1) := by decide +kernel
theorem dX3_stepsLeft_3 : decode cX3_stepsLeft 3 = .ok (.istore_n 2, 1) := by decide +kernel
theorem dX3_stepsLeft_4 : decode cX3_stepsLeft 4 = .ok (.iload_n 2, 1) := by decide +kernel
theorem dX3_stepsLeft_5 : decode cX3_stepsLeft 5 = .ok (.aload_n 0, 1) := by decide +kernel
theorem dX3_stepsLeft_6 : decode cX3_stepsLeft 6 = .ok (.getfield 21, 3) := by decide +kernel
theorem dX3_stepsLeft_9 : decode cX3_stepsLeft 9 = .ok (.invokevirtual 84, 3) := by decide +kernel
theorem dX3_stepsLeft_12 : decode cX3_stepsLeft 12 = .ok (.if_icmp .ge 54, 3) := by decide +kernel
theorem dX3_stepsLeft_15 : decode cX3_stepsLeft 15 = .ok (.aload_n 0, 1) := by decide +kernel
theorem dX3_stepsLeft_16 : decode cX3_stepsLeft 16 = .ok (.getfield 21, 3) := by decide +kernel
theorem dX3_stepsLeft_19 : decode cX3_stepsLeft 19 = .ok (.invokevirtual 87, 3) := by decide +kernel
theorem dX3_stepsLeft_22 : decode cX3_stepsLeft 22 = .ok (.iload_n 2, 1) := by decide +kernel
theorem dX3_stepsLeft_23 : decode cX3_stepsLeft 23 = .ok (.iadd, 1) := by decide +kernel
theorem dX3_stepsLeft_24 : decode cX3_stepsLeft 24 = .ok (.istore_n 3, 1) := by decide +kernel
theorem dX3_stepsLeft_25 : decode cX3_stepsLeft 25 = .ok (.aload_n 0, 1) := by decide +kernel
theorem dX3_stepsLeft_26 : decode cX3_stepsLeft 26 = .ok (.iload_n 3, 1) := by decide +kernel
theorem dX3_stepsLeft_27 : decode cX3_stepsLeft 27 = .ok (.aload_n 0, 1) := by decide +kernel
theorem dX3_stepsLeft_28 : decode cX3_stepsLeft 28 = .ok (.getfield 21, 3) := by decide +kernel
theorem dX3_stepsLeft_31 : decode cX3_stepsLeft 31 = .ok (.invokevirtual 84, 3) := by decide +kernel
theorem dX3_stepsLeft_34 : decode cX3_stepsLeft 34 = .ok (.if_icmp .ge 7, 3) := by decide +kernel
theorem dX3_stepsLeft_37 : decode cX3_stepsLeft 37 = .ok (.iload_n 3, 1) := by decide +kernel
theorem dX3_stepsLeft_38 : decode cX3_stepsLeft 38 = .ok (.goto 12, 3) := by decide +kernel
theorem dX3_stepsLeft_41 : decode cX3_stepsLeft 41 = .ok (.iload_n 3, 1) := by decide +kernel
theorem dX3_stepsLeft_42 : decode cX3_stepsLeft 42 = .ok (.aload_n 0, 1) := by decide +kernel
theorem dX3_stepsLeft_43 : decode cX3_stepsLeft 43 = .ok (.getfield 21, 3) := by decide +kernel
theorem dX3_stepsLeft_46 : decode cX3_stepsLeft 46 = .ok (.invokevirtual 84, 3) := by decide +kernel
theorem dX3_stepsLeft_49 : decode cX3_stepsLeft 49 = .ok (.isub, 1) := by decide +kernel
theorem dX3_stepsLeft_50 : decode cX3_stepsLeft 50 = .ok (.invokevirtual 90, 3) := by decide +kernel
theorem dX3_stepsLeft_53 : decode cX3_stepsLeft 53 = .ok (.ifCond .eq 7, 3) := by decide +kernel
theorem dX3_stepsLeft_56 : decode cX3_stepsLeft 56 = .ok (.iload_n 2, 1) := by decide +kernel
theorem dX3_stepsLeft_57 : decode cX3_stepsLeft 57 = .ok (.iconst 1, 1) := by decide +kernel
theorem dX3_stepsLeft_58 : decode cX3_stepsLeft 58 = .ok (.iadd, 1) := by decide +kernel
theorem dX3_stepsLeft_59 : decode cX3_stepsLeft 59 = .ok (.istore_n 1, 1) := by decide +kernel
theorem dX3_stepsLeft_60 : decode cX3_stepsLeft 60 = .ok (.iinc 2 1, 3) := by decide +kernel
theorem dX3_stepsLeft_63 : decode cX3_stepsLeft 63 = .ok (.goto (-59), 3) := by decide +kernel
theorem dX3_stepsLeft_66 : decode cX3_stepsLeft 66 = .ok (.iload_n 1, 1) := by decide +kernel
theorem dX3_stepsLeft_67 : decode cX3_stepsLeft 67 = .ok (.ireturn, 1) := by decide +kernel
theorem dX3_rowsBehind_0 : decode cX3_rowsBehind 0 = .ok (.aload_n 0, 1) := by decide +kernel
theorem dX3_rowsBehind_1 : decode cX3_rowsBehind 1 = .ok (.getfield 21, 3) := by decide +kernel
theorem dX3_rowsBehind_4 : decode cX3_rowsBehind 4 = .ok (.invokevirtual 84, 3) := by decide +kernel
theorem dX3_rowsBehind_7 : decode cX3_rowsBehind 7 = .ok (.aload_n 0, 1) := by decide +kernel
theorem dX3_rowsBehind_8 : decode cX3_rowsBehind 8 = .ok (.aload_n 0, 1) := by decide +kernel
theorem dX3_rowsBehind_9 : decode cX3_rowsBehind 9 = .ok (.getfield 12, 3) := by decide +kernel
theorem dX3_rowsBehind_12 : decode cX3_rowsBehind 12 = .ok (.invokevirtual 94, 3) := by decide +kernel
theorem dX3_rowsBehind_15 : decode cX3_rowsBehind 15 = .ok (.invokevirtual 97, 3) := by decide +kernel
theorem dX3_rowsBehind_18 : decode cX3_rowsBehind 18 = .ok (.isub, 1) := by decide +kernel
theorem dX3_rowsBehind_19 : decode cX3_rowsBehind 19 = .ok (.ireturn, 1) := by decide +kernel
theorem dX3_oldestNeeded_0 : decode cX3_oldestNeeded 0 = .ok (.aload_n 0, 1) := by decide +kernel
theorem dX3_oldestNeeded_1 : decode cX3_oldestNeeded 1 = .ok (.getfield 12, 3) := by decide +kernel
theorem dX3_oldestNeeded_4 : decode cX3_oldestNeeded 4 = .ok (.invokevirtual 94, 3) := by decide +kernel
theorem dX3_oldestNeeded_7 : decode cX3_oldestNeeded 7 = .ok (.istore_n 1, 1) := by decide +kernel
theorem dX3_oldestNeeded_8 : decode cX3_oldestNeeded 8 = .ok (.iconst 0, 1) := by decide +kernel
theorem dX3_oldestNeeded_9 : decode cX3_oldestNeeded 9 = .ok (.istore_n 2, 1) := by decide +kernel
theorem dX3_oldestNeeded_10 : decode cX3_oldestNeeded 10 = .ok (.iload_n 2, 1) := by decide +kernel
theorem dX3_oldestNeeded_11 : decode cX3_oldestNeeded 11 = .ok (.aload_n 0, 1) := by decide +kernel
theorem dX3_oldestNeeded_12 : decode cX3_oldestNeeded 12 = .ok (.getfield 21, 3) := by decide +kernel
theorem dX3_oldestNeeded_15 : decode cX3_oldestNeeded 15 = .ok (.invokevirtual 84, 3) := by decide +kernel
theorem dX3_oldestNeeded_18 : decode cX3_oldestNeeded 18 = .ok (.if_icmp .ge 22, 3) := by decide +kernel
theorem dX3_oldestNeeded_21 : decode cX3_oldestNeeded 21 = .ok (.iload_n 1, 1) := by decide +kernel
theorem dX3_oldestNeeded_22 : decode cX3_oldestNeeded 22 = .ok (.aload_n 0, 1) := by decide +kernel
theorem dX3_oldestNeeded_23 : decode cX3_oldestNeeded 23 = .ok (.getfield 21, 3) := by decide +kernel
theorem dX3_oldestNeeded_26 : decode cX3_oldestNeeded 26 = .ok (.iload_n 2, 1) := by decide +kernel
theorem dX3_oldestNeeded_27 : decode cX3_oldestNeeded 27 = .ok (.invokevirtual 48, 3) := by decide +kernel
theorem dX3_oldestNeeded_30 : decode cX3_oldestNeeded 30 = .ok (.invokestatic 100, 3) := by decide +kernel
theorem dX3_oldestNeeded_33 : decode cX3_oldestNeeded 33 = .ok (.istore_n 1, 1) := by decide +kernel
theorem dX3_oldestNeeded_34 : decode cX3_oldestNeeded 34 = .ok (.iinc 2 1, 3) := by decide +kernel
theorem dX3_oldestNeeded_37 : decode cX3_oldestNeeded 37 = .ok (.goto (-27), 3) := by decide +kernel
theorem dX3_oldestNeeded_40 : decode cX3_oldestNeeded 40 = .ok (.iconst 0, 1) := by decide +kernel
theorem dX3_oldestNeeded_41 : decode cX3_oldestNeeded 41 = .ok (.istore_n 2, 1) := by decide +kernel
theorem dX3_oldestNeeded_42 : decode cX3_oldestNeeded 42 = .ok (.iload_n 2, 1) := by decide +kernel
theorem dX3_oldestNeeded_43 : decode cX3_oldestNeeded 43 = .ok (.iconst 4, 1) := by decide +kernel
theorem dX3_oldestNeeded_44 : decode cX3_oldestNeeded 44 = .ok (.if_icmp .ge 19, 3) := by decide +kernel
theorem dX3_oldestNeeded_47 : decode cX3_oldestNeeded 47 = .ok (.iload_n 1, 1) := by decide +kernel
theorem dX3_oldestNeeded_48 : decode cX3_oldestNeeded 48 = .ok (.aload_n 0, 1) := by decide +kernel
theorem dX3_oldestNeeded_49 : decode cX3_oldestNeeded 49 = .ok (.iload_n 2, 1) := by decide +kernel
theorem dX3_oldestNeeded_50 : decode cX3_oldestNeeded 50 = .ok (.invokevirtual 36, 3) := by decide +kernel
theorem dX3_oldestNeeded_53 : decode cX3_oldestNeeded 53 = .ok (.invokestatic 100, 3) := by decide +kernel
theorem dX3_oldestNeeded_56 : decode cX3_oldestNeeded 56 = .ok (.istore_n 1, 1) := by decide +kernel
theorem dX3_oldestNeeded_57 : decode cX3_oldestNeeded 57 = .ok (.iinc 2 1, 3) := by decide +kernel
theorem dX3_oldestNeeded_60 : decode cX3_oldestNeeded 60 = .ok (.goto (-18), 3) := by decide +kernel
theorem dX3_oldestNeeded_63 : decode cX3_oldestNeeded 63 = .ok (.iload_n 1, 1) := by decide +kernel
theorem dX3_oldestNeeded_64 : decode cX3_oldestNeeded 64 = .ok (.ireturn, 1) := by decide +kernel
theorem dX3_valuesLost_0 : decode cX3_valuesLost 0 = .ok (.aload_n 0, 1) := by decide +kernel
theorem dX3_valuesLost_1 : decode cX3_valuesLost 1 = .ok (.getfield 21, 3) := by decide +kernel
theorem dX3_valuesLost_4 : decode cX3_valuesLost 4 = .ok (.iload_n 1, 1) := by decide +kernel
theorem dX3_valuesLost_5 : decode cX3_valuesLost 5 = .ok (.invokevirtual 48, 3) := by decide +kernel
theorem dX3_valuesLost_8 : decode cX3_valuesLost 8 = .ok (.istore_n 3, 1) := by decide +kernel
theorem dX3_valuesLost_9 : decode cX3_valuesLost 9 = .ok (.aload_n 0, 1) := by decide +kernel
theorem dX3_valuesLost_10 : decode cX3_valuesLost 10 = .ok (.iload_n 1, 1) := by decide +kernel
theorem dX3_valuesLost_11 : decode cX3_valuesLost 11 = .ok (.iload_n 2, 1) := by decide +kernel
theorem dX3_valuesLost_12 : decode cX3_valuesLost 12 = .ok (.invokevirtual 61, 3) := by decide +kernel
theorem dX3_valuesLost_15 : decode cX3_valuesLost 15 = .ok (.astore 4, 2) := by decide +kernel
theorem dX3_valuesLost_17 : decode cX3_valuesLost 17 = .ok (.aload_n 0, 1) := by decide +kernel
theorem dX3_valuesLost_18 : decode cX3_valuesLost 18 = .ok (.getfield 12, 3) := by decide +kernel
theorem dX3_valuesLost_21 : decode cX3_valuesLost 21 = .ok (.aload 4, 2) := by decide +kernel
theorem dX3_valuesLost_23 : decode cX3_valuesLost 23 = .ok (.iload_n 2, 1) := by decide +kernel
theorem dX3_valuesLost_24 : decode cX3_valuesLost 24 = .ok (.iload_n 3, 1) := by decide +kernel
theorem dX3_valuesLost_25 : decode cX3_valuesLost 25 = .ok (.invokevirtual 51, 3) := by decide +kernel
theorem dX3_valuesLost_28 : decode cX3_valuesLost 28 = .ok (.aload_n 0, 1) := by decide +kernel
theorem dX3_valuesLost_29 : decode cX3_valuesLost 29 = .ok (.getfield 12, 3) := by decide +kernel
theorem dX3_valuesLost_32 : decode cX3_valuesLost 32 = .ok (.aload 4, 2) := by decide +kernel
theorem dX3_valuesLost_34 : decode cX3_valuesLost 34 = .ok (.iload_n 2, 1) := by decide +kernel
theorem dX3_valuesLost_35 : decode cX3_valuesLost 35 = .ok (.iload_n 3, 1) := by decide +kernel
theorem dX3_valuesLost_36 : decode cX3_valuesLost 36 = .ok (.invokevirtual 54, 3) := by decide +kernel
theorem dX3_valuesLost_39 : decode cX3_valuesLost 39 = .ok (.iconst 0, 1) := by decide +kernel
theorem dX3_valuesLost_40 : decode cX3_valuesLost 40 = .ok (.istore 5, 2) := by decide +kernel
theorem dX3_valuesLost_42 : decode cX3_valuesLost 42 = .ok (.iconst 0, 1) := by decide +kernel
theorem dX3_valuesLost_43 : decode cX3_valuesLost 43 = .ok (.istore 6, 2) := by decide +kernel
theorem dX3_valuesLost_45 : decode cX3_valuesLost 45 = .ok (.iload 6, 2) := by decide +kernel
theorem dX3_valuesLost_47 : decode cX3_valuesLost 47 = .ok (.aload_n 0, 1) := by decide +kernel
theorem dX3_valuesLost_48 : decode cX3_valuesLost 48 = .ok (.getfield 12, 3) := by decide +kernel
theorem dX3_valuesLost_51 : decode cX3_valuesLost 51 = .ok (.iload_n 3, 1) := by decide +kernel
theorem dX3_valuesLost_52 : decode cX3_valuesLost 52 = .ok (.invokevirtual 105, 3) := by decide +kernel
theorem dX3_valuesLost_55 : decode cX3_valuesLost 55 = .ok (.if_icmp .ge 44, 3) := by decide +kernel
theorem dX3_valuesLost_58 : decode cX3_valuesLost 58 = .ok (.aload_n 0, 1) := by decide +kernel
theorem dX3_valuesLost_59 : decode cX3_valuesLost 59 = .ok (.getfield 12, 3) := by decide +kernel
theorem dX3_valuesLost_62 : decode cX3_valuesLost 62 = .ok (.iload_n 3, 1) := by decide +kernel
theorem dX3_valuesLost_63 : decode cX3_valuesLost 63 = .ok (.iload 6, 2) := by decide +kernel
theorem dX3_valuesLost_65 : decode cX3_valuesLost 65 = .ok (.invokevirtual 108, 3) := by decide +kernel
theorem dX3_valuesLost_68 : decode cX3_valuesLost 68 = .ok (.istore 7, 2) := by decide +kernel
theorem dX3_valuesLost_70 : decode cX3_valuesLost 70 = .ok (.aload 4, 2) := by decide +kernel
theorem dX3_valuesLost_72 : decode cX3_valuesLost 72 = .ok (.iload 7, 2) := by decide +kernel
theorem dX3_valuesLost_74 : decode cX3_valuesLost 74 = .ok (.invokestatic 32, 3) := by decide +kernel
theorem dX3_valuesLost_77 : decode cX3_valuesLost 77 = .ok (.aload_n 0, 1) := by decide +kernel
theorem dX3_valuesLost_78 : decode cX3_valuesLost 78 = .ok (.getfield 21, 3) := by decide +kernel
theorem dX3_valuesLost_81 : decode cX3_valuesLost 81 = .ok (.iload_n 1, 1) := by decide +kernel
theorem dX3_valuesLost_82 : decode cX3_valuesLost 82 = .ok (.iload 7, 2) := by decide +kernel
theorem dX3_valuesLost_84 : decode cX3_valuesLost 84 = .ok (.invokevirtual 111, 3) := by decide +kernel
theorem dX3_valuesLost_87 : decode cX3_valuesLost 87 = .ok (.if_icmp .eq 6, 3) := by decide +kernel
theorem dX3_valuesLost_90 : decode cX3_valuesLost 90 = .ok (.iinc 5 1, 3) := by decide +kernel
theorem dX3_valuesLost_93 : decode cX3_valuesLost 93 = .ok (.iinc 6 1, 3) := by decide +kernel
theorem dX3_valuesLost_96 : decode cX3_valuesLost 96 = .ok (.goto (-51), 3) := by decide +kernel
theorem dX3_valuesLost_99 : decode cX3_valuesLost 99 = .ok (.iload 5, 2) := by decide +kernel
theorem dX3_valuesLost_101 : decode cX3_valuesLost 101 = .ok (.ireturn, 1) := by decide +kernel
theorem dX3_rowsWith_0 : decode cX3_rowsWith 0 = .ok (.iconst 0, 1) := by decide +kernel
theorem dX3_rowsWith_1 : decode cX3_rowsWith 1 = .ok (.istore 4, 2) := by decide +kernel
theorem dX3_rowsWith_3 : decode cX3_rowsWith 3 = .ok (.iconst 0, 1) := by decide +kernel
theorem dX3_rowsWith_4 : decode cX3_rowsWith 4 = .ok (.istore 5, 2) := by decide +kernel
theorem dX3_rowsWith_6 : decode cX3_rowsWith 6 = .ok (.iload 5, 2) := by decide +kernel
theorem dX3_rowsWith_8 : decode cX3_rowsWith 8 = .ok (.aload_n 0, 1) := by decide +kernel
theorem dX3_rowsWith_9 : decode cX3_rowsWith 9 = .ok (.getfield 21, 3) := by decide +kernel
theorem dX3_rowsWith_12 : decode cX3_rowsWith 12 = .ok (.invokevirtual 84, 3) := by decide +kernel
theorem dX3_rowsWith_15 : decode cX3_rowsWith 15 = .ok (.if_icmp .ge 30, 3) := by decide +kernel
theorem dX3_rowsWith_18 : decode cX3_rowsWith 18 = .ok (.aload_n 0, 1) := by decide +kernel
theorem dX3_rowsWith_19 : decode cX3_rowsWith 19 = .ok (.iload 5, 2) := by decide +kernel
theorem dX3_rowsWith_21 : decode cX3_rowsWith 21 = .ok (.iload_n 1, 1) := by decide +kernel
theorem dX3_rowsWith_22 : decode cX3_rowsWith 22 = .ok (.iload_n 2, 1) := by decide +kernel
theorem dX3_rowsWith_23 : decode cX3_rowsWith 23 = .ok (.invokevirtual 114, 3) := by decide +kernel
theorem dX3_rowsWith_26 : decode cX3_rowsWith 26 = .ok (.iload_n 3, 1) := by decide +kernel
theorem dX3_rowsWith_27 : decode cX3_rowsWith 27 = .ok (.if_icmp .ne 12, 3) := by decide +kernel
theorem dX3_rowsWith_30 : decode cX3_rowsWith 30 = .ok (.iload 4, 2) := by decide +kernel
theorem dX3_rowsWith_32 : decode cX3_rowsWith 32 = .ok (.iconst 1, 1) := by decide +kernel
theorem dX3_rowsWith_33 : decode cX3_rowsWith 33 = .ok (.iload 5, 2) := by decide +kernel
theorem dX3_rowsWith_35 : decode cX3_rowsWith 35 = .ok (.ishl, 1) := by decide +kernel
theorem dX3_rowsWith_36 : decode cX3_rowsWith 36 = .ok (.ior, 1) := by decide +kernel
theorem dX3_rowsWith_37 : decode cX3_rowsWith 37 = .ok (.istore 4, 2) := by decide +kernel
theorem dX3_rowsWith_39 : decode cX3_rowsWith 39 = .ok (.iinc 5 1, 3) := by decide +kernel
theorem dX3_rowsWith_42 : decode cX3_rowsWith 42 = .ok (.goto (-36), 3) := by decide +kernel
theorem dX3_rowsWith_45 : decode cX3_rowsWith 45 = .ok (.iload 4, 2) := by decide +kernel
theorem dX3_rowsWith_47 : decode cX3_rowsWith 47 = .ok (.ireturn, 1) := by decide +kernel
theorem dX3_shapeProperty_0 : decode cX3_shapeProperty 0 = .ok (.iload_n 2, 1) := by decide +kernel
theorem dX3_shapeProperty_1 : decode cX3_shapeProperty 1 = .ok (.tableswitch 82 0 4 #[35, 44, 53, 59, 65], 35) := by decide +kernel
theorem dX3_shapeProperty_36 : decode cX3_shapeProperty 36 = .ok (.aload_n 0, 1) := by decide +kernel
theorem dX3_shapeProperty_37 : decode cX3_shapeProperty 37 = .ok (.getfield 12, 3) := by decide +kernel
theorem dX3_shapeProperty_40 : decode cX3_shapeProperty 40 = .ok (.iload_n 1, 1) := by decide +kernel
theorem dX3_shapeProperty_41 : decode cX3_shapeProperty 41 = .ok (.invokevirtual 105, 3) := by decide +kernel
theorem dX3_shapeProperty_44 : decode cX3_shapeProperty 44 = .ok (.ireturn, 1) := by decide +kernel
theorem dX3_shapeProperty_45 : decode cX3_shapeProperty 45 = .ok (.aload_n 0, 1) := by decide +kernel
theorem dX3_shapeProperty_46 : decode cX3_shapeProperty 46 = .ok (.getfield 12, 3) := by decide +kernel
theorem dX3_shapeProperty_49 : decode cX3_shapeProperty 49 = .ok (.iload_n 1, 1) := by decide +kernel
theorem dX3_shapeProperty_50 : decode cX3_shapeProperty 50 = .ok (.invokevirtual 118, 3) := by decide +kernel
theorem dX3_shapeProperty_53 : decode cX3_shapeProperty 53 = .ok (.ireturn, 1) := by decide +kernel
theorem dX3_shapeProperty_54 : decode cX3_shapeProperty 54 = .ok (.aload_n 0, 1) := by decide +kernel
theorem dX3_shapeProperty_55 : decode cX3_shapeProperty 55 = .ok (.iload_n 1, 1) := by decide +kernel
theorem dX3_shapeProperty_56 : decode cX3_shapeProperty 56 = .ok (.invokevirtual 97, 3) := by decide +kernel
theorem dX3_shapeProperty_59 : decode cX3_shapeProperty 59 = .ok (.ireturn, 1) := by decide +kernel
theorem dX3_shapeProperty_60 : decode cX3_shapeProperty 60 = .ok (.aload_n 0, 1) := by decide +kernel
theorem dX3_shapeProperty_61 : decode cX3_shapeProperty 61 = .ok (.iload_n 1, 1) := by decide +kernel
theorem dX3_shapeProperty_62 : decode cX3_shapeProperty 62 = .ok (.invokevirtual 121, 3) := by decide +kernel
theorem dX3_shapeProperty_65 : decode cX3_shapeProperty 65 = .ok (.ireturn, 1) := by decide +kernel
theorem dX3_shapeProperty_66 : decode cX3_shapeProperty 66 = .ok (.aload_n 0, 1) := by decide +kernel
theorem dX3_shapeProperty_67 : decode cX3_shapeProperty 67 = .ok (.getfield 12, 3) := by decide +kernel
theorem dX3_shapeProperty_70 : decode cX3_shapeProperty 70 = .ok (.iload_n 1, 1) := by decide +kernel
theorem dX3_shapeProperty_71 : decode cX3_shapeProperty 71 = .ok (.invokevirtual 124, 3) := by decide +kernel
theorem dX3_shapeProperty_74 : decode cX3_shapeProperty 74 = .ok (.ifCond .eq 7, 3) := by decide +kernel
theorem dX3_shapeProperty_77 : decode cX3_shapeProperty 77 = .ok (.iconst 1, 1) := by decide +kernel
theorem dX3_shapeProperty_78 : decode cX3_shapeProperty 78 = .ok (.goto 4, 3) := by decide +kernel
theorem dX3_shapeProperty_81 : decode cX3_shapeProperty 81 = .ok (.iconst 0, 1) := by decide +kernel
theorem dX3_shapeProperty_82 : decode cX3_shapeProperty 82 = .ok (.ireturn, 1) := by decide +kernel
theorem dX3_shapeProperty_83 : decode cX3_shapeProperty 83 = .ok (.aload_n 0, 1) := by decide +kernel
theorem dX3_shapeProperty_84 : decode cX3_shapeProperty 84 = .ok (.getfield 12, 3) := by decide +kernel
theorem dX3_shapeProperty_87 : decode cX3_shapeProperty 87 = .ok (.iload_n 1, 1) := by decide +kernel
theorem dX3_shapeProperty_88 : decode cX3_shapeProperty 88 = .ok (.invokevirtual 127, 3) := by decide +kernel
theorem dX3_shapeProperty_91 : decode cX3_shapeProperty 91 = .ok (.ireturn, 1) := by decide +kernel
theorem dX3_rowProperty_0 : decode cX3_rowProperty 0 = .ok (.aload_n 0, 1) := by decide +kernel
theorem dX3_rowProperty_1 : decode cX3_rowProperty 1 = .ok (.getfield 21, 3) := by decide +kernel
theorem dX3_rowProperty_4 : decode cX3_rowProperty 4 = .ok (.iload_n 1, 1) := by decide +kernel
theorem dX3_rowProperty_5 : decode cX3_rowProperty 5 = .ok (.invokevirtual 48, 3) := by decide +kernel
theorem dX3_rowProperty_8 : decode cX3_rowProperty 8 = .ok (.istore_n 3, 1) := by decide +kernel
theorem dX3_rowProperty_9 : decode cX3_rowProperty 9 = .ok (.iload_n 2, 1) := by decide +kernel
theorem dX3_rowProperty_10 : decode cX3_rowProperty 10 = .ok (.tableswitch 71 0 4 #[34, 36, 45, 55, 64], 34) := by decide +kernel
theorem dX3_rowProperty_44 : decode cX3_rowProperty 44 = .ok (.iload_n 3, 1) := by decide +kernel
theorem dX3_rowProperty_45 : decode cX3_rowProperty 45 = .ok (.ireturn, 1) := by decide +kernel
theorem dX3_rowProperty_46 : decode cX3_rowProperty 46 = .ok (.aload_n 0, 1) := by decide +kernel
theorem dX3_rowProperty_47 : decode cX3_rowProperty 47 = .ok (.getfield 12, 3) := by decide +kernel
theorem dX3_rowProperty_50 : decode cX3_rowProperty 50 = .ok (.iload_n 3, 1) := by decide +kernel
theorem dX3_rowProperty_51 : decode cX3_rowProperty 51 = .ok (.invokevirtual 105, 3) := by decide +kernel
theorem dX3_rowProperty_54 : decode cX3_rowProperty 54 = .ok (.ireturn, 1) := by decide +kernel
theorem dX3_rowProperty_55 : decode cX3_rowProperty 55 = .ok (.aload_n 0, 1) := by decide +kernel
theorem dX3_rowProperty_56 : decode cX3_rowProperty 56 = .ok (.getfield 12, 3) := by decide +kernel
theorem dX3_rowProperty_59 : decode cX3_rowProperty 59 = .ok (.invokevirtual 94, 3) := by decide +kernel
theorem dX3_rowProperty_62 : decode cX3_rowProperty 62 = .ok (.iload_n 3, 1) := by decide +kernel
theorem dX3_rowProperty_63 : decode cX3_rowProperty 63 = .ok (.isub, 1) := by decide +kernel
theorem dX3_rowProperty_64 : decode cX3_rowProperty 64 = .ok (.ireturn, 1) := by decide +kernel
theorem dX3_rowProperty_65 : decode cX3_rowProperty 65 = .ok (.aload_n 0, 1) := by decide +kernel
theorem dX3_rowProperty_66 : decode cX3_rowProperty 66 = .ok (.getfield 21, 3) := by decide +kernel
theorem dX3_rowProperty_69 : decode cX3_rowProperty 69 = .ok (.iload_n 1, 1) := by decide +kernel
theorem dX3_rowProperty_70 : decode cX3_rowProperty 70 = .ok (.invokevirtual 130, 3) := by decide +kernel
theorem dX3_rowProperty_73 : decode cX3_rowProperty 73 = .ok (.ireturn, 1) := by decide +kernel
theorem dX3_rowProperty_74 : decode cX3_rowProperty 74 = .ok (.aload_n 0, 1) := by decide +kernel
theorem dX3_rowProperty_75 : decode cX3_rowProperty 75 = .ok (.iload_n 1, 1) := by decide +kernel
theorem dX3_rowProperty_76 : decode cX3_rowProperty 76 = .ok (.iload_n 3, 1) := by decide +kernel
theorem dX3_rowProperty_77 : decode cX3_rowProperty 77 = .ok (.invokevirtual 133, 3) := by decide +kernel
theorem dX3_rowProperty_80 : decode cX3_rowProperty 80 = .ok (.ireturn, 1) := by decide +kernel
theorem dX3_rowProperty_81 : decode cX3_rowProperty 81 = .ok (.aload_n 0, 1) := by decide +kernel
theorem dX3_rowProperty_82 : decode cX3_rowProperty 82 = .ok (.iload_n 1, 1) := by decide +kernel
theorem dX3_rowProperty_83 : decode cX3_rowProperty 83 = .ok (.aload_n 0, 1) := by decide +kernel
theorem dX3_rowProperty_84 : decode cX3_rowProperty 84 = .ok (.getfield 12, 3) := by decide +kernel
theorem dX3_rowProperty_87 : decode cX3_rowProperty 87 = .ok (.invokevirtual 94, 3) := by decide +kernel
theorem dX3_rowProperty_90 : decode cX3_rowProperty 90 = .ok (.invokevirtual 133, 3) := by decide +kernel
theorem dX3_rowProperty_93 : decode cX3_rowProperty 93 = .ok (.ireturn, 1) := by decide +kernel
theorem dX3_takeFrom_0 : decode cX3_takeFrom 0 = .ok (.aload_n 0, 1) := by decide +kernel
theorem dX3_takeFrom_1 : decode cX3_takeFrom 1 = .ok (.getfield 12, 3) := by decide +kernel
theorem dX3_takeFrom_4 : decode cX3_takeFrom 4 = .ok (.aload_n 1, 1) := by decide +kernel
theorem dX3_takeFrom_5 : decode cX3_takeFrom 5 = .ok (.getfield 12, 3) := by decide +kernel
theorem dX3_takeFrom_8 : decode cX3_takeFrom 8 = .ok (.invokevirtual 136, 3) := by decide +kernel
theorem dX3_takeFrom_11 : decode cX3_takeFrom 11 = .ok (.aload_n 0, 1) := by decide +kernel
theorem dX3_takeFrom_12 : decode cX3_takeFrom 12 = .ok (.getfield 21, 3) := by decide +kernel
theorem dX3_takeFrom_15 : decode cX3_takeFrom 15 = .ok (.aload_n 1, 1) := by decide +kernel
theorem dX3_takeFrom_16 : decode cX3_takeFrom 16 = .ok (.getfield 21, 3) := by decide +kernel
theorem dX3_takeFrom_19 : decode cX3_takeFrom 19 = .ok (.invokevirtual 140, 3) := by decide +kernel
theorem dX3_takeFrom_22 : decode cX3_takeFrom 22 = .ok (.aload_n 1, 1) := by decide +kernel
theorem dX3_takeFrom_23 : decode cX3_takeFrom 23 = .ok (.getfield 25, 3) := by decide +kernel
theorem dX3_takeFrom_26 : decode cX3_takeFrom 26 = .ok (.aload_n 0, 1) := by decide +kernel
theorem dX3_takeFrom_27 : decode cX3_takeFrom 27 = .ok (.getfield 25, 3) := by decide +kernel
theorem dX3_takeFrom_30 : decode cX3_takeFrom 30 = .ok (.invokestatic 143, 3) := by decide +kernel
theorem dX3_takeFrom_33 : decode cX3_takeFrom 33 = .ok (.return_, 1) := by decide +kernel
theorem dX3_stepOnce_0 : decode cX3_stepOnce 0 = .ok (.aload_n 0, 1) := by decide +kernel
theorem dX3_stepOnce_1 : decode cX3_stepOnce 1 = .ok (.getfield 21, 3) := by decide +kernel
theorem dX3_stepOnce_4 : decode cX3_stepOnce 4 = .ok (.invokevirtual 84, 3) := by decide +kernel
theorem dX3_stepOnce_7 : decode cX3_stepOnce 7 = .ok (.ifCond .ne 4, 3) := by decide +kernel
theorem dX3_stepOnce_10 : decode cX3_stepOnce 10 = .ok (.return_, 1) := by decide +kernel
theorem dX3_stepOnce_11 : decode cX3_stepOnce 11 = .ok (.aload_n 0, 1) := by decide +kernel
theorem dX3_stepOnce_12 : decode cX3_stepOnce 12 = .ok (.getfield 21, 3) := by decide +kernel
theorem dX3_stepOnce_15 : decode cX3_stepOnce 15 = .ok (.invokevirtual 87, 3) := by decide +kernel
theorem dX3_stepOnce_18 : decode cX3_stepOnce 18 = .ok (.istore_n 1, 1) := by decide +kernel
theorem dX3_stepOnce_19 : decode cX3_stepOnce 19 = .ok (.aload_n 0, 1) := by decide +kernel
theorem dX3_stepOnce_20 : decode cX3_stepOnce 20 = .ok (.iload_n 1, 1) := by decide +kernel
theorem dX3_stepOnce_21 : decode cX3_stepOnce 21 = .ok (.invokevirtual 90, 3) := by decide +kernel
theorem dX3_stepOnce_24 : decode cX3_stepOnce 24 = .ok (.ifCond .eq 30, 3) := by decide +kernel
theorem dX3_stepOnce_27 : decode cX3_stepOnce 27 = .ok (.aload_n 0, 1) := by decide +kernel
theorem dX3_stepOnce_28 : decode cX3_stepOnce 28 = .ok (.getfield 21, 3) := by decide +kernel
theorem dX3_stepOnce_31 : decode cX3_stepOnce 31 = .ok (.iload_n 1, 1) := by decide +kernel
theorem dX3_stepOnce_32 : decode cX3_stepOnce 32 = .ok (.aload_n 0, 1) := by decide +kernel
theorem dX3_stepOnce_33 : decode cX3_stepOnce 33 = .ok (.getfield 12, 3) := by decide +kernel
theorem dX3_stepOnce_36 : decode cX3_stepOnce 36 = .ok (.invokevirtual 94, 3) := by decide +kernel
theorem dX3_stepOnce_39 : decode cX3_stepOnce 39 = .ok (.aload_n 0, 1) := by decide +kernel
theorem dX3_stepOnce_40 : decode cX3_stepOnce 40 = .ok (.iload_n 1, 1) := by decide +kernel
theorem dX3_stepOnce_41 : decode cX3_stepOnce 41 = .ok (.aload_n 0, 1) := by decide +kernel
theorem dX3_stepOnce_42 : decode cX3_stepOnce 42 = .ok (.getfield 12, 3) := by decide +kernel
theorem dX3_stepOnce_45 : decode cX3_stepOnce 45 = .ok (.invokevirtual 94, 3) := by decide +kernel
theorem dX3_stepOnce_48 : decode cX3_stepOnce 48 = .ok (.invokevirtual 61, 3) := by decide +kernel
theorem dX3_stepOnce_51 : decode cX3_stepOnce 51 = .ok (.invokevirtual 69, 3) := by decide +kernel
theorem dX3_stepOnce_54 : decode cX3_stepOnce 54 = .ok (.aload_n 0, 1) := by decide +kernel
theorem dX3_stepOnce_55 : decode cX3_stepOnce 55 = .ok (.getfield 21, 3) := by decide +kernel
theorem dX3_stepOnce_58 : decode cX3_stepOnce 58 = .ok (.iload_n 1, 1) := by decide +kernel
theorem dX3_stepOnce_59 : decode cX3_stepOnce 59 = .ok (.iconst 1, 1) := by decide +kernel
theorem dX3_stepOnce_60 : decode cX3_stepOnce 60 = .ok (.iadd, 1) := by decide +kernel
theorem dX3_stepOnce_61 : decode cX3_stepOnce 61 = .ok (.invokevirtual 147, 3) := by decide +kernel
theorem dX3_stepOnce_64 : decode cX3_stepOnce 64 = .ok (.return_, 1) := by decide +kernel
theorem dX3_isBehind_0 : decode cX3_isBehind 0 = .ok (.aload_n 0, 1) := by decide +kernel
theorem dX3_isBehind_1 : decode cX3_isBehind 1 = .ok (.getfield 21, 3) := by decide +kernel
theorem dX3_isBehind_4 : decode cX3_isBehind 4 = .ok (.iload_n 1, 1) := by decide +kernel
theorem dX3_isBehind_5 : decode cX3_isBehind 5 = .ok (.invokevirtual 48, 3) := by decide +kernel
theorem dX3_isBehind_8 : decode cX3_isBehind 8 = .ok (.aload_n 0, 1) := by decide +kernel
theorem dX3_isBehind_9 : decode cX3_isBehind 9 = .ok (.getfield 12, 3) := by decide +kernel
theorem dX3_isBehind_12 : decode cX3_isBehind 12 = .ok (.invokevirtual 94, 3) := by decide +kernel
theorem dX3_isBehind_15 : decode cX3_isBehind 15 = .ok (.if_icmp .ge 7, 3) := by decide +kernel
theorem dX3_isBehind_18 : decode cX3_isBehind 18 = .ok (.iconst 1, 1) := by decide +kernel
theorem dX3_isBehind_19 : decode cX3_isBehind 19 = .ok (.goto 4, 3) := by decide +kernel
theorem dX3_isBehind_22 : decode cX3_isBehind 22 = .ok (.iconst 0, 1) := by decide +kernel
theorem dX3_isBehind_23 : decode cX3_isBehind 23 = .ok (.ireturn, 1) := by decide +kernel
theorem dX3_sumRead_0 : decode cX3_sumRead 0 = .ok (.aload_n 0, 1) := by decide +kernel
theorem dX3_sumRead_1 : decode cX3_sumRead 1 = .ok (.iload_n 1, 1) := by decide +kernel
theorem dX3_sumRead_2 : decode cX3_sumRead 2 = .ok (.iload_n 2, 1) := by decide +kernel
theorem dX3_sumRead_3 : decode cX3_sumRead 3 = .ok (.invokevirtual 61, 3) := by decide +kernel
theorem dX3_sumRead_6 : decode cX3_sumRead 6 = .ok (.astore_n 3, 1) := by decide +kernel
theorem dX3_sumRead_7 : decode cX3_sumRead 7 = .ok (.iconst 0, 1) := by decide +kernel
theorem dX3_sumRead_8 : decode cX3_sumRead 8 = .ok (.istore 4, 2) := by decide +kernel
theorem dX3_sumRead_10 : decode cX3_sumRead 10 = .ok (.iconst 0, 1) := by decide +kernel
theorem dX3_sumRead_11 : decode cX3_sumRead 11 = .ok (.istore 5, 2) := by decide +kernel
theorem dX3_sumRead_13 : decode cX3_sumRead 13 = .ok (.iload 5, 2) := by decide +kernel
theorem dX3_sumRead_15 : decode cX3_sumRead 15 = .ok (.aload_n 0, 1) := by decide +kernel
theorem dX3_sumRead_16 : decode cX3_sumRead 16 = .ok (.getfield 12, 3) := by decide +kernel
theorem dX3_sumRead_19 : decode cX3_sumRead 19 = .ok (.iload_n 2, 1) := by decide +kernel
theorem dX3_sumRead_20 : decode cX3_sumRead 20 = .ok (.invokevirtual 105, 3) := by decide +kernel
theorem dX3_sumRead_23 : decode cX3_sumRead 23 = .ok (.if_icmp .ge 28, 3) := by decide +kernel
theorem dX3_sumRead_26 : decode cX3_sumRead 26 = .ok (.iload 4, 2) := by decide +kernel
theorem dX3_sumRead_28 : decode cX3_sumRead 28 = .ok (.aload_n 3, 1) := by decide +kernel
theorem dX3_sumRead_29 : decode cX3_sumRead 29 = .ok (.aload_n 0, 1) := by decide +kernel
theorem dX3_sumRead_30 : decode cX3_sumRead 30 = .ok (.getfield 12, 3) := by decide +kernel
theorem dX3_sumRead_33 : decode cX3_sumRead 33 = .ok (.iload_n 2, 1) := by decide +kernel
theorem dX3_sumRead_34 : decode cX3_sumRead 34 = .ok (.iload 5, 2) := by decide +kernel
theorem dX3_sumRead_36 : decode cX3_sumRead 36 = .ok (.invokevirtual 108, 3) := by decide +kernel
theorem dX3_sumRead_39 : decode cX3_sumRead 39 = .ok (.invokestatic 32, 3) := by decide +kernel
theorem dX3_sumRead_42 : decode cX3_sumRead 42 = .ok (.iadd, 1) := by decide +kernel
theorem dX3_sumRead_43 : decode cX3_sumRead 43 = .ok (.istore 4, 2) := by decide +kernel
theorem dX3_sumRead_45 : decode cX3_sumRead 45 = .ok (.iinc 5 1, 3) := by decide +kernel
theorem dX3_sumRead_48 : decode cX3_sumRead 48 = .ok (.goto (-35), 3) := by decide +kernel
theorem dX3_sumRead_51 : decode cX3_sumRead 51 = .ok (.iload 4, 2) := by decide +kernel
theorem dX3_sumRead_53 : decode cX3_sumRead 53 = .ok (.ireturn, 1) := by decide +kernel
theorem dX3_rowsOfShape_0 : decode cX3_rowsOfShape 0 = .ok (.iconst 0, 1) := by decide +kernel
theorem dX3_rowsOfShape_1 : decode cX3_rowsOfShape 1 = .ok (.istore_n 2, 1) := by decide +kernel
theorem dX3_rowsOfShape_2 : decode cX3_rowsOfShape 2 = .ok (.iconst 0, 1) := by decide +kernel
theorem dX3_rowsOfShape_3 : decode cX3_rowsOfShape 3 = .ok (.istore_n 3, 1) := by decide +kernel
theorem dX3_rowsOfShape_4 : decode cX3_rowsOfShape 4 = .ok (.iload_n 3, 1) := by decide +kernel
theorem dX3_rowsOfShape_5 : decode cX3_rowsOfShape 5 = .ok (.aload_n 0, 1) := by decide +kernel
theorem dX3_rowsOfShape_6 : decode cX3_rowsOfShape 6 = .ok (.getfield 21, 3) := by decide +kernel
theorem dX3_rowsOfShape_9 : decode cX3_rowsOfShape 9 = .ok (.invokevirtual 84, 3) := by decide +kernel
theorem dX3_rowsOfShape_12 : decode cX3_rowsOfShape 12 = .ok (.if_icmp .ge 24, 3) := by decide +kernel
theorem dX3_rowsOfShape_15 : decode cX3_rowsOfShape 15 = .ok (.aload_n 0, 1) := by decide +kernel
theorem dX3_rowsOfShape_16 : decode cX3_rowsOfShape 16 = .ok (.getfield 21, 3) := by decide +kernel
theorem dX3_rowsOfShape_19 : decode cX3_rowsOfShape 19 = .ok (.iload_n 3, 1) := by decide +kernel
theorem dX3_rowsOfShape_20 : decode cX3_rowsOfShape 20 = .ok (.invokevirtual 48, 3) := by decide +kernel
theorem dX3_rowsOfShape_23 : decode cX3_rowsOfShape 23 = .ok (.iload_n 1, 1) := by decide +kernel
theorem dX3_rowsOfShape_24 : decode cX3_rowsOfShape 24 = .ok (.if_icmp .ne 6, 3) := by decide +kernel
theorem dX3_rowsOfShape_27 : decode cX3_rowsOfShape 27 = .ok (.iinc 2 1, 3) := by decide +kernel
theorem dX3_rowsOfShape_30 : decode cX3_rowsOfShape 30 = .ok (.iinc 3 1, 3) := by decide +kernel
theorem dX3_rowsOfShape_33 : decode cX3_rowsOfShape 33 = .ok (.goto (-29), 3) := by decide +kernel
theorem dX3_rowsOfShape_36 : decode cX3_rowsOfShape 36 = .ok (.iload_n 2, 1) := by decide +kernel
theorem dX3_rowsOfShape_37 : decode cX3_rowsOfShape 37 = .ok (.ireturn, 1) := by decide +kernel
theorem dX3_readersOfShape_0 : decode cX3_readersOfShape 0 = .ok (.iconst 0, 1) := by decide +kernel
theorem dX3_readersOfShape_1 : decode cX3_readersOfShape 1 = .ok (.istore_n 2, 1) := by decide +kernel
theorem dX3_readersOfShape_2 : decode cX3_readersOfShape 2 = .ok (.iconst 0, 1) := by decide +kernel
theorem dX3_readersOfShape_3 : decode cX3_readersOfShape 3 = .ok (.istore_n 3, 1) := by decide +kernel
theorem dX3_readersOfShape_4 : decode cX3_readersOfShape 4 = .ok (.iload_n 3, 1) := by decide +kernel
theorem dX3_readersOfShape_5 : decode cX3_readersOfShape 5 = .ok (.iconst 4, 1) := by decide +kernel
theorem dX3_readersOfShape_6 : decode cX3_readersOfShape 6 = .ok (.if_icmp .ge 21, 3) := by decide +kernel
theorem dX3_readersOfShape_9 : decode cX3_readersOfShape 9 = .ok (.aload_n 0, 1) := by decide +kernel
theorem dX3_readersOfShape_10 : decode cX3_readersOfShape 10 = .ok (.iload_n 3, 1) := by decide +kernel
theorem dX3_readersOfShape_11 : decode cX3_readersOfShape 11 = .ok (.invokevirtual 36, 3) := by decide +kernel
theorem dX3_readersOfShape_14 : decode cX3_readersOfShape 14 = .ok (.iload_n 1, 1) := by decide +kernel
theorem dX3_readersOfShape_15 : decode cX3_readersOfShape 15 = .ok (.if_icmp .ne 6, 3) := by decide +kernel
theorem dX3_readersOfShape_18 : decode cX3_readersOfShape 18 = .ok (.iinc 2 1, 3) := by decide +kernel
theorem dX3_readersOfShape_21 : decode cX3_readersOfShape 21 = .ok (.iinc 3 1, 3) := by decide +kernel
theorem dX3_readersOfShape_24 : decode cX3_readersOfShape 24 = .ok (.goto (-20), 3) := by decide +kernel
theorem dX3_readersOfShape_27 : decode cX3_readersOfShape 27 = .ok (.iload_n 2, 1) := by decide +kernel
theorem dX3_readersOfShape_28 : decode cX3_readersOfShape 28 = .ok (.ireturn, 1) := by decide +kernel
theorem dX4_init_0 : decode cX4_init 0 = .ok (.aload_n 0, 1) := by decide +kernel
theorem dX4_init_1 : decode cX4_init 1 = .ok (.invokespecial 3, 3) := by decide +kernel
theorem dX4_init_4 : decode cX4_init 4 = .ok (.aload_n 0, 1) := by decide +kernel
theorem dX4_init_5 : decode cX4_init 5 = .ok (.bipush 60, 2) := by decide +kernel
theorem dX4_init_7 : decode cX4_init 7 = .ok (.newarray .int, 2) := by decide +kernel
