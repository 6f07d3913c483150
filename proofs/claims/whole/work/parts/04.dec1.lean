theorem dX0_init_0 : decode cX0_init 0 = .ok (.aload_n 0, 1) := by decide +kernel
theorem dX0_init_1 : decode cX0_init 1 = .ok (.invokespecial 3, 3) := by decide +kernel
theorem dX0_init_4 : decode cX0_init 4 = .ok (.aload_n 0, 1) := by decide +kernel
theorem dX0_init_5 : decode cX0_init 5 = .ok (.bipush 6, 2) := by decide +kernel
theorem dX0_init_7 : decode cX0_init 7 = .ok (.anewarray 9, 3) := by decide +kernel
theorem dX0_init_10 : decode cX0_init 10 = .ok (.putfield 11, 3) := by decide +kernel
theorem dX0_init_13 : decode cX0_init 13 = .ok (.aload_n 0, 1) := by decide +kernel
theorem dX0_init_14 : decode cX0_init 14 = .ok (.iconst 0, 1) := by decide +kernel
theorem dX0_init_15 : decode cX0_init 15 = .ok (.putfield 17, 3) := by decide +kernel
theorem dX0_init_18 : decode cX0_init 18 = .ok (.iconst 0, 1) := by decide +kernel
theorem dX0_init_19 : decode cX0_init 19 = .ok (.istore_n 1, 1) := by decide +kernel
theorem dX0_init_20 : decode cX0_init 20 = .ok (.iload_n 1, 1) := by decide +kernel
theorem dX0_init_21 : decode cX0_init 21 = .ok (.aload_n 0, 1) := by decide +kernel
theorem dX0_init_22 : decode cX0_init 22 = .ok (.getfield 11, 3) := by decide +kernel
theorem dX0_init_25 : decode cX0_init 25 = .ok (.arraylength, 1) := by decide +kernel
theorem dX0_init_26 : decode cX0_init 26 = .ok (.if_icmp .ge 22, 3) := by decide +kernel
theorem dX0_init_29 : decode cX0_init 29 = .ok (.aload_n 0, 1) := by decide +kernel
theorem dX0_init_30 : decode cX0_init 30 = .ok (.getfield 11, 3) := by decide +kernel
theorem dX0_init_33 : decode cX0_init 33 = .ok (.iload_n 1, 1) := by decide +kernel
theorem dX0_init_34 : decode cX0_init 34 = .ok (.new 9, 3) := by decide +kernel
theorem dX0_init_37 : decode cX0_init 37 = .ok (.dup, 1) := by decide +kernel
theorem dX0_init_38 : decode cX0_init 38 = .ok (.invokespecial 21, 3) := by decide +kernel
theorem dX0_init_41 : decode cX0_init 41 = .ok (.aastore, 1) := by decide +kernel
theorem dX0_init_42 : decode cX0_init 42 = .ok (.iinc 1 1, 3) := by decide +kernel
theorem dX0_init_45 : decode cX0_init 45 = .ok (.goto (-25), 3) := by decide +kernel
theorem dX0_init_48 : decode cX0_init 48 = .ok (.return_, 1) := by decide +kernel
theorem dX0_size_0 : decode cX0_size 0 = .ok (.aload_n 0, 1) := by decide +kernel
theorem dX0_size_1 : decode cX0_size 1 = .ok (.getfield 17, 3) := by decide +kernel
theorem dX0_size_4 : decode cX0_size 4 = .ok (.ireturn, 1) := by decide +kernel
theorem dX0_save_0 : decode cX0_save 0 = .ok (.aload_n 0, 1) := by decide +kernel
theorem dX0_save_1 : decode cX0_save 1 = .ok (.getfield 17, 3) := by decide +kernel
theorem dX0_save_4 : decode cX0_save 4 = .ok (.bipush 6, 2) := by decide +kernel
theorem dX0_save_6 : decode cX0_save 6 = .ok (.if_icmp .lt 7, 3) := by decide +kernel
theorem dX0_save_9 : decode cX0_save 9 = .ok (.aload_n 0, 1) := by decide +kernel
theorem dX0_save_10 : decode cX0_save 10 = .ok (.invokevirtual 22, 3) := by decide +kernel
theorem dX0_save_13 : decode cX0_save 13 = .ok (.aload_n 0, 1) := by decide +kernel
theorem dX0_save_14 : decode cX0_save 14 = .ok (.aload_n 0, 1) := by decide +kernel
theorem dX0_save_15 : decode cX0_save 15 = .ok (.getfield 17, 3) := by decide +kernel
theorem dX0_save_18 : decode cX0_save 18 = .ok (.invokevirtual 25, 3) := by decide +kernel
theorem dX0_save_21 : decode cX0_save 21 = .ok (.astore_n 2, 1) := by decide +kernel
theorem dX0_save_22 : decode cX0_save 22 = .ok (.aload_n 2, 1) := by decide +kernel
theorem dX0_save_23 : decode cX0_save 23 = .ok (.ifnull 18, 3) := by decide +kernel
theorem dX0_save_26 : decode cX0_save 26 = .ok (.aload_n 2, 1) := by decide +kernel
theorem dX0_save_27 : decode cX0_save 27 = .ok (.aload_n 1, 1) := by decide +kernel
theorem dX0_save_28 : decode cX0_save 28 = .ok (.invokevirtual 29, 3) := by decide +kernel
theorem dX0_save_31 : decode cX0_save 31 = .ok (.aload_n 0, 1) := by decide +kernel
theorem dX0_save_32 : decode cX0_save 32 = .ok (.dup, 1) := by decide +kernel
theorem dX0_save_33 : decode cX0_save 33 = .ok (.getfield 17, 3) := by decide +kernel
theorem dX0_save_36 : decode cX0_save 36 = .ok (.iconst 1, 1) := by decide +kernel
theorem dX0_save_37 : decode cX0_save 37 = .ok (.iadd, 1) := by decide +kernel
theorem dX0_save_38 : decode cX0_save 38 = .ok (.putfield 17, 3) := by decide +kernel
theorem dX0_save_41 : decode cX0_save 41 = .ok (.return_, 1) := by decide +kernel
theorem dX0_restore_0 : decode cX0_restore 0 = .ok (.aload_n 0, 1) := by decide +kernel
theorem dX0_restore_1 : decode cX0_restore 1 = .ok (.aload_n 0, 1) := by decide +kernel
theorem dX0_restore_2 : decode cX0_restore 2 = .ok (.getfield 17, 3) := by decide +kernel
theorem dX0_restore_5 : decode cX0_restore 5 = .ok (.iconst 1, 1) := by decide +kernel
theorem dX0_restore_6 : decode cX0_restore 6 = .ok (.isub, 1) := by decide +kernel
theorem dX0_restore_7 : decode cX0_restore 7 = .ok (.invokevirtual 25, 3) := by decide +kernel
theorem dX0_restore_10 : decode cX0_restore 10 = .ok (.astore_n 2, 1) := by decide +kernel
theorem dX0_restore_11 : decode cX0_restore 11 = .ok (.aload_n 2, 1) := by decide +kernel
theorem dX0_restore_12 : decode cX0_restore 12 = .ok (.ifnull 18, 3) := by decide +kernel
theorem dX0_restore_15 : decode cX0_restore 15 = .ok (.aload_n 1, 1) := by decide +kernel
theorem dX0_restore_16 : decode cX0_restore 16 = .ok (.aload_n 2, 1) := by decide +kernel
theorem dX0_restore_17 : decode cX0_restore 17 = .ok (.invokevirtual 29, 3) := by decide +kernel
theorem dX0_restore_20 : decode cX0_restore 20 = .ok (.aload_n 0, 1) := by decide +kernel
theorem dX0_restore_21 : decode cX0_restore 21 = .ok (.dup, 1) := by decide +kernel
theorem dX0_restore_22 : decode cX0_restore 22 = .ok (.getfield 17, 3) := by decide +kernel
theorem dX0_restore_25 : decode cX0_restore 25 = .ok (.iconst 1, 1) := by decide +kernel
theorem dX0_restore_26 : decode cX0_restore 26 = .ok (.isub, 1) := by decide +kernel
theorem dX0_restore_27 : decode cX0_restore 27 = .ok (.putfield 17, 3) := by decide +kernel
theorem dX0_restore_30 : decode cX0_restore 30 = .ok (.aload_n 0, 1) := by decide +kernel
theorem dX0_restore_31 : decode cX0_restore 31 = .ok (.getfield 17, 3) := by decide +kernel
theorem dX0_restore_34 : decode cX0_restore 34 = .ok (.ireturn, 1) := by decide +kernel
theorem dX0_slotAt_0 : decode cX0_slotAt 0 = .ok (.iload_n 1, 1) := by decide +kernel
theorem dX0_slotAt_1 : decode cX0_slotAt 1 = .ok (.ifCond .lt 21, 3) := by decide +kernel
theorem dX0_slotAt_4 : decode cX0_slotAt 4 = .ok (.iload_n 1, 1) := by decide +kernel
theorem dX0_slotAt_5 : decode cX0_slotAt 5 = .ok (.aload_n 0, 1) := by decide +kernel
theorem dX0_slotAt_6 : decode cX0_slotAt 6 = .ok (.getfield 11, 3) := by decide +kernel
theorem dX0_slotAt_9 : decode cX0_slotAt 9 = .ok (.arraylength, 1) := by decide +kernel
theorem dX0_slotAt_10 : decode cX0_slotAt 10 = .ok (.if_icmp .ge 12, 3) := by decide +kernel
theorem dX0_slotAt_13 : decode cX0_slotAt 13 = .ok (.aload_n 0, 1) := by decide +kernel
theorem dX0_slotAt_14 : decode cX0_slotAt 14 = .ok (.getfield 11, 3) := by decide +kernel
theorem dX0_slotAt_17 : decode cX0_slotAt 17 = .ok (.iload_n 1, 1) := by decide +kernel
theorem dX0_slotAt_18 : decode cX0_slotAt 18 = .ok (.aaload, 1) := by decide +kernel
theorem dX0_slotAt_19 : decode cX0_slotAt 19 = .ok (.goto 4, 3) := by decide +kernel
theorem dX0_slotAt_22 : decode cX0_slotAt 22 = .ok (.aconst_null, 1) := by decide +kernel
theorem dX0_slotAt_23 : decode cX0_slotAt 23 = .ok (.areturn, 1) := by decide +kernel
theorem dX0_dropOldest_0 : decode cX0_dropOldest 0 = .ok (.aload_n 0, 1) := by decide +kernel
theorem dX0_dropOldest_1 : decode cX0_dropOldest 1 = .ok (.iconst 0, 1) := by decide +kernel
theorem dX0_dropOldest_2 : decode cX0_dropOldest 2 = .ok (.invokevirtual 25, 3) := by decide +kernel
theorem dX0_dropOldest_5 : decode cX0_dropOldest 5 = .ok (.astore_n 1, 1) := by decide +kernel
theorem dX0_dropOldest_6 : decode cX0_dropOldest 6 = .ok (.iconst 1, 1) := by decide +kernel
theorem dX0_dropOldest_7 : decode cX0_dropOldest 7 = .ok (.istore_n 2, 1) := by decide +kernel
theorem dX0_dropOldest_8 : decode cX0_dropOldest 8 = .ok (.iload_n 2, 1) := by decide +kernel
theorem dX0_dropOldest_9 : decode cX0_dropOldest 9 = .ok (.aload_n 0, 1) := by decide +kernel
theorem dX0_dropOldest_10 : decode cX0_dropOldest 10 = .ok (.getfield 11, 3) := by decide +kernel
theorem dX0_dropOldest_13 : decode cX0_dropOldest 13 = .ok (.arraylength, 1) := by decide +kernel
theorem dX0_dropOldest_14 : decode cX0_dropOldest 14 = .ok (.if_icmp .ge 23, 3) := by decide +kernel
theorem dX0_dropOldest_17 : decode cX0_dropOldest 17 = .ok (.aload_n 0, 1) := by decide +kernel
theorem dX0_dropOldest_18 : decode cX0_dropOldest 18 = .ok (.getfield 11, 3) := by decide +kernel
theorem dX0_dropOldest_21 : decode cX0_dropOldest 21 = .ok (.iload_n 2, 1) := by decide +kernel
theorem dX0_dropOldest_22 : decode cX0_dropOldest 22 = .ok (.iconst 1, 1) := by decide +kernel
theorem dX0_dropOldest_23 : decode cX0_dropOldest 23 = .ok (.isub, 1) := by decide +kernel
theorem dX0_dropOldest_24 : decode cX0_dropOldest 24 = .ok (.aload_n 0, 1) := by decide +kernel
theorem dX0_dropOldest_25 : decode cX0_dropOldest 25 = .ok (.getfield 11, 3) := by decide +kernel
theorem dX0_dropOldest_28 : decode cX0_dropOldest 28 = .ok (.iload_n 2, 1) := by decide +kernel
theorem dX0_dropOldest_29 : decode cX0_dropOldest 29 = .ok (.aaload, 1) := by decide +kernel
theorem dX0_dropOldest_30 : decode cX0_dropOldest 30 = .ok (.aastore, 1) := by decide +kernel
theorem dX0_dropOldest_31 : decode cX0_dropOldest 31 = .ok (.iinc 2 1, 3) := by decide +kernel
theorem dX0_dropOldest_34 : decode cX0_dropOldest 34 = .ok (.goto (-26), 3) := by decide +kernel
theorem dX0_dropOldest_37 : decode cX0_dropOldest 37 = .ok (.aload_n 0, 1) := by decide +kernel
theorem dX0_dropOldest_38 : decode cX0_dropOldest 38 = .ok (.getfield 17, 3) := by decide +kernel
theorem dX0_dropOldest_41 : decode cX0_dropOldest 41 = .ok (.ifCond .le 38, 3) := by decide +kernel
theorem dX0_dropOldest_44 : decode cX0_dropOldest 44 = .ok (.aload_n 0, 1) := by decide +kernel
theorem dX0_dropOldest_45 : decode cX0_dropOldest 45 = .ok (.getfield 17, 3) := by decide +kernel
theorem dX0_dropOldest_48 : decode cX0_dropOldest 48 = .ok (.aload_n 0, 1) := by decide +kernel
theorem dX0_dropOldest_49 : decode cX0_dropOldest 49 = .ok (.getfield 11, 3) := by decide +kernel
theorem dX0_dropOldest_52 : decode cX0_dropOldest 52 = .ok (.arraylength, 1) := by decide +kernel
theorem dX0_dropOldest_53 : decode cX0_dropOldest 53 = .ok (.if_icmp .gt 26, 3) := by decide +kernel
theorem dX0_dropOldest_56 : decode cX0_dropOldest 56 = .ok (.aload_n 0, 1) := by decide +kernel
theorem dX0_dropOldest_57 : decode cX0_dropOldest 57 = .ok (.getfield 11, 3) := by decide +kernel
theorem dX0_dropOldest_60 : decode cX0_dropOldest 60 = .ok (.aload_n 0, 1) := by decide +kernel
theorem dX0_dropOldest_61 : decode cX0_dropOldest 61 = .ok (.getfield 11, 3) := by decide +kernel
theorem dX0_dropOldest_64 : decode cX0_dropOldest 64 = .ok (.arraylength, 1) := by decide +kernel
theorem dX0_dropOldest_65 : decode cX0_dropOldest 65 = .ok (.iconst 1, 1) := by decide +kernel
theorem dX0_dropOldest_66 : decode cX0_dropOldest 66 = .ok (.isub, 1) := by decide +kernel
theorem dX0_dropOldest_67 : decode cX0_dropOldest 67 = .ok (.aload_n 1, 1) := by decide +kernel
theorem dX0_dropOldest_68 : decode cX0_dropOldest 68 = .ok (.aastore, 1) := by decide +kernel
theorem dX0_dropOldest_69 : decode cX0_dropOldest 69 = .ok (.aload_n 0, 1) := by decide +kernel
theorem dX0_dropOldest_70 : decode cX0_dropOldest 70 = .ok (.dup, 1) := by decide +kernel
theorem dX0_dropOldest_71 : decode cX0_dropOldest 71 = .ok (.getfield 17, 3) := by decide +kernel
theorem dX0_dropOldest_74 : decode cX0_dropOldest 74 = .ok (.iconst 1, 1) := by decide +kernel
theorem dX0_dropOldest_75 : decode cX0_dropOldest 75 = .ok (.isub, 1) := by decide +kernel
theorem dX0_dropOldest_76 : decode cX0_dropOldest 76 = .ok (.putfield 17, 3) := by decide +kernel
theorem dX0_dropOldest_79 : decode cX0_dropOldest 79 = .ok (.return_, 1) := by decide +kernel
theorem dX1_init_0 : decode cX1_init 0 = .ok (.aload_n 0, 1) := by decide +kernel
theorem dX1_init_1 : decode cX1_init 1 = .ok (.invokespecial 3, 3) := by decide +kernel
theorem dX1_init_4 : decode cX1_init 4 = .ok (.aload_n 0, 1) := by decide +kernel
theorem dX1_init_5 : decode cX1_init 5 = .ok (.iconst 0, 1) := by decide +kernel
theorem dX1_init_6 : decode cX1_init 6 = .ok (.putfield 9, 3) := by decide +kernel
theorem dX1_init_9 : decode cX1_init 9 = .ok (.aload_n 0, 1) := by decide +kernel
theorem dX1_init_10 : decode cX1_init 10 = .ok (.iconst 0, 1) := by decide +kernel
theorem dX1_init_11 : decode cX1_init 11 = .ok (.putfield 15, 3) := by decide +kernel
theorem dX1_init_14 : decode cX1_init 14 = .ok (.aload_n 0, 1) := by decide +kernel
theorem dX1_init_15 : decode cX1_init 15 = .ok (.iconst 0, 1) := by decide +kernel
theorem dX1_init_16 : decode cX1_init 16 = .ok (.putfield 18, 3) := by decide +kernel
theorem dX1_init_19 : decode cX1_init 19 = .ok (.aload_n 0, 1) := by decide +kernel
theorem dX1_init_20 : decode cX1_init 20 = .ok (.iconst 0, 1) := by decide +kernel
theorem dX1_init_21 : decode cX1_init 21 = .ok (.putfield 21, 3) := by decide +kernel
theorem dX1_init_24 : decode cX1_init 24 = .ok (.aload_n 0, 1) := by decide +kernel
theorem dX1_init_25 : decode cX1_init 25 = .ok (.bipush 12, 2) := by decide +kernel
theorem dX1_init_27 : decode cX1_init 27 = .ok (.newarray .int, 2) := by decide +kernel
theorem dX1_init_29 : decode cX1_init 29 = .ok (.putfield 24, 3) := by decide +kernel
theorem dX1_init_32 : decode cX1_init 32 = .ok (.aload_n 0, 1) := by decide +kernel
theorem dX1_init_33 : decode cX1_init 33 = .ok (.bipush 12, 2) := by decide +kernel
theorem dX1_init_35 : decode cX1_init 35 = .ok (.newarray .int, 2) := by decide +kernel
theorem dX1_init_37 : decode cX1_init 37 = .ok (.putfield 28, 3) := by decide +kernel
theorem dX1_init_40 : decode cX1_init 40 = .ok (.aload_n 0, 1) := by decide +kernel
theorem dX1_init_41 : decode cX1_init 41 = .ok (.sipush 144, 3) := by decide +kernel
theorem dX1_init_44 : decode cX1_init 44 = .ok (.newarray .int, 2) := by decide +kernel
theorem dX1_init_46 : decode cX1_init 46 = .ok (.putfield 31, 3) := by decide +kernel
theorem dX1_init_49 : decode cX1_init 49 = .ok (.return_, 1) := by decide +kernel
theorem dX1_size_0 : decode cX1_size 0 = .ok (.aload_n 0, 1) := by decide +kernel
theorem dX1_size_1 : decode cX1_size 1 = .ok (.getfield 9, 3) := by decide +kernel
theorem dX1_size_4 : decode cX1_size 4 = .ok (.ireturn, 1) := by decide +kernel
theorem dX1_cursor_0 : decode cX1_cursor 0 = .ok (.aload_n 0, 1) := by decide +kernel
theorem dX1_cursor_1 : decode cX1_cursor 1 = .ok (.getfield 15, 3) := by decide +kernel
theorem dX1_cursor_4 : decode cX1_cursor 4 = .ok (.ireturn, 1) := by decide +kernel
theorem dX1_rewritten_0 : decode cX1_rewritten 0 = .ok (.aload_n 0, 1) := by decide +kernel
theorem dX1_rewritten_1 : decode cX1_rewritten 1 = .ok (.getfield 18, 3) := by decide +kernel
theorem dX1_rewritten_4 : decode cX1_rewritten 4 = .ok (.ireturn, 1) := by decide +kernel
theorem dX1_writes_0 : decode cX1_writes 0 = .ok (.aload_n 0, 1) := by decide +kernel
theorem dX1_writes_1 : decode cX1_writes 1 = .ok (.getfield 21, 3) := by decide +kernel
theorem dX1_writes_4 : decode cX1_writes 4 = .ok (.ireturn, 1) := by decide +kernel
theorem dX1_isThere_0 : decode cX1_isThere 0 = .ok (.iload_n 1, 1) := by decide +kernel
theorem dX1_isThere_1 : decode cX1_isThere 1 = .ok (.ifCond .lt 15, 3) := by decide +kernel
theorem dX1_isThere_4 : decode cX1_isThere 4 = .ok (.iload_n 1, 1) := by decide +kernel
theorem dX1_isThere_5 : decode cX1_isThere 5 = .ok (.aload_n 0, 1) := by decide +kernel
theorem dX1_isThere_6 : decode cX1_isThere 6 = .ok (.getfield 9, 3) := by decide +kernel
theorem dX1_isThere_9 : decode cX1_isThere 9 = .ok (.if_icmp .ge 7, 3) := by decide +kernel
theorem dX1_isThere_12 : decode cX1_isThere 12 = .ok (.iconst 1, 1) := by decide +kernel
theorem dX1_isThere_13 : decode cX1_isThere 13 = .ok (.goto 4, 3) := by decide +kernel
theorem dX1_isThere_16 : decode cX1_isThere 16 = .ok (.iconst 0, 1) := by decide +kernel
theorem dX1_isThere_17 : decode cX1_isThere 17 = .ok (.ireturn, 1) := by decide +kernel
theorem dX1_isFull_0 : decode cX1_isFull 0 = .ok (.aload_n 0, 1) := by decide +kernel
theorem dX1_isFull_1 : decode cX1_isFull 1 = .ok (.getfield 9, 3) := by decide +kernel
theorem dX1_isFull_4 : decode cX1_isFull 4 = .ok (.bipush 12, 2) := by decide +kernel
theorem dX1_isFull_6 : decode cX1_isFull 6 = .ok (.if_icmp .lt 7, 3) := by decide +kernel
theorem dX1_isFull_9 : decode cX1_isFull 9 = .ok (.iconst 1, 1) := by decide +kernel
theorem dX1_isFull_10 : decode cX1_isFull 10 = .ok (.goto 4, 3) := by decide +kernel
theorem dX1_isFull_13 : decode cX1_isFull 13 = .ok (.iconst 0, 1) := by decide +kernel
theorem dX1_isFull_14 : decode cX1_isFull 14 = .ok (.ireturn, 1) := by decide +kernel
theorem dX1_shapeOf_0 : decode cX1_shapeOf 0 = .ok (.aload_n 0, 1) := by decide +kernel
theorem dX1_shapeOf_1 : decode cX1_shapeOf 1 = .ok (.getfield 24, 3) := by decide +kernel
theorem dX1_shapeOf_4 : decode cX1_shapeOf 4 = .ok (.iload_n 1, 1) := by decide +kernel
theorem dX1_shapeOf_5 : decode cX1_shapeOf 5 = .ok (.invokestatic 34, 3) := by decide +kernel
theorem dX1_shapeOf_8 : decode cX1_shapeOf 8 = .ok (.ireturn, 1) := by decide +kernel
theorem dX1_rewritesOf_0 : decode cX1_rewritesOf 0 = .ok (.aload_n 0, 1) := by decide +kernel
theorem dX1_rewritesOf_1 : decode cX1_rewritesOf 1 = .ok (.getfield 28, 3) := by decide +kernel
theorem dX1_rewritesOf_4 : decode cX1_rewritesOf 4 = .ok (.iload_n 1, 1) := by decide +kernel
theorem dX1_rewritesOf_5 : decode cX1_rewritesOf 5 = .ok (.invokestatic 34, 3) := by decide +kernel
theorem dX1_rewritesOf_8 : decode cX1_rewritesOf 8 = .ok (.ireturn, 1) := by decide +kernel
theorem dX1_value_0 : decode cX1_value 0 = .ok (.aload_n 0, 1) := by decide +kernel
theorem dX1_value_1 : decode cX1_value 1 = .ok (.getfield 31, 3) := by decide +kernel
theorem dX1_value_4 : decode cX1_value 4 = .ok (.iload_n 1, 1) := by decide +kernel
theorem dX1_value_5 : decode cX1_value 5 = .ok (.bipush 12, 2) := by decide +kernel
theorem dX1_value_7 : decode cX1_value 7 = .ok (.imul, 1) := by decide +kernel
theorem dX1_value_8 : decode cX1_value 8 = .ok (.iload_n 2, 1) := by decide +kernel
theorem dX1_value_9 : decode cX1_value 9 = .ok (.iadd, 1) := by decide +kernel
theorem dX1_value_10 : decode cX1_value 10 = .ok (.invokestatic 34, 3) := by decide +kernel
theorem dX1_value_13 : decode cX1_value 13 = .ok (.ireturn, 1) := by decide +kernel
theorem dX1_addRow_0 : decode cX1_addRow 0 = .ok (.aload_n 0, 1) := by decide +kernel
theorem dX1_addRow_1 : decode cX1_addRow 1 = .ok (.getfield 9, 3) := by decide +kernel
theorem dX1_addRow_4 : decode cX1_addRow 4 = .ok (.istore_n 2, 1) := by decide +kernel
theorem dX1_addRow_5 : decode cX1_addRow 5 = .ok (.aload_n 0, 1) := by decide +kernel
theorem dX1_addRow_6 : decode cX1_addRow 6 = .ok (.getfield 24, 3) := by decide +kernel
theorem dX1_addRow_9 : decode cX1_addRow 9 = .ok (.iload_n 2, 1) := by decide +kernel
theorem dX1_addRow_10 : decode cX1_addRow 10 = .ok (.iload_n 1, 1) := by decide +kernel
theorem dX1_addRow_11 : decode cX1_addRow 11 = .ok (.invokestatic 38, 3) := by decide +kernel
theorem dX1_addRow_14 : decode cX1_addRow 14 = .ok (.aload_n 0, 1) := by decide +kernel
theorem dX1_addRow_15 : decode cX1_addRow 15 = .ok (.getfield 28, 3) := by decide +kernel
theorem dX1_addRow_18 : decode cX1_addRow 18 = .ok (.iload_n 2, 1) := by decide +kernel
theorem dX1_addRow_19 : decode cX1_addRow 19 = .ok (.iconst 0, 1) := by decide +kernel
theorem dX1_addRow_20 : decode cX1_addRow 20 = .ok (.invokestatic 38, 3) := by decide +kernel
theorem dX1_addRow_23 : decode cX1_addRow 23 = .ok (.iconst 0, 1) := by decide +kernel
theorem dX1_addRow_24 : decode cX1_addRow 24 = .ok (.istore_n 3, 1) := by decide +kernel
theorem dX1_addRow_25 : decode cX1_addRow 25 = .ok (.iload_n 3, 1) := by decide +kernel
theorem dX1_addRow_26 : decode cX1_addRow 26 = .ok (.bipush 12, 2) := by decide +kernel
theorem dX1_addRow_28 : decode cX1_addRow 28 = .ok (.if_icmp .ge 23, 3) := by decide +kernel
theorem dX1_addRow_31 : decode cX1_addRow 31 = .ok (.aload_n 0, 1) := by decide +kernel
theorem dX1_addRow_32 : decode cX1_addRow 32 = .ok (.getfield 31, 3) := by decide +kernel
theorem dX1_addRow_35 : decode cX1_addRow 35 = .ok (.iload_n 2, 1) := by decide +kernel
theorem dX1_addRow_36 : decode cX1_addRow 36 = .ok (.bipush 12, 2) := by decide +kernel
theorem dX1_addRow_38 : decode cX1_addRow 38 = .ok (.imul, 1) := by decide +kernel
theorem dX1_addRow_39 : decode cX1_addRow 39 = .ok (.iload_n 3, 1) := by decide +kernel
theorem dX1_addRow_40 : decode cX1_addRow 40 = .ok (.iadd, 1) := by decide +kernel
theorem dX1_addRow_41 : decode cX1_addRow 41 = .ok (.iconst 0, 1) := by decide +kernel
theorem dX1_addRow_42 : decode cX1_addRow 42 = .ok (.invokestatic 38, 3) := by decide +kernel
theorem dX1_addRow_45 : decode cX1_addRow 45 = .ok (.iinc 3 1, 3) := by decide +kernel
theorem dX1_addRow_48 : decode cX1_addRow 48 = .ok (.goto (-23), 3) := by decide +kernel
theorem dX1_addRow_51 : decode cX1_addRow 51 = .ok (.aload_n 0, 1) := by decide +kernel
theorem dX1_addRow_52 : decode cX1_addRow 52 = .ok (.dup, 1) := by decide +kernel
theorem dX1_addRow_53 : decode cX1_addRow 53 = .ok (.getfield 9, 3) := by decide +kernel
theorem dX1_addRow_56 : decode cX1_addRow 56 = .ok (.iconst 1, 1) := by decide +kernel
theorem dX1_addRow_57 : decode cX1_addRow 57 = .ok (.iadd, 1) := by decide +kernel
theorem dX1_addRow_58 : decode cX1_addRow 58 = .ok (.putfield 9, 3) := by decide +kernel
theorem dX1_addRow_61 : decode cX1_addRow 61 = .ok (.iload_n 2, 1) := by decide +kernel
theorem dX1_addRow_62 : decode cX1_addRow 62 = .ok (.ireturn, 1) := by decide +kernel
theorem dX1_takeOut_0 : decode cX1_takeOut 0 = .ok (.iload_n 1, 1) := by decide +kernel
theorem dX1_takeOut_1 : decode cX1_takeOut 1 = .ok (.iconst 1, 1) := by decide +kernel
theorem dX1_takeOut_2 : decode cX1_takeOut 2 = .ok (.iadd, 1) := by decide +kernel
theorem dX1_takeOut_3 : decode cX1_takeOut 3 = .ok (.istore_n 2, 1) := by decide +kernel
theorem dX1_takeOut_4 : decode cX1_takeOut 4 = .ok (.iload_n 2, 1) := by decide +kernel
theorem dX1_takeOut_5 : decode cX1_takeOut 5 = .ok (.aload_n 0, 1) := by decide +kernel
theorem dX1_takeOut_6 : decode cX1_takeOut 6 = .ok (.getfield 9, 3) := by decide +kernel
theorem dX1_takeOut_9 : decode cX1_takeOut 9 = .ok (.if_icmp .ge 14, 3) := by decide +kernel
theorem dX1_takeOut_12 : decode cX1_takeOut 12 = .ok (.aload_n 0, 1) := by decide +kernel
theorem dX1_takeOut_13 : decode cX1_takeOut 13 = .ok (.iload_n 2, 1) := by decide +kernel
theorem dX1_takeOut_14 : decode cX1_takeOut 14 = .ok (.invokevirtual 42, 3) := by decide +kernel
theorem dX1_takeOut_17 : decode cX1_takeOut 17 = .ok (.iinc 2 1, 3) := by decide +kernel
theorem dX1_takeOut_20 : decode cX1_takeOut 20 = .ok (.goto (-16), 3) := by decide +kernel
theorem dX1_takeOut_23 : decode cX1_takeOut 23 = .ok (.aload_n 0, 1) := by decide +kernel
theorem dX1_takeOut_24 : decode cX1_takeOut 24 = .ok (.dup, 1) := by decide +kernel
theorem dX1_takeOut_25 : decode cX1_takeOut 25 = .ok (.getfield 9, 3) := by decide +kernel
theorem dX1_takeOut_28 : decode cX1_takeOut 28 = .ok (.iconst 1, 1) := by decide +kernel
theorem dX1_takeOut_29 : decode cX1_takeOut 29 = .ok (.isub, 1) := by decide +kernel
theorem dX1_takeOut_30 : decode cX1_takeOut 30 = .ok (.putfield 9, 3) := by decide +kernel
theorem dX1_takeOut_33 : decode cX1_takeOut 33 = .ok (.aload_n 0, 1) := by decide +kernel
theorem dX1_takeOut_34 : decode cX1_takeOut 34 = .ok (.getfield 15, 3) := by decide +kernel
theorem dX1_takeOut_37 : decode cX1_takeOut 37 = .ok (.iload_n 1, 1) := by decide +kernel
theorem dX1_takeOut_38 : decode cX1_takeOut 38 = .ok (.if_icmp .le 13, 3) := by decide +kernel
theorem dX1_takeOut_41 : decode cX1_takeOut 41 = .ok (.aload_n 0, 1) := by decide +kernel
theorem dX1_takeOut_42 : decode cX1_takeOut 42 = .ok (.dup, 1) := by decide +kernel
theorem dX1_takeOut_43 : decode cX1_takeOut 43 = .ok (.getfield 15, 3) := by decide +kernel
theorem dX1_takeOut_46 : decode cX1_takeOut 46 = .ok (.iconst 1, 1) := by decide +kernel
theorem dX1_takeOut_47 : decode cX1_takeOut 47 = .ok (.isub, 1) := by decide +kernel
theorem dX1_takeOut_48 : decode cX1_takeOut 48 = .ok (.putfield 15, 3) := by decide +kernel
theorem dX1_takeOut_51 : decode cX1_takeOut 51 = .ok (.aload_n 0, 1) := by decide +kernel
theorem dX1_takeOut_52 : decode cX1_takeOut 52 = .ok (.getfield 9, 3) := by decide +kernel
theorem dX1_takeOut_55 : decode cX1_takeOut 55 = .ok (.ireturn, 1) := by decide +kernel
theorem dX1_overwrite_0 : decode cX1_overwrite 0 = .ok (.aload_n 0, 1) := by decide +kernel
theorem dX1_overwrite_1 : decode cX1_overwrite 1 = .ok (.getfield 31, 3) := by decide +kernel
theorem dX1_overwrite_4 : decode cX1_overwrite 4 = .ok (.iload_n 1, 1) := by decide +kernel
theorem dX1_overwrite_5 : decode cX1_overwrite 5 = .ok (.bipush 12, 2) := by decide +kernel
theorem dX1_overwrite_7 : decode cX1_overwrite 7 = .ok (.imul, 1) := by decide +kernel
theorem dX1_overwrite_8 : decode cX1_overwrite 8 = .ok (.iload_n 2, 1) := by decide +kernel
theorem dX1_overwrite_9 : decode cX1_overwrite 9 = .ok (.iadd, 1) := by decide +kernel
theorem dX1_overwrite_10 : decode cX1_overwrite 10 = .ok (.iload_n 3, 1) := by decide +kernel
theorem dX1_overwrite_11 : decode cX1_overwrite 11 = .ok (.invokestatic 38, 3) := by decide +kernel
theorem dX1_overwrite_14 : decode cX1_overwrite 14 = .ok (.aload_n 0, 1) := by decide +kernel
theorem dX1_overwrite_15 : decode cX1_overwrite 15 = .ok (.dup, 1) := by decide +kernel
theorem dX1_overwrite_16 : decode cX1_overwrite 16 = .ok (.getfield 21, 3) := by decide +kernel
theorem dX1_overwrite_19 : decode cX1_overwrite 19 = .ok (.iconst 1, 1) := by decide +kernel
theorem dX1_overwrite_20 : decode cX1_overwrite 20 = .ok (.iadd, 1) := by decide +kernel
theorem dX1_overwrite_21 : decode cX1_overwrite 21 = .ok (.putfield 21, 3) := by decide +kernel
theorem dX1_overwrite_24 : decode cX1_overwrite 24 = .ok (.return_, 1) := by decide +kernel
theorem dX1_rewrite_0 : decode cX1_rewrite 0 = .ok (.iconst 0, 1) := by decide +kernel
theorem dX1_rewrite_1 : decode cX1_rewrite 1 = .ok (.istore 4, 2) := by decide +kernel
theorem dX1_rewrite_3 : decode cX1_rewrite 3 = .ok (.iload 4, 2) := by decide +kernel
theorem dX1_rewrite_5 : decode cX1_rewrite 5 = .ok (.bipush 12, 2) := by decide +kernel
theorem dX1_rewrite_7 : decode cX1_rewrite 7 = .ok (.if_icmp .ge 29, 3) := by decide +kernel
theorem dX1_rewrite_10 : decode cX1_rewrite 10 = .ok (.aload_n 0, 1) := by decide +kernel
theorem dX1_rewrite_11 : decode cX1_rewrite 11 = .ok (.getfield 31, 3) := by decide +kernel
theorem dX1_rewrite_14 : decode cX1_rewrite 14 = .ok (.iload_n 1, 1) := by decide +kernel
theorem dX1_rewrite_15 : decode cX1_rewrite 15 = .ok (.bipush 12, 2) := by decide +kernel
theorem dX1_rewrite_17 : decode cX1_rewrite 17 = .ok (.imul, 1) := by decide +kernel
theorem dX1_rewrite_18 : decode cX1_rewrite 18 = .ok (.iload 4, 2) := by decide +kernel
theorem dX1_rewrite_20 : decode cX1_rewrite 20 = .ok (.iadd, 1) := by decide +kernel
theorem dX1_rewrite_21 : decode cX1_rewrite 21 = .ok (.aload_n 3, 1) := by decide +kernel
theorem dX1_rewrite_22 : decode cX1_rewrite 22 = .ok (.iload 4, 2) := by decide +kernel
theorem dX1_rewrite_24 : decode cX1_rewrite 24 = .ok (.invokestatic 34, 3) := by decide +kernel
theorem dX1_rewrite_27 : decode cX1_rewrite 27 = .ok (.invokestatic 38, 3) := by decide +kernel
theorem dX1_rewrite_30 : decode cX1_rewrite 30 = .ok (.iinc 4 1, 3) := by decide +kernel
theorem dX1_rewrite_33 : decode cX1_rewrite 33 = .ok (.goto (-30), 3) := by decide +kernel
theorem dX1_rewrite_36 : decode cX1_rewrite 36 = .ok (.aload_n 0, 1) := by decide +kernel
theorem dX1_rewrite_37 : decode cX1_rewrite 37 = .ok (.getfield 24, 3) := by decide +kernel
theorem dX1_rewrite_40 : decode cX1_rewrite 40 = .ok (.iload_n 1, 1) := by decide +kernel
theorem dX1_rewrite_41 : decode cX1_rewrite 41 = .ok (.iload_n 2, 1) := by decide +kernel
theorem dX1_rewrite_42 : decode cX1_rewrite 42 = .ok (.invokestatic 38, 3) := by decide +kernel
theorem dX1_rewrite_45 : decode cX1_rewrite 45 = .ok (.aload_n 0, 1) := by decide +kernel
theorem dX1_rewrite_46 : decode cX1_rewrite 46 = .ok (.getfield 28, 3) := by decide +kernel
theorem dX1_rewrite_49 : decode cX1_rewrite 49 = .ok (.iload_n 1, 1) := by decide +kernel
theorem dX1_rewrite_50 : decode cX1_rewrite 50 = .ok (.aload_n 0, 1) := by decide +kernel
theorem dX1_rewrite_51 : decode cX1_rewrite 51 = .ok (.iload_n 1, 1) := by decide +kernel
theorem dX1_rewrite_52 : decode cX1_rewrite 52 = .ok (.invokevirtual 46, 3) := by decide +kernel
theorem dX1_rewrite_55 : decode cX1_rewrite 55 = .ok (.iconst 1, 1) := by decide +kernel
theorem dX1_rewrite_56 : decode cX1_rewrite 56 = .ok (.iadd, 1) := by decide +kernel
theorem dX1_rewrite_57 : decode cX1_rewrite 57 = .ok (.invokestatic 38, 3) := by decide +kernel
theorem dX1_rewrite_60 : decode cX1_rewrite 60 = .ok (.aload_n 0, 1) := by decide +kernel
theorem dX1_rewrite_61 : decode cX1_rewrite 61 = .ok (.dup, 1) := by decide +kernel
theorem dX1_rewrite_62 : decode cX1_rewrite 62 = .ok (.getfield 18, 3) := by decide +kernel
theorem dX1_rewrite_65 : decode cX1_rewrite 65 = .ok (.iconst 1, 1) := by decide +kernel
theorem dX1_rewrite_66 : decode cX1_rewrite 66 = .ok (.iadd, 1) := by decide +kernel
theorem dX1_rewrite_67 : decode cX1_rewrite 67 = .ok (.putfield 18, 3) := by decide +kernel
theorem dX1_rewrite_70 : decode cX1_rewrite 70 = .ok (.return_, 1) := by decide +kernel
theorem dX1_nextRow_0 : decode cX1_nextRow 0 = .ok (.aload_n 0, 1) := by decide +kernel
theorem dX1_nextRow_1 : decode cX1_nextRow 1 = .ok (.aload_n 0, 1) := by decide +kernel
theorem dX1_nextRow_2 : decode cX1_nextRow 2 = .ok (.getfield 15, 3) := by decide +kernel
theorem dX1_nextRow_5 : decode cX1_nextRow 5 = .ok (.invokevirtual 50, 3) := by decide +kernel
theorem dX1_nextRow_8 : decode cX1_nextRow 8 = .ok (.ifCond .eq 10, 3) := by decide +kernel
theorem dX1_nextRow_11 : decode cX1_nextRow 11 = .ok (.aload_n 0, 1) := by decide +kernel
theorem dX1_nextRow_12 : decode cX1_nextRow 12 = .ok (.getfield 15, 3) := by decide +kernel
theorem dX1_nextRow_15 : decode cX1_nextRow 15 = .ok (.goto 4, 3) := by decide +kernel
theorem dX1_nextRow_18 : decode cX1_nextRow 18 = .ok (.iconst 0, 1) := by decide +kernel
theorem dX1_nextRow_19 : decode cX1_nextRow 19 = .ok (.ireturn, 1) := by decide +kernel
theorem dX1_setCursor_0 : decode cX1_setCursor 0 = .ok (.aload_n 0, 1) := by decide +kernel
theorem dX1_setCursor_1 : decode cX1_setCursor 1 = .ok (.iload_n 1, 1) := by decide +kernel
theorem dX1_setCursor_2 : decode cX1_setCursor 2 = .ok (.putfield 15, 3) := by decide +kernel
theorem dX1_setCursor_5 : decode cX1_setCursor 5 = .ok (.return_, 1) := by decide +kernel
theorem dX1_copyValues_0 : decode cX1_copyValues 0 = .ok (.iconst 0, 1) := by decide +kernel
theorem dX1_copyValues_1 : decode cX1_copyValues 1 = .ok (.istore_n 3, 1) := by decide +kernel
theorem dX1_copyValues_2 : decode cX1_copyValues 2 = .ok (.iload_n 3, 1) := by decide +kernel
theorem dX1_copyValues_3 : decode cX1_copyValues 3 = .ok (.bipush 12, 2) := by decide +kernel
theorem dX1_copyValues_5 : decode cX1_copyValues 5 = .ok (.if_icmp .ge 27, 3) := by decide +kernel
theorem dX1_copyValues_8 : decode cX1_copyValues 8 = .ok (.aload_n 2, 1) := by decide +kernel
theorem dX1_copyValues_9 : decode cX1_copyValues 9 = .ok (.iload_n 3, 1) := by decide +kernel
theorem dX1_copyValues_10 : decode cX1_copyValues 10 = .ok (.aload_n 0, 1) := by decide +kernel
theorem dX1_copyValues_11 : decode cX1_copyValues 11 = .ok (.getfield 31, 3) := by decide +kernel
theorem dX1_copyValues_14 : decode cX1_copyValues 14 = .ok (.iload_n 1, 1) := by decide +kernel
theorem dX1_copyValues_15 : decode cX1_copyValues 15 = .ok (.bipush 12, 2) := by decide +kernel
theorem dX1_copyValues_17 : decode cX1_copyValues 17 = .ok (.imul, 1) := by decide +kernel
theorem dX1_copyValues_18 : decode cX1_copyValues 18 = .ok (.iload_n 3, 1) := by decide +kernel
theorem dX1_copyValues_19 : decode cX1_copyValues 19 = .ok (.iadd, 1) := by decide +kernel
theorem dX1_copyValues_20 : decode cX1_copyValues 20 = .ok (.invokestatic 34, 3) := by decide +kernel
theorem dX1_copyValues_23 : decode cX1_copyValues 23 = .ok (.invokestatic 38, 3) := by decide +kernel
theorem dX1_copyValues_26 : decode cX1_copyValues 26 = .ok (.iinc 3 1, 3) := by decide +kernel
theorem dX1_copyValues_29 : decode cX1_copyValues 29 = .ok (.goto (-27), 3) := by decide +kernel
theorem dX1_copyValues_32 : decode cX1_copyValues 32 = .ok (.return_, 1) := by decide +kernel
theorem dX1_takeFrom_0 : decode cX1_takeFrom 0 = .ok (.aload_n 0, 1) := by decide +kernel
theorem dX1_takeFrom_1 : decode cX1_takeFrom 1 = .ok (.aload_n 1, 1) := by decide +kernel
theorem dX1_takeFrom_2 : decode cX1_takeFrom 2 = .ok (.getfield 9, 3) := by decide +kernel
theorem dX1_takeFrom_5 : decode cX1_takeFrom 5 = .ok (.putfield 9, 3) := by decide +kernel
theorem dX1_takeFrom_8 : decode cX1_takeFrom 8 = .ok (.aload_n 0, 1) := by decide +kernel
theorem dX1_takeFrom_9 : decode cX1_takeFrom 9 = .ok (.aload_n 1, 1) := by decide +kernel
theorem dX1_takeFrom_10 : decode cX1_takeFrom 10 = .ok (.getfield 15, 3) := by decide +kernel
theorem dX1_takeFrom_13 : decode cX1_takeFrom 13 = .ok (.putfield 15, 3) := by decide +kernel
theorem dX1_takeFrom_16 : decode cX1_takeFrom 16 = .ok (.aload_n 0, 1) := by decide +kernel
theorem dX1_takeFrom_17 : decode cX1_takeFrom 17 = .ok (.aload_n 1, 1) := by decide +kernel
theorem dX1_takeFrom_18 : decode cX1_takeFrom 18 = .ok (.getfield 18, 3) := by decide +kernel
theorem dX1_takeFrom_21 : decode cX1_takeFrom 21 = .ok (.putfield 18, 3) := by decide +kernel
theorem dX1_takeFrom_24 : decode cX1_takeFrom 24 = .ok (.aload_n 0, 1) := by decide +kernel
theorem dX1_takeFrom_25 : decode cX1_takeFrom 25 = .ok (.aload_n 1, 1) := by decide +kernel
theorem dX1_takeFrom_26 : decode cX1_takeFrom 26 = .ok (.getfield 21, 3) := by decide +kernel
theorem dX1_takeFrom_29 : decode cX1_takeFrom 29 = .ok (.putfield 21, 3) := by decide +kernel
theorem dX1_takeFrom_32 : decode cX1_takeFrom 32 = .ok (.aload_n 1, 1) := by decide +kernel
theorem dX1_takeFrom_33 : decode cX1_takeFrom 33 = .ok (.getfield 24, 3) := by decide +kernel
theorem dX1_takeFrom_36 : decode cX1_takeFrom 36 = .ok (.aload_n 0, 1) := by decide +kernel
theorem dX1_takeFrom_37 : decode cX1_takeFrom 37 = .ok (.getfield 24, 3) := by decide +kernel
theorem dX1_takeFrom_40 : decode cX1_takeFrom 40 = .ok (.invokestatic 54, 3) := by decide +kernel
theorem dX1_takeFrom_43 : decode cX1_takeFrom 43 = .ok (.aload_n 1, 1) := by decide +kernel
theorem dX1_takeFrom_44 : decode cX1_takeFrom 44 = .ok (.getfield 28, 3) := by decide +kernel
theorem dX1_takeFrom_47 : decode cX1_takeFrom 47 = .ok (.aload_n 0, 1) := by decide +kernel
theorem dX1_takeFrom_48 : decode cX1_takeFrom 48 = .ok (.getfield 28, 3) := by decide +kernel
theorem dX1_takeFrom_51 : decode cX1_takeFrom 51 = .ok (.invokestatic 54, 3) := by decide +kernel
theorem dX1_takeFrom_54 : decode cX1_takeFrom 54 = .ok (.aload_n 1, 1) := by decide +kernel
theorem dX1_takeFrom_55 : decode cX1_takeFrom 55 = .ok (.getfield 31, 3) := by decide +kernel
theorem dX1_takeFrom_58 : decode cX1_takeFrom 58 = .ok (.aload_n 0, 1) := by decide +kernel
theorem dX1_takeFrom_59 : decode cX1_takeFrom 59 = .ok (.getfield 31, 3) := by decide +kernel
theorem dX1_takeFrom_62 : decode cX1_takeFrom 62 = .ok (.invokestatic 54, 3) := by decide +kernel
theorem dX1_takeFrom_65 : decode cX1_takeFrom 65 = .ok (.return_, 1) := by decide +kernel
theorem dX1_moveDown_0 : decode cX1_moveDown 0 = .ok (.aload_n 0, 1) := by decide +kernel
theorem dX1_moveDown_1 : decode cX1_moveDown 1 = .ok (.getfield 24, 3) := by decide +kernel
theorem dX1_moveDown_4 : decode cX1_moveDown 4 = .ok (.iload_n 1, 1) := by decide +kernel
theorem dX1_moveDown_5 : decode cX1_moveDown 5 = .ok (.iconst 1, 1) := by decide +kernel
theorem dX1_moveDown_6 : decode cX1_moveDown 6 = .ok (.isub, 1) := by decide +kernel
theorem dX1_moveDown_7 : decode cX1_moveDown 7 = .ok (.aload_n 0, 1) := by decide +kernel
theorem dX1_moveDown_8 : decode cX1_moveDown 8 = .ok (.iload_n 1, 1) := by decide +kernel
theorem dX1_moveDown_9 : decode cX1_moveDown 9 = .ok (.invokevirtual 58, 3) := by decide +kernel
theorem dX1_moveDown_12 : decode cX1_moveDown 12 = .ok (.invokestatic 38, 3) := by decide +kernel
theorem dX1_moveDown_15 : decode cX1_moveDown 15 = .ok (.aload_n 0, 1) := by decide +kernel
theorem dX1_moveDown_16 : decode cX1_moveDown 16 = .ok (.getfield 28, 3) := by decide +kernel
theorem dX1_moveDown_19 : decode cX1_moveDown 19 = .ok (.iload_n 1, 1) := by decide +kernel
theorem dX1_moveDown_20 : decode cX1_moveDown 20 = .ok (.iconst 1, 1) := by decide +kernel
theorem dX1_moveDown_21 : decode cX1_moveDown 21 = .ok (.isub, 1) := by decide +kernel
theorem dX1_moveDown_22 : decode cX1_moveDown 22 = .ok (.aload_n 0, 1) := by decide +kernel
theorem dX1_moveDown_23 : decode cX1_moveDown 23 = .ok (.iload_n 1, 1) := by decide +kernel
theorem dX1_moveDown_24 : decode cX1_moveDown 24 = .ok (.invokevirtual 46, 3) := by decide +kernel
theorem dX1_moveDown_27 : decode cX1_moveDown 27 = .ok (.invokestatic 38, 3) := by decide +kernel
theorem dX1_moveDown_30 : decode cX1_moveDown 30 = .ok (.iconst 0, 1) := by decide +kernel
theorem dX1_moveDown_31 : decode cX1_moveDown 31 = .ok (.istore_n 2, 1) := by decide +kernel
theorem dX1_moveDown_32 : decode cX1_moveDown 32 = .ok (.iload_n 2, 1) := by decide +kernel
theorem dX1_moveDown_33 : decode cX1_moveDown 33 = .ok (.bipush 12, 2) := by decide +kernel
theorem dX1_moveDown_35 : decode cX1_moveDown 35 = .ok (.if_icmp .ge 30, 3) := by decide +kernel
theorem dX1_moveDown_38 : decode cX1_moveDown 38 = .ok (.aload_n 0, 1) := by decide +kernel
theorem dX1_moveDown_39 : decode cX1_moveDown 39 = .ok (.getfield 31, 3) := by decide +kernel
theorem dX1_moveDown_42 : decode cX1_moveDown 42 = .ok (.iload_n 1, 1) := by decide +kernel
theorem dX1_moveDown_43 : decode cX1_moveDown 43 = .ok (.iconst 1, 1) := by decide +kernel
theorem dX1_moveDown_44 : decode cX1_moveDown 44 = .ok (.isub, 1) := by decide +kernel
theorem dX1_moveDown_45 : decode cX1_moveDown 45 = .ok (.bipush 12, 2) := by decide +kernel
theorem dX1_moveDown_47 : decode cX1_moveDown 47 = .ok (.imul, 1) := by decide +kernel
theorem dX1_moveDown_48 : decode cX1_moveDown 48 = .ok (.iload_n 2, 1) := by decide +kernel
theorem dX1_moveDown_49 : decode cX1_moveDown 49 = .ok (.iadd, 1) := by decide +kernel
theorem dX1_moveDown_50 : decode cX1_moveDown 50 = .ok (.aload_n 0, 1) := by decide +kernel
theorem dX1_moveDown_51 : decode cX1_moveDown 51 = .ok (.iload_n 1, 1) := by decide +kernel
theorem dX1_moveDown_52 : decode cX1_moveDown 52 = .ok (.iload_n 2, 1) := by decide +kernel
theorem dX1_moveDown_53 : decode cX1_moveDown 53 = .ok (.invokevirtual 61, 3) := by decide +kernel
theorem dX1_moveDown_56 : decode cX1_moveDown 56 = .ok (.invokestatic 38, 3) := by decide +kernel
theorem dX1_moveDown_59 : decode cX1_moveDown 59 = .ok (.iinc 2 1, 3) := by decide +kernel
theorem dX1_moveDown_62 : decode cX1_moveDown 62 = .ok (.goto (-30), 3) := by decide +kernel
theorem dX1_moveDown_65 : decode cX1_moveDown 65 = .ok (.return_, 1) := by decide +kernel
theorem dX2_init_0 : decode cX2_init 0 = .ok (.aload_n 0, 1) := by decide +kernel
theorem dX2_init_1 : decode cX2_init 1 = .ok (.invokespecial 3, 3) := by decide +kernel
theorem dX2_init_4 : decode cX2_init 4 = .ok (.aload_n 0, 1) := by decide +kernel
theorem dX2_init_5 : decode cX2_init 5 = .ok (.iconst 1, 1) := by decide +kernel
theorem dX2_init_6 : decode cX2_init 6 = .ok (.putfield 9, 3) := by decide +kernel
theorem dX2_init_9 : decode cX2_init 9 = .ok (.aload_n 0, 1) := by decide +kernel
theorem dX2_init_10 : decode cX2_init 10 = .ok (.iconst 0, 1) := by decide +kernel
theorem dX2_init_11 : decode cX2_init 11 = .ok (.putfield 15, 3) := by decide +kernel
theorem dX2_init_14 : decode cX2_init 14 = .ok (.aload_n 0, 1) := by decide +kernel
theorem dX2_init_15 : decode cX2_init 15 = .ok (.bipush 12, 2) := by decide +kernel
theorem dX2_init_17 : decode cX2_init 17 = .ok (.newarray .int, 2) := by decide +kernel
theorem dX2_init_19 : decode cX2_init 19 = .ok (.putfield 18, 3) := by decide +kernel
theorem dX2_init_22 : decode cX2_init 22 = .ok (.aload_n 0, 1) := by decide +kernel
theorem dX2_init_23 : decode cX2_init 23 = .ok (.bipush 12, 2) := by decide +kernel
theorem dX2_init_25 : decode cX2_init 25 = .ok (.newarray .int, 2) := by decide +kernel
theorem dX2_init_27 : decode cX2_init 27 = .ok (.putfield 22, 3) := by decide +kernel
theorem dX2_init_30 : decode cX2_init 30 = .ok (.aload_n 0, 1) := by decide +kernel
theorem dX2_init_31 : decode cX2_init 31 = .ok (.bipush 12, 2) := by decide +kernel
theorem dX2_init_33 : decode cX2_init 33 = .ok (.newarray .int, 2) := by decide +kernel
theorem dX2_init_35 : decode cX2_init 35 = .ok (.putfield 25, 3) := by decide +kernel
theorem dX2_init_38 : decode cX2_init 38 = .ok (.aload_n 0, 1) := by decide +kernel
theorem dX2_init_39 : decode cX2_init 39 = .ok (.bipush 12, 2) := by decide +kernel
theorem dX2_init_41 : decode cX2_init 41 = .ok (.newarray .int, 2) := by decide +kernel
theorem dX2_init_43 : decode cX2_init 43 = .ok (.putfield 28, 3) := by decide +kernel
theorem dX2_init_46 : decode cX2_init 46 = .ok (.aload_n 0, 1) := by decide +kernel
theorem dX2_init_47 : decode cX2_init 47 = .ok (.bipush 12, 2) := by decide +kernel
theorem dX2_init_49 : decode cX2_init 49 = .ok (.newarray .int, 2) := by decide +kernel
theorem dX2_init_51 : decode cX2_init 51 = .ok (.putfield 31, 3) := by decide +kernel
theorem dX2_init_54 : decode cX2_init 54 = .ok (.aload_n 0, 1) := by decide +kernel
theorem dX2_init_55 : decode cX2_init 55 = .ok (.bipush 96, 2) := by decide +kernel
theorem dX2_init_57 : decode cX2_init 57 = .ok (.newarray .int, 2) := by decide +kernel
theorem dX2_init_59 : decode cX2_init 59 = .ok (.putfield 34, 3) := by decide +kernel
theorem dX2_init_62 : decode cX2_init 62 = .ok (.aload_n 0, 1) := by decide +kernel
theorem dX2_init_63 : decode cX2_init 63 = .ok (.bipush 96, 2) := by decide +kernel
theorem dX2_init_65 : decode cX2_init 65 = .ok (.newarray .int, 2) := by decide +kernel
theorem dX2_init_67 : decode cX2_init 67 = .ok (.putfield 37, 3) := by decide +kernel
theorem dX2_init_70 : decode cX2_init 70 = .ok (.return_, 1) := by decide +kernel
theorem dX2_size_0 : decode cX2_size 0 = .ok (.aload_n 0, 1) := by decide +kernel
theorem dX2_size_1 : decode cX2_size 1 = .ok (.getfield 9, 3) := by decide +kernel
theorem dX2_size_4 : decode cX2_size 4 = .ok (.ireturn, 1) := by decide +kernel
theorem dX2_mark_0 : decode cX2_mark 0 = .ok (.aload_n 0, 1) := by decide +kernel
theorem dX2_mark_1 : decode cX2_mark 1 = .ok (.getfield 15, 3) := by decide +kernel
theorem dX2_mark_4 : decode cX2_mark 4 = .ok (.ireturn, 1) := by decide +kernel
theorem dX2_newest_0 : decode cX2_newest 0 = .ok (.aload_n 0, 1) := by decide +kernel
theorem dX2_newest_1 : decode cX2_newest 1 = .ok (.getfield 9, 3) := by decide +kernel
theorem dX2_newest_4 : decode cX2_newest 4 = .ok (.iconst 1, 1) := by decide +kernel
theorem dX2_newest_5 : decode cX2_newest 5 = .ok (.isub, 1) := by decide +kernel
theorem dX2_newest_6 : decode cX2_newest 6 = .ok (.ireturn, 1) := by decide +kernel
theorem dX2_isThere_0 : decode cX2_isThere 0 = .ok (.iload_n 1, 1) := by decide +kernel
theorem dX2_isThere_1 : decode cX2_isThere 1 = .ok (.ifCond .lt 15, 3) := by decide +kernel
theorem dX2_isThere_4 : decode cX2_isThere 4 = .ok (.iload_n 1, 1) := by decide +kernel
theorem dX2_isThere_5 : decode cX2_isThere 5 = .ok (.aload_n 0, 1) := by decide +kernel
theorem dX2_isThere_6 : decode cX2_isThere 6 = .ok (.getfield 9, 3) := by decide +kernel
theorem dX2_isThere_9 : decode cX2_isThere 9 = .ok (.if_icmp .ge 7, 3) := by decide +kernel
theorem dX2_isThere_12 : decode cX2_isThere 12 = .ok (.iconst 1, 1) := by decide +kernel
theorem dX2_isThere_13 : decode cX2_isThere 13 = .ok (.goto 4, 3) := by decide +kernel
theorem dX2_isThere_16 : decode cX2_isThere 16 = .ok (.iconst 0, 1) := by decide +kernel
theorem dX2_isThere_17 : decode cX2_isThere 17 = .ok (.ireturn, 1) := by decide +kernel
theorem dX2_isRetired_0 : decode cX2_isRetired 0 = .ok (.iload_n 1, 1) := by decide +kernel
theorem dX2_isRetired_1 : decode cX2_isRetired 1 = .ok (.aload_n 0, 1) := by decide +kernel
theorem dX2_isRetired_2 : decode cX2_isRetired 2 = .ok (.getfield 15, 3) := by decide +kernel
theorem dX2_isRetired_5 : decode cX2_isRetired 5 = .ok (.if_icmp .ge 7, 3) := by decide +kernel
theorem dX2_isRetired_8 : decode cX2_isRetired 8 = .ok (.iconst 1, 1) := by decide +kernel
theorem dX2_isRetired_9 : decode cX2_isRetired 9 = .ok (.goto 4, 3) := by decide +kernel
theorem dX2_isRetired_12 : decode cX2_isRetired 12 = .ok (.iconst 0, 1) := by decide +kernel
theorem dX2_isRetired_13 : decode cX2_isRetired 13 = .ok (.ireturn, 1) := by decide +kernel
theorem dX2_isUsable_0 : decode cX2_isUsable 0 = .ok (.aload_n 0, 1) := by decide +kernel
theorem dX2_isUsable_1 : decode cX2_isUsable 1 = .ok (.iload_n 1, 1) := by decide +kernel
theorem dX2_isUsable_2 : decode cX2_isUsable 2 = .ok (.invokevirtual 40, 3) := by decide +kernel
theorem dX2_isUsable_5 : decode cX2_isUsable 5 = .ok (.ifCond .eq 15, 3) := by decide +kernel
theorem dX2_isUsable_8 : decode cX2_isUsable 8 = .ok (.aload_n 0, 1) := by decide +kernel
theorem dX2_isUsable_9 : decode cX2_isUsable 9 = .ok (.iload_n 1, 1) := by decide +kernel
theorem dX2_isUsable_10 : decode cX2_isUsable 10 = .ok (.invokevirtual 44, 3) := by decide +kernel
theorem dX2_isUsable_13 : decode cX2_isUsable 13 = .ok (.ifCond .ne 7, 3) := by decide +kernel
theorem dX2_isUsable_16 : decode cX2_isUsable 16 = .ok (.iconst 1, 1) := by decide +kernel
theorem dX2_isUsable_17 : decode cX2_isUsable 17 = .ok (.goto 4, 3) := by decide +kernel
theorem dX2_isUsable_20 : decode cX2_isUsable 20 = .ok (.iconst 0, 1) := by decide +kernel
theorem dX2_isUsable_21 : decode cX2_isUsable 21 = .ok (.ireturn, 1) := by decide +kernel
theorem dX2_width_0 : decode cX2_width 0 = .ok (.aload_n 0, 1) := by decide +kernel
theorem dX2_width_1 : decode cX2_width 1 = .ok (.getfield 31, 3) := by decide +kernel
theorem dX2_width_4 : decode cX2_width 4 = .ok (.iload_n 1, 1) := by decide +kernel
theorem dX2_width_5 : decode cX2_width 5 = .ok (.invokestatic 47, 3) := by decide +kernel
theorem dX2_width_8 : decode cX2_width 8 = .ok (.ireturn, 1) := by decide +kernel
theorem dX2_changeOf_0 : decode cX2_changeOf 0 = .ok (.aload_n 0, 1) := by decide +kernel
theorem dX2_changeOf_1 : decode cX2_changeOf 1 = .ok (.getfield 18, 3) := by decide +kernel
theorem dX2_changeOf_4 : decode cX2_changeOf 4 = .ok (.iload_n 1, 1) := by decide +kernel
theorem dX2_changeOf_5 : decode cX2_changeOf 5 = .ok (.invokestatic 47, 3) := by decide +kernel
theorem dX2_changeOf_8 : decode cX2_changeOf 8 = .ok (.ireturn, 1) := by decide +kernel
theorem dX2_columnAt_0 : decode cX2_columnAt 0 = .ok (.aload_n 0, 1) := by decide +kernel
theorem dX2_columnAt_1 : decode cX2_columnAt 1 = .ok (.getfield 34, 3) := by decide +kernel
theorem dX2_columnAt_4 : decode cX2_columnAt 4 = .ok (.iload_n 1, 1) := by decide +kernel
theorem dX2_columnAt_5 : decode cX2_columnAt 5 = .ok (.bipush 8, 2) := by decide +kernel
theorem dX2_columnAt_7 : decode cX2_columnAt 7 = .ok (.imul, 1) := by decide +kernel
theorem dX2_columnAt_8 : decode cX2_columnAt 8 = .ok (.iload_n 2, 1) := by decide +kernel
theorem dX2_columnAt_9 : decode cX2_columnAt 9 = .ok (.iadd, 1) := by decide +kernel
theorem dX2_columnAt_10 : decode cX2_columnAt 10 = .ok (.invokestatic 47, 3) := by decide +kernel
theorem dX2_columnAt_13 : decode cX2_columnAt 13 = .ok (.ireturn, 1) := by decide +kernel
theorem dX2_columnOfLetter_0 : decode cX2_columnOfLetter 0 = .ok (.aload_n 0, 1) := by decide +kernel
theorem dX2_columnOfLetter_1 : decode cX2_columnOfLetter 1 = .ok (.iload_n 1, 1) := by decide +kernel
theorem dX2_columnOfLetter_2 : decode cX2_columnOfLetter 2 = .ok (.iload_n 2, 1) := by decide +kernel
theorem dX2_columnOfLetter_3 : decode cX2_columnOfLetter 3 = .ok (.invokevirtual 51, 3) := by decide +kernel
theorem dX2_columnOfLetter_6 : decode cX2_columnOfLetter 6 = .ok (.istore_n 3, 1) := by decide +kernel
theorem dX2_columnOfLetter_7 : decode cX2_columnOfLetter 7 = .ok (.iload_n 3, 1) := by decide +kernel
theorem dX2_columnOfLetter_8 : decode cX2_columnOfLetter 8 = .ok (.iconst (-1), 1) := by decide +kernel
theorem dX2_columnOfLetter_9 : decode cX2_columnOfLetter 9 = .ok (.if_icmp .ne 7, 3) := by decide +kernel
theorem dX2_columnOfLetter_12 : decode cX2_columnOfLetter 12 = .ok (.iconst (-1), 1) := by decide +kernel
theorem dX2_columnOfLetter_13 : decode cX2_columnOfLetter 13 = .ok (.goto 9, 3) := by decide +kernel
theorem dX2_columnOfLetter_16 : decode cX2_columnOfLetter 16 = .ok (.aload_n 0, 1) := by decide +kernel
theorem dX2_columnOfLetter_17 : decode cX2_columnOfLetter 17 = .ok (.iload_n 1, 1) := by decide +kernel
theorem dX2_columnOfLetter_18 : decode cX2_columnOfLetter 18 = .ok (.iload_n 3, 1) := by decide +kernel
theorem dX2_columnOfLetter_19 : decode cX2_columnOfLetter 19 = .ok (.invokevirtual 55, 3) := by decide +kernel
theorem dX2_columnOfLetter_22 : decode cX2_columnOfLetter 22 = .ok (.ireturn, 1) := by decide +kernel
theorem dX2_hasColumn_0 : decode cX2_hasColumn 0 = .ok (.aload_n 0, 1) := by decide +kernel
theorem dX2_hasColumn_1 : decode cX2_hasColumn 1 = .ok (.iload_n 1, 1) := by decide +kernel
theorem dX2_hasColumn_2 : decode cX2_hasColumn 2 = .ok (.iload_n 2, 1) := by decide +kernel
theorem dX2_hasColumn_3 : decode cX2_hasColumn 3 = .ok (.invokevirtual 58, 3) := by decide +kernel
theorem dX2_hasColumn_6 : decode cX2_hasColumn 6 = .ok (.iconst (-1), 1) := by decide +kernel
theorem dX2_hasColumn_7 : decode cX2_hasColumn 7 = .ok (.if_icmp .eq 7, 3) := by decide +kernel
theorem dX2_hasColumn_10 : decode cX2_hasColumn 10 = .ok (.iconst 1, 1) := by decide +kernel
theorem dX2_hasColumn_11 : decode cX2_hasColumn 11 = .ok (.goto 4, 3) := by decide +kernel
theorem dX2_hasColumn_14 : decode cX2_hasColumn 14 = .ok (.iconst 0, 1) := by decide +kernel
theorem dX2_hasColumn_15 : decode cX2_hasColumn 15 = .ok (.ireturn, 1) := by decide +kernel
theorem dX2_letterMask_0 : decode cX2_letterMask 0 = .ok (.iconst 0, 1) := by decide +kernel
theorem dX2_letterMask_1 : decode cX2_letterMask 1 = .ok (.istore_n 2, 1) := by decide +kernel
theorem dX2_letterMask_2 : decode cX2_letterMask 2 = .ok (.iconst 0, 1) := by decide +kernel
theorem dX2_letterMask_3 : decode cX2_letterMask 3 = .ok (.istore_n 3, 1) := by decide +kernel
theorem dX2_letterMask_4 : decode cX2_letterMask 4 = .ok (.iload_n 3, 1) := by decide +kernel
theorem dX2_letterMask_5 : decode cX2_letterMask 5 = .ok (.bipush 8, 2) := by decide +kernel
theorem dX2_letterMask_7 : decode cX2_letterMask 7 = .ok (.if_icmp .ge 25, 3) := by decide +kernel
theorem dX2_letterMask_10 : decode cX2_letterMask 10 = .ok (.aload_n 0, 1) := by decide +kernel
theorem dX2_letterMask_11 : decode cX2_letterMask 11 = .ok (.iload_n 1, 1) := by decide +kernel
theorem dX2_letterMask_12 : decode cX2_letterMask 12 = .ok (.iload_n 3, 1) := by decide +kernel
theorem dX2_letterMask_13 : decode cX2_letterMask 13 = .ok (.invokevirtual 51, 3) := by decide +kernel
theorem dX2_letterMask_16 : decode cX2_letterMask 16 = .ok (.iconst (-1), 1) := by decide +kernel
theorem dX2_letterMask_17 : decode cX2_letterMask 17 = .ok (.if_icmp .eq 9, 3) := by decide +kernel
theorem dX2_letterMask_20 : decode cX2_letterMask 20 = .ok (.iload_n 2, 1) := by decide +kernel
theorem dX2_letterMask_21 : decode cX2_letterMask 21 = .ok (.iconst 1, 1) := by decide +kernel
theorem dX2_letterMask_22 : decode cX2_letterMask 22 = .ok (.iload_n 3, 1) := by decide +kernel
theorem dX2_letterMask_23 : decode cX2_letterMask 23 = .ok (.ishl, 1) := by decide +kernel
theorem dX2_letterMask_24 : decode cX2_letterMask 24 = .ok (.ior, 1) := by decide +kernel
theorem dX2_letterMask_25 : decode cX2_letterMask 25 = .ok (.istore_n 2, 1) := by decide +kernel
theorem dX2_letterMask_26 : decode cX2_letterMask 26 = .ok (.iinc 3 1, 3) := by decide +kernel
theorem dX2_letterMask_29 : decode cX2_letterMask 29 = .ok (.goto (-25), 3) := by decide +kernel
theorem dX2_letterMask_32 : decode cX2_letterMask 32 = .ok (.iload_n 2, 1) := by decide +kernel
theorem dX2_letterMask_33 : decode cX2_letterMask 33 = .ok (.ireturn, 1) := by decide +kernel
theorem dX2_columnProperty_0 : decode cX2_columnProperty 0 = .ok (.iload_n 2, 1) := by decide +kernel
theorem dX2_columnProperty_1 : decode cX2_columnProperty 1 = .ok (.ifCond .lt 12, 3) := by decide +kernel
theorem dX2_columnProperty_4 : decode cX2_columnProperty 4 = .ok (.iload_n 2, 1) := by decide +kernel
theorem dX2_columnProperty_5 : decode cX2_columnProperty 5 = .ok (.aload_n 0, 1) := by decide +kernel
theorem dX2_columnProperty_6 : decode cX2_columnProperty 6 = .ok (.iload_n 1, 1) := by decide +kernel
theorem dX2_columnProperty_7 : decode cX2_columnProperty 7 = .ok (.invokevirtual 61, 3) := by decide +kernel
theorem dX2_columnProperty_10 : decode cX2_columnProperty 10 = .ok (.if_icmp .lt 5, 3) := by decide +kernel
theorem dX2_columnProperty_13 : decode cX2_columnProperty 13 = .ok (.iconst (-1), 1) := by decide +kernel
theorem dX2_columnProperty_14 : decode cX2_columnProperty 14 = .ok (.ireturn, 1) := by decide +kernel
theorem dX2_columnProperty_15 : decode cX2_columnProperty 15 = .ok (.iload_n 3, 1) := by decide +kernel
theorem dX2_columnProperty_16 : decode cX2_columnProperty 16 = .ok (.lookupswitch 42 #[(0, 28), (1, 35)], 28) := by decide +kernel
theorem dX2_columnProperty_44 : decode cX2_columnProperty 44 = .ok (.aload_n 0, 1) := by decide +kernel
theorem dX2_columnProperty_45 : decode cX2_columnProperty 45 = .ok (.iload_n 1, 1) := by decide +kernel
theorem dX2_columnProperty_46 : decode cX2_columnProperty 46 = .ok (.iload_n 2, 1) := by decide +kernel
theorem dX2_columnProperty_47 : decode cX2_columnProperty 47 = .ok (.invokevirtual 65, 3) := by decide +kernel
theorem dX2_columnProperty_50 : decode cX2_columnProperty 50 = .ok (.ireturn, 1) := by decide +kernel
theorem dX2_columnProperty_51 : decode cX2_columnProperty 51 = .ok (.aload_n 0, 1) := by decide +kernel
theorem dX2_columnProperty_52 : decode cX2_columnProperty 52 = .ok (.iload_n 1, 1) := by decide +kernel
theorem dX2_columnProperty_53 : decode cX2_columnProperty 53 = .ok (.iload_n 2, 1) := by decide +kernel
theorem dX2_columnProperty_54 : decode cX2_columnProperty 54 = .ok (.invokevirtual 55, 3) := by decide +kernel
theorem dX2_columnProperty_57 : decode cX2_columnProperty 57 = .ok (.ireturn, 1) := by decide +kernel
theorem dX2_columnProperty_58 : decode cX2_columnProperty 58 = .ok (.aload_n 0, 1) := by decide +kernel
theorem dX2_columnProperty_59 : decode cX2_columnProperty 59 = .ok (.aload_n 0, 1) := by decide +kernel
theorem dX2_columnProperty_60 : decode cX2_columnProperty 60 = .ok (.invokevirtual 68, 3) := by decide +kernel
theorem dX2_columnProperty_63 : decode cX2_columnProperty 63 = .ok (.aload_n 0, 1) := by decide +kernel
theorem dX2_columnProperty_64 : decode cX2_columnProperty 64 = .ok (.iload_n 1, 1) := by decide +kernel
theorem dX2_columnProperty_65 : decode cX2_columnProperty 65 = .ok (.iload_n 2, 1) := by decide +kernel
theorem dX2_columnProperty_66 : decode cX2_columnProperty 66 = .ok (.invokevirtual 55, 3) := by decide +kernel
theorem dX2_columnProperty_69 : decode cX2_columnProperty 69 = .ok (.invokevirtual 58, 3) := by decide +kernel
theorem dX2_columnProperty_72 : decode cX2_columnProperty 72 = .ok (.ireturn, 1) := by decide +kernel
theorem dX2_canAdd_0 : decode cX2_canAdd 0 = .ok (.aload_n 0, 1) := by decide +kernel
theorem dX2_canAdd_1 : decode cX2_canAdd 1 = .ok (.invokevirtual 72, 3) := by decide +kernel
theorem dX2_canAdd_4 : decode cX2_canAdd 4 = .ok (.ifCond .ne 15, 3) := by decide +kernel
theorem dX2_canAdd_7 : decode cX2_canAdd 7 = .ok (.aload_n 0, 1) := by decide +kernel
theorem dX2_canAdd_8 : decode cX2_canAdd 8 = .ok (.iload_n 1, 1) := by decide +kernel
theorem dX2_canAdd_9 : decode cX2_canAdd 9 = .ok (.invokevirtual 76, 3) := by decide +kernel
theorem dX2_canAdd_12 : decode cX2_canAdd 12 = .ok (.ifCond .ne 7, 3) := by decide +kernel
theorem dX2_canAdd_15 : decode cX2_canAdd 15 = .ok (.iconst 1, 1) := by decide +kernel
theorem dX2_canAdd_16 : decode cX2_canAdd 16 = .ok (.goto 4, 3) := by decide +kernel
theorem dX2_canAdd_19 : decode cX2_canAdd 19 = .ok (.iconst 0, 1) := by decide +kernel
theorem dX2_canAdd_20 : decode cX2_canAdd 20 = .ok (.ireturn, 1) := by decide +kernel
theorem dX2_canAddFrom_0 : decode cX2_canAddFrom 0 = .ok (.aload_n 0, 1) := by decide +kernel
theorem dX2_canAddFrom_1 : decode cX2_canAddFrom 1 = .ok (.invokevirtual 72, 3) := by decide +kernel
theorem dX2_canAddFrom_4 : decode cX2_canAddFrom 4 = .ok (.ifCond .ne 36, 3) := by decide +kernel
theorem dX2_canAddFrom_7 : decode cX2_canAddFrom 7 = .ok (.aload_n 0, 1) := by decide +kernel
theorem dX2_canAddFrom_8 : decode cX2_canAddFrom 8 = .ok (.iload_n 1, 1) := by decide +kernel
theorem dX2_canAddFrom_9 : decode cX2_canAddFrom 9 = .ok (.invokevirtual 76, 3) := by decide +kernel
theorem dX2_canAddFrom_12 : decode cX2_canAddFrom 12 = .ok (.ifCond .ne 28, 3) := by decide +kernel
theorem dX2_canAddFrom_15 : decode cX2_canAddFrom 15 = .ok (.aload_n 0, 1) := by decide +kernel
theorem dX2_canAddFrom_16 : decode cX2_canAddFrom 16 = .ok (.iload_n 2, 1) := by decide +kernel
theorem dX2_canAddFrom_17 : decode cX2_canAddFrom 17 = .ok (.invokevirtual 76, 3) := by decide +kernel
theorem dX2_canAddFrom_20 : decode cX2_canAddFrom 20 = .ok (.ifCond .eq 20, 3) := by decide +kernel
theorem dX2_canAddFrom_23 : decode cX2_canAddFrom 23 = .ok (.iload_n 3, 1) := by decide +kernel
theorem dX2_canAddFrom_24 : decode cX2_canAddFrom 24 = .ok (.iconst (-1), 1) := by decide +kernel
theorem dX2_canAddFrom_25 : decode cX2_canAddFrom 25 = .ok (.if_icmp .eq 11, 3) := by decide +kernel
theorem dX2_canAddFrom_28 : decode cX2_canAddFrom 28 = .ok (.aload_n 0, 1) := by decide +kernel
theorem dX2_canAddFrom_29 : decode cX2_canAddFrom 29 = .ok (.iload_n 3, 1) := by decide +kernel
theorem dX2_canAddFrom_30 : decode cX2_canAddFrom 30 = .ok (.invokevirtual 76, 3) := by decide +kernel
theorem dX2_canAddFrom_33 : decode cX2_canAddFrom 33 = .ok (.ifCond .eq 7, 3) := by decide +kernel
theorem dX2_canAddFrom_36 : decode cX2_canAddFrom 36 = .ok (.iconst 1, 1) := by decide +kernel
theorem dX2_canAddFrom_37 : decode cX2_canAddFrom 37 = .ok (.goto 4, 3) := by decide +kernel
theorem dX2_canAddFrom_40 : decode cX2_canAddFrom 40 = .ok (.iconst 0, 1) := by decide +kernel
theorem dX2_canAddFrom_41 : decode cX2_canAddFrom 41 = .ok (.ireturn, 1) := by decide +kernel
theorem dX2_canDrop_0 : decode cX2_canDrop 0 = .ok (.aload_n 0, 1) := by decide +kernel
theorem dX2_canDrop_1 : decode cX2_canDrop 1 = .ok (.invokevirtual 72, 3) := by decide +kernel
theorem dX2_canDrop_4 : decode cX2_canDrop 4 = .ok (.ifCond .ne 15, 3) := by decide +kernel
theorem dX2_canDrop_7 : decode cX2_canDrop 7 = .ok (.aload_n 0, 1) := by decide +kernel
theorem dX2_canDrop_8 : decode cX2_canDrop 8 = .ok (.iload_n 1, 1) := by decide +kernel
theorem dX2_canDrop_9 : decode cX2_canDrop 9 = .ok (.invokevirtual 76, 3) := by decide +kernel
theorem dX2_canDrop_12 : decode cX2_canDrop 12 = .ok (.ifCond .eq 7, 3) := by decide +kernel
theorem dX2_canDrop_15 : decode cX2_canDrop 15 = .ok (.iconst 1, 1) := by decide +kernel
theorem dX2_canDrop_16 : decode cX2_canDrop 16 = .ok (.goto 4, 3) := by decide +kernel
theorem dX2_canDrop_19 : decode cX2_canDrop 19 = .ok (.iconst 0, 1) := by decide +kernel
theorem dX2_canDrop_20 : decode cX2_canDrop 20 = .ok (.ireturn, 1) := by decide +kernel
theorem dX2_canRename_0 : decode cX2_canRename 0 = .ok (.aload_n 0, 1) := by decide +kernel
theorem dX2_canRename_1 : decode cX2_canRename 1 = .ok (.invokevirtual 72, 3) := by decide +kernel
theorem dX2_canRename_4 : decode cX2_canRename 4 = .ok (.ifCond .ne 23, 3) := by decide +kernel
theorem dX2_canRename_7 : decode cX2_canRename 7 = .ok (.aload_n 0, 1) := by decide +kernel
theorem dX2_canRename_8 : decode cX2_canRename 8 = .ok (.iload_n 1, 1) := by decide +kernel
theorem dX2_canRename_9 : decode cX2_canRename 9 = .ok (.invokevirtual 76, 3) := by decide +kernel
theorem dX2_canRename_12 : decode cX2_canRename 12 = .ok (.ifCond .eq 15, 3) := by decide +kernel
theorem dX2_canRename_15 : decode cX2_canRename 15 = .ok (.aload_n 0, 1) := by decide +kernel
theorem dX2_canRename_16 : decode cX2_canRename 16 = .ok (.iload_n 2, 1) := by decide +kernel
theorem dX2_canRename_17 : decode cX2_canRename 17 = .ok (.invokevirtual 76, 3) := by decide +kernel
theorem dX2_canRename_20 : decode cX2_canRename 20 = .ok (.ifCond .ne 7, 3) := by decide +kernel
theorem dX2_canRename_23 : decode cX2_canRename 23 = .ok (.iconst 1, 1) := by decide +kernel
theorem dX2_canRename_24 : decode cX2_canRename 24 = .ok (.goto 4, 3) := by decide +kernel
theorem dX2_canRename_27 : decode cX2_canRename 27 = .ok (.iconst 0, 1) := by decide +kernel
theorem dX2_canRename_28 : decode cX2_canRename 28 = .ok (.ireturn, 1) := by decide +kernel
theorem dX2_extendByNumber_0 : decode cX2_extendByNumber 0 = .ok (.aload_n 0, 1) := by decide +kernel
theorem dX2_extendByNumber_1 : decode cX2_extendByNumber 1 = .ok (.iconst 1, 1) := by decide +kernel
theorem dX2_extendByNumber_2 : decode cX2_extendByNumber 2 = .ok (.invokevirtual 79, 3) := by decide +kernel
theorem dX2_extendByNumber_5 : decode cX2_extendByNumber 5 = .ok (.istore_n 3, 1) := by decide +kernel
theorem dX2_extendByNumber_6 : decode cX2_extendByNumber 6 = .ok (.aload_n 0, 1) := by decide +kernel
theorem dX2_extendByNumber_7 : decode cX2_extendByNumber 7 = .ok (.getfield 22, 3) := by decide +kernel
theorem dX2_extendByNumber_10 : decode cX2_extendByNumber 10 = .ok (.iload_n 3, 1) := by decide +kernel
theorem dX2_extendByNumber_11 : decode cX2_extendByNumber 11 = .ok (.iload_n 2, 1) := by decide +kernel
theorem dX2_extendByNumber_12 : decode cX2_extendByNumber 12 = .ok (.invokestatic 82, 3) := by decide +kernel
theorem dX2_extendByNumber_15 : decode cX2_extendByNumber 15 = .ok (.aload_n 0, 1) := by decide +kernel
theorem dX2_extendByNumber_16 : decode cX2_extendByNumber 16 = .ok (.iload_n 3, 1) := by decide +kernel
theorem dX2_extendByNumber_17 : decode cX2_extendByNumber 17 = .ok (.iload_n 1, 1) := by decide +kernel
theorem dX2_extendByNumber_18 : decode cX2_extendByNumber 18 = .ok (.invokevirtual 86, 3) := by decide +kernel
theorem dX2_extendByNumber_21 : decode cX2_extendByNumber 21 = .ok (.iload_n 3, 1) := by decide +kernel
theorem dX2_extendByNumber_22 : decode cX2_extendByNumber 22 = .ok (.ireturn, 1) := by decide +kernel
theorem dX2_extendFrom_0 : decode cX2_extendFrom 0 = .ok (.aload_n 0, 1) := by decide +kernel
theorem dX2_extendFrom_1 : decode cX2_extendFrom 1 = .ok (.aload_n 0, 1) := by decide +kernel
theorem dX2_extendFrom_2 : decode cX2_extendFrom 2 = .ok (.invokevirtual 68, 3) := by decide +kernel
theorem dX2_extendFrom_5 : decode cX2_extendFrom 5 = .ok (.iload_n 2, 1) := by decide +kernel
theorem dX2_extendFrom_6 : decode cX2_extendFrom 6 = .ok (.invokevirtual 90, 3) := by decide +kernel
theorem dX2_extendFrom_9 : decode cX2_extendFrom 9 = .ok (.istore 4, 2) := by decide +kernel
theorem dX2_extendFrom_11 : decode cX2_extendFrom 11 = .ok (.aload_n 0, 1) := by decide +kernel
theorem dX2_extendFrom_12 : decode cX2_extendFrom 12 = .ok (.aload_n 0, 1) := by decide +kernel
theorem dX2_extendFrom_13 : decode cX2_extendFrom 13 = .ok (.invokevirtual 68, 3) := by decide +kernel
theorem dX2_extendFrom_16 : decode cX2_extendFrom 16 = .ok (.iload_n 3, 1) := by decide +kernel
theorem dX2_extendFrom_17 : decode cX2_extendFrom 17 = .ok (.invokevirtual 90, 3) := by decide +kernel
theorem dX2_extendFrom_20 : decode cX2_extendFrom 20 = .ok (.istore 5, 2) := by decide +kernel
theorem dX2_extendFrom_22 : decode cX2_extendFrom 22 = .ok (.aload_n 0, 1) := by decide +kernel
theorem dX2_extendFrom_23 : decode cX2_extendFrom 23 = .ok (.iload_n 3, 1) := by decide +kernel
theorem dX2_extendFrom_24 : decode cX2_extendFrom 24 = .ok (.iconst (-1), 1) := by decide +kernel
theorem dX2_extendFrom_25 : decode cX2_extendFrom 25 = .ok (.if_icmp .ne 7, 3) := by decide +kernel
theorem dX2_extendFrom_28 : decode cX2_extendFrom 28 = .ok (.iconst 2, 1) := by decide +kernel
theorem dX2_extendFrom_29 : decode cX2_extendFrom 29 = .ok (.goto 4, 3) := by decide +kernel
theorem dX2_extendFrom_32 : decode cX2_extendFrom 32 = .ok (.iconst 3, 1) := by decide +kernel
theorem dX2_extendFrom_33 : decode cX2_extendFrom 33 = .ok (.invokevirtual 79, 3) := by decide +kernel
theorem dX2_extendFrom_36 : decode cX2_extendFrom 36 = .ok (.istore 6, 2) := by decide +kernel
theorem dX2_extendFrom_38 : decode cX2_extendFrom 38 = .ok (.aload_n 0, 1) := by decide +kernel
theorem dX2_extendFrom_39 : decode cX2_extendFrom 39 = .ok (.getfield 25, 3) := by decide +kernel
theorem dX2_extendFrom_42 : decode cX2_extendFrom 42 = .ok (.iload 6, 2) := by decide +kernel
theorem dX2_extendFrom_44 : decode cX2_extendFrom 44 = .ok (.iload 4, 2) := by decide +kernel
theorem dX2_extendFrom_46 : decode cX2_extendFrom 46 = .ok (.invokestatic 82, 3) := by decide +kernel
theorem dX2_extendFrom_49 : decode cX2_extendFrom 49 = .ok (.aload_n 0, 1) := by decide +kernel
theorem dX2_extendFrom_50 : decode cX2_extendFrom 50 = .ok (.getfield 28, 3) := by decide +kernel
theorem dX2_extendFrom_53 : decode cX2_extendFrom 53 = .ok (.iload 6, 2) := by decide +kernel
theorem dX2_extendFrom_55 : decode cX2_extendFrom 55 = .ok (.iload 5, 2) := by decide +kernel
theorem dX2_extendFrom_57 : decode cX2_extendFrom 57 = .ok (.invokestatic 82, 3) := by decide +kernel
theorem dX2_extendFrom_60 : decode cX2_extendFrom 60 = .ok (.aload_n 0, 1) := by decide +kernel
theorem dX2_extendFrom_61 : decode cX2_extendFrom 61 = .ok (.iload 6, 2) := by decide +kernel
theorem dX2_extendFrom_63 : decode cX2_extendFrom 63 = .ok (.iload_n 1, 1) := by decide +kernel
theorem dX2_extendFrom_64 : decode cX2_extendFrom 64 = .ok (.invokevirtual 86, 3) := by decide +kernel
theorem dX2_extendFrom_67 : decode cX2_extendFrom 67 = .ok (.iload 6, 2) := by decide +kernel
theorem dX2_extendFrom_69 : decode cX2_extendFrom 69 = .ok (.ireturn, 1) := by decide +kernel
theorem dX2_leaveOut_0 : decode cX2_leaveOut 0 = .ok (.aload_n 0, 1) := by decide +kernel
theorem dX2_leaveOut_1 : decode cX2_leaveOut 1 = .ok (.aload_n 0, 1) := by decide +kernel
theorem dX2_leaveOut_2 : decode cX2_leaveOut 2 = .ok (.invokevirtual 68, 3) := by decide +kernel
theorem dX2_leaveOut_5 : decode cX2_leaveOut 5 = .ok (.iload_n 1, 1) := by decide +kernel
theorem dX2_leaveOut_6 : decode cX2_leaveOut 6 = .ok (.invokevirtual 51, 3) := by decide +kernel
theorem dX2_leaveOut_9 : decode cX2_leaveOut 9 = .ok (.istore_n 3, 1) := by decide +kernel
theorem dX2_leaveOut_10 : decode cX2_leaveOut 10 = .ok (.aload_n 0, 1) := by decide +kernel
theorem dX2_leaveOut_11 : decode cX2_leaveOut 11 = .ok (.aload_n 0, 1) := by decide +kernel
theorem dX2_leaveOut_12 : decode cX2_leaveOut 12 = .ok (.invokevirtual 68, 3) := by decide +kernel
theorem dX2_leaveOut_15 : decode cX2_leaveOut 15 = .ok (.iload_n 3, 1) := by decide +kernel
theorem dX2_leaveOut_16 : decode cX2_leaveOut 16 = .ok (.invokevirtual 55, 3) := by decide +kernel
theorem dX2_leaveOut_19 : decode cX2_leaveOut 19 = .ok (.istore 4, 2) := by decide +kernel
theorem dX2_leaveOut_21 : decode cX2_leaveOut 21 = .ok (.aload_n 0, 1) := by decide +kernel
theorem dX2_leaveOut_22 : decode cX2_leaveOut 22 = .ok (.iconst 4, 1) := by decide +kernel
theorem dX2_leaveOut_23 : decode cX2_leaveOut 23 = .ok (.invokevirtual 79, 3) := by decide +kernel
theorem dX2_leaveOut_26 : decode cX2_leaveOut 26 = .ok (.istore 5, 2) := by decide +kernel
theorem dX2_leaveOut_28 : decode cX2_leaveOut 28 = .ok (.aload_n 0, 1) := by decide +kernel
theorem dX2_leaveOut_29 : decode cX2_leaveOut 29 = .ok (.getfield 25, 3) := by decide +kernel
theorem dX2_leaveOut_32 : decode cX2_leaveOut 32 = .ok (.iload 5, 2) := by decide +kernel
theorem dX2_leaveOut_34 : decode cX2_leaveOut 34 = .ok (.iload 4, 2) := by decide +kernel
theorem dX2_leaveOut_36 : decode cX2_leaveOut 36 = .ok (.invokestatic 82, 3) := by decide +kernel
theorem dX2_leaveOut_39 : decode cX2_leaveOut 39 = .ok (.aload_n 0, 1) := by decide +kernel
theorem dX2_leaveOut_40 : decode cX2_leaveOut 40 = .ok (.getfield 22, 3) := by decide +kernel
theorem dX2_leaveOut_43 : decode cX2_leaveOut 43 = .ok (.iload 5, 2) := by decide +kernel
theorem dX2_leaveOut_45 : decode cX2_leaveOut 45 = .ok (.iload_n 2, 1) := by decide +kernel
theorem dX2_leaveOut_46 : decode cX2_leaveOut 46 = .ok (.invokestatic 82, 3) := by decide +kernel
theorem dX2_leaveOut_49 : decode cX2_leaveOut 49 = .ok (.aload_n 0, 1) := by decide +kernel
theorem dX2_leaveOut_50 : decode cX2_leaveOut 50 = .ok (.iload 5, 2) := by decide +kernel
theorem dX2_leaveOut_52 : decode cX2_leaveOut 52 = .ok (.iload_n 3, 1) := by decide +kernel
theorem dX2_leaveOut_53 : decode cX2_leaveOut 53 = .ok (.invokevirtual 93, 3) := by decide +kernel
theorem dX2_leaveOut_56 : decode cX2_leaveOut 56 = .ok (.iload 5, 2) := by decide +kernel
theorem dX2_leaveOut_58 : decode cX2_leaveOut 58 = .ok (.ireturn, 1) := by decide +kernel
theorem dX2_exchangeLetter_0 : decode cX2_exchangeLetter 0 = .ok (.aload_n 0, 1) := by decide +kernel
theorem dX2_exchangeLetter_1 : decode cX2_exchangeLetter 1 = .ok (.aload_n 0, 1) := by decide +kernel
theorem dX2_exchangeLetter_2 : decode cX2_exchangeLetter 2 = .ok (.invokevirtual 68, 3) := by decide +kernel
theorem dX2_exchangeLetter_5 : decode cX2_exchangeLetter 5 = .ok (.iload_n 1, 1) := by decide +kernel
theorem dX2_exchangeLetter_6 : decode cX2_exchangeLetter 6 = .ok (.invokevirtual 51, 3) := by decide +kernel
theorem dX2_exchangeLetter_9 : decode cX2_exchangeLetter 9 = .ok (.istore_n 3, 1) := by decide +kernel
theorem dX2_exchangeLetter_10 : decode cX2_exchangeLetter 10 = .ok (.aload_n 0, 1) := by decide +kernel
theorem dX2_exchangeLetter_11 : decode cX2_exchangeLetter 11 = .ok (.iconst 5, 1) := by decide +kernel
theorem dX2_exchangeLetter_12 : decode cX2_exchangeLetter 12 = .ok (.invokevirtual 79, 3) := by decide +kernel
theorem dX2_exchangeLetter_15 : decode cX2_exchangeLetter 15 = .ok (.istore 4, 2) := by decide +kernel
theorem dX2_exchangeLetter_17 : decode cX2_exchangeLetter 17 = .ok (.aload_n 0, 1) := by decide +kernel
theorem dX2_exchangeLetter_18 : decode cX2_exchangeLetter 18 = .ok (.getfield 37, 3) := by decide +kernel
theorem dX2_exchangeLetter_21 : decode cX2_exchangeLetter 21 = .ok (.iload 4, 2) := by decide +kernel
theorem dX2_exchangeLetter_23 : decode cX2_exchangeLetter 23 = .ok (.bipush 8, 2) := by decide +kernel
theorem dX2_exchangeLetter_25 : decode cX2_exchangeLetter 25 = .ok (.imul, 1) := by decide +kernel
theorem dX2_exchangeLetter_26 : decode cX2_exchangeLetter 26 = .ok (.iload_n 3, 1) := by decide +kernel
theorem dX2_exchangeLetter_27 : decode cX2_exchangeLetter 27 = .ok (.iadd, 1) := by decide +kernel
theorem dX2_exchangeLetter_28 : decode cX2_exchangeLetter 28 = .ok (.iload_n 2, 1) := by decide +kernel
theorem dX2_exchangeLetter_29 : decode cX2_exchangeLetter 29 = .ok (.invokestatic 82, 3) := by decide +kernel
theorem dX2_exchangeLetter_32 : decode cX2_exchangeLetter 32 = .ok (.iload 4, 2) := by decide +kernel
theorem dX2_exchangeLetter_34 : decode cX2_exchangeLetter 34 = .ok (.ireturn, 1) := by decide +kernel
theorem dX2_setMark_0 : decode cX2_setMark 0 = .ok (.aload_n 0, 1) := by decide +kernel
theorem dX2_setMark_1 : decode cX2_setMark 1 = .ok (.iload_n 1, 1) := by decide +kernel
theorem dX2_setMark_2 : decode cX2_setMark 2 = .ok (.putfield 15, 3) := by decide +kernel
theorem dX2_setMark_5 : decode cX2_setMark 5 = .ok (.aload_n 0, 1) := by decide +kernel
theorem dX2_setMark_6 : decode cX2_setMark 6 = .ok (.getfield 9, 3) := by decide +kernel
theorem dX2_setMark_9 : decode cX2_setMark 9 = .ok (.aload_n 0, 1) := by decide +kernel
theorem dX2_setMark_10 : decode cX2_setMark 10 = .ok (.getfield 15, 3) := by decide +kernel
theorem dX2_setMark_13 : decode cX2_setMark 13 = .ok (.isub, 1) := by decide +kernel
theorem dX2_setMark_14 : decode cX2_setMark 14 = .ok (.ireturn, 1) := by decide +kernel
theorem dX2_carryForth_0 : decode cX2_carryForth 0 = .ok (.iload_n 2, 1) := by decide +kernel
theorem dX2_carryForth_1 : decode cX2_carryForth 1 = .ok (.iconst 1, 1) := by decide +kernel
theorem dX2_carryForth_2 : decode cX2_carryForth 2 = .ok (.iadd, 1) := by decide +kernel
theorem dX2_carryForth_3 : decode cX2_carryForth 3 = .ok (.istore 4, 2) := by decide +kernel
theorem dX2_carryForth_5 : decode cX2_carryForth 5 = .ok (.iload 4, 2) := by decide +kernel
theorem dX2_carryForth_7 : decode cX2_carryForth 7 = .ok (.iload_n 3, 1) := by decide +kernel
theorem dX2_carryForth_8 : decode cX2_carryForth 8 = .ok (.if_icmp .gt 117, 3) := by decide +kernel
theorem dX2_carryForth_11 : decode cX2_carryForth 11 = .ok (.aload_n 1, 1) := by decide +kernel
theorem dX2_carryForth_12 : decode cX2_carryForth 12 = .ok (.aload_n 0, 1) := by decide +kernel
theorem dX2_carryForth_13 : decode cX2_carryForth 13 = .ok (.getfield 25, 3) := by decide +kernel
theorem dX2_carryForth_16 : decode cX2_carryForth 16 = .ok (.iload 4, 2) := by decide +kernel
theorem dX2_carryForth_18 : decode cX2_carryForth 18 = .ok (.invokestatic 47, 3) := by decide +kernel
theorem dX2_carryForth_21 : decode cX2_carryForth 21 = .ok (.invokestatic 47, 3) := by decide +kernel
theorem dX2_carryForth_24 : decode cX2_carryForth 24 = .ok (.istore 5, 2) := by decide +kernel
theorem dX2_carryForth_26 : decode cX2_carryForth 26 = .ok (.aload_n 0, 1) := by decide +kernel
theorem dX2_carryForth_27 : decode cX2_carryForth 27 = .ok (.getfield 18, 3) := by decide +kernel
theorem dX2_carryForth_30 : decode cX2_carryForth 30 = .ok (.iload 4, 2) := by decide +kernel
theorem dX2_carryForth_32 : decode cX2_carryForth 32 = .ok (.invokestatic 47, 3) := by decide +kernel
theorem dX2_carryForth_35 : decode cX2_carryForth 35 = .ok (.tableswitch 84 1 3 #[25, 43, 54], 25) := by decide +kernel
theorem dX2_carryForth_60 : decode cX2_carryForth 60 = .ok (.aload_n 1, 1) := by decide +kernel
theorem dX2_carryForth_61 : decode cX2_carryForth 61 = .ok (.iload 4, 2) := by decide +kernel
theorem dX2_carryForth_63 : decode cX2_carryForth 63 = .ok (.aload_n 0, 1) := by decide +kernel
theorem dX2_carryForth_64 : decode cX2_carryForth 64 = .ok (.getfield 22, 3) := by decide +kernel
theorem dX2_carryForth_67 : decode cX2_carryForth 67 = .ok (.iload 4, 2) := by decide +kernel
theorem dX2_carryForth_69 : decode cX2_carryForth 69 = .ok (.invokestatic 47, 3) := by decide +kernel
theorem dX2_carryForth_72 : decode cX2_carryForth 72 = .ok (.invokestatic 82, 3) := by decide +kernel
theorem dX2_carryForth_75 : decode cX2_carryForth 75 = .ok (.goto 44, 3) := by decide +kernel
theorem dX2_carryForth_78 : decode cX2_carryForth 78 = .ok (.aload_n 1, 1) := by decide +kernel
theorem dX2_carryForth_79 : decode cX2_carryForth 79 = .ok (.iload 4, 2) := by decide +kernel
theorem dX2_carryForth_81 : decode cX2_carryForth 81 = .ok (.iload 5, 2) := by decide +kernel
theorem dX2_carryForth_83 : decode cX2_carryForth 83 = .ok (.invokestatic 82, 3) := by decide +kernel
theorem dX2_carryForth_86 : decode cX2_carryForth 86 = .ok (.goto 33, 3) := by decide +kernel
theorem dX2_carryForth_89 : decode cX2_carryForth 89 = .ok (.aload_n 1, 1) := by decide +kernel
theorem dX2_carryForth_90 : decode cX2_carryForth 90 = .ok (.iload 4, 2) := by decide +kernel
theorem dX2_carryForth_92 : decode cX2_carryForth 92 = .ok (.iload 5, 2) := by decide +kernel
theorem dX2_carryForth_94 : decode cX2_carryForth 94 = .ok (.aload_n 1, 1) := by decide +kernel
theorem dX2_carryForth_95 : decode cX2_carryForth 95 = .ok (.aload_n 0, 1) := by decide +kernel
theorem dX2_carryForth_96 : decode cX2_carryForth 96 = .ok (.getfield 28, 3) := by decide +kernel
theorem dX2_carryForth_99 : decode cX2_carryForth 99 = .ok (.iload 4, 2) := by decide +kernel
theorem dX2_carryForth_101 : decode cX2_carryForth 101 = .ok (.invokestatic 47, 3) := by decide +kernel
theorem dX2_carryForth_104 : decode cX2_carryForth 104 = .ok (.invokestatic 47, 3) := by decide +kernel
theorem dX2_carryForth_107 : decode cX2_carryForth 107 = .ok (.iadd, 1) := by decide +kernel
theorem dX2_carryForth_108 : decode cX2_carryForth 108 = .ok (.ldc 96, 2) := by decide +kernel
theorem dX2_carryForth_110 : decode cX2_carryForth 110 = .ok (.invokestatic 97, 3) := by decide +kernel
theorem dX2_carryForth_113 : decode cX2_carryForth 113 = .ok (.invokestatic 82, 3) := by decide +kernel
theorem dX2_carryForth_116 : decode cX2_carryForth 116 = .ok (.goto 3, 3) := by decide +kernel
theorem dX2_carryForth_119 : decode cX2_carryForth 119 = .ok (.iinc 4 1, 3) := by decide +kernel
theorem dX2_carryForth_122 : decode cX2_carryForth 122 = .ok (.goto (-117), 3) := by decide +kernel
theorem dX2_carryForth_125 : decode cX2_carryForth 125 = .ok (.return_, 1) := by decide +kernel
theorem dX2_carryBack_0 : decode cX2_carryBack 0 = .ok (.iload_n 2, 1) := by decide +kernel
theorem dX2_carryBack_1 : decode cX2_carryBack 1 = .ok (.istore 4, 2) := by decide +kernel
theorem dX2_carryBack_3 : decode cX2_carryBack 3 = .ok (.iload 4, 2) := by decide +kernel
theorem dX2_carryBack_5 : decode cX2_carryBack 5 = .ok (.iload_n 3, 1) := by decide +kernel
theorem dX2_carryBack_6 : decode cX2_carryBack 6 = .ok (.if_icmp .le 44, 3) := by decide +kernel
theorem dX2_carryBack_9 : decode cX2_carryBack 9 = .ok (.aload_n 0, 1) := by decide +kernel
theorem dX2_carryBack_10 : decode cX2_carryBack 10 = .ok (.getfield 18, 3) := by decide +kernel
theorem dX2_carryBack_13 : decode cX2_carryBack 13 = .ok (.iload 4, 2) := by decide +kernel
theorem dX2_carryBack_15 : decode cX2_carryBack 15 = .ok (.invokestatic 47, 3) := by decide +kernel
theorem dX2_carryBack_18 : decode cX2_carryBack 18 = .ok (.iconst 4, 1) := by decide +kernel
theorem dX2_carryBack_19 : decode cX2_carryBack 19 = .ok (.if_icmp .ne 25, 3) := by decide +kernel
theorem dX2_carryBack_22 : decode cX2_carryBack 22 = .ok (.aload_n 1, 1) := by decide +kernel
theorem dX2_carryBack_23 : decode cX2_carryBack 23 = .ok (.aload_n 0, 1) := by decide +kernel
theorem dX2_carryBack_24 : decode cX2_carryBack 24 = .ok (.getfield 25, 3) := by decide +kernel
theorem dX2_carryBack_27 : decode cX2_carryBack 27 = .ok (.iload 4, 2) := by decide +kernel
theorem dX2_carryBack_29 : decode cX2_carryBack 29 = .ok (.invokestatic 47, 3) := by decide +kernel
theorem dX2_carryBack_32 : decode cX2_carryBack 32 = .ok (.aload_n 0, 1) := by decide +kernel
theorem dX2_carryBack_33 : decode cX2_carryBack 33 = .ok (.getfield 22, 3) := by decide +kernel
theorem dX2_carryBack_36 : decode cX2_carryBack 36 = .ok (.iload 4, 2) := by decide +kernel
theorem dX2_carryBack_38 : decode cX2_carryBack 38 = .ok (.invokestatic 47, 3) := by decide +kernel
theorem dX2_carryBack_41 : decode cX2_carryBack 41 = .ok (.invokestatic 82, 3) := by decide +kernel
theorem dX2_carryBack_44 : decode cX2_carryBack 44 = .ok (.iinc 4 (-1), 3) := by decide +kernel
theorem dX2_carryBack_47 : decode cX2_carryBack 47 = .ok (.goto (-44), 3) := by decide +kernel
theorem dX2_carryBack_50 : decode cX2_carryBack 50 = .ok (.return_, 1) := by decide +kernel
theorem dX2_takeFrom_0 : decode cX2_takeFrom 0 = .ok (.aload_n 0, 1) := by decide +kernel
theorem dX2_takeFrom_1 : decode cX2_takeFrom 1 = .ok (.aload_n 1, 1) := by decide +kernel
theorem dX2_takeFrom_2 : decode cX2_takeFrom 2 = .ok (.getfield 9, 3) := by decide +kernel
theorem dX2_takeFrom_5 : decode cX2_takeFrom 5 = .ok (.putfield 9, 3) := by decide +kernel
theorem dX2_takeFrom_8 : decode cX2_takeFrom 8 = .ok (.aload_n 0, 1) := by decide +kernel
theorem dX2_takeFrom_9 : decode cX2_takeFrom 9 = .ok (.aload_n 1, 1) := by decide +kernel
theorem dX2_takeFrom_10 : decode cX2_takeFrom 10 = .ok (.getfield 15, 3) := by decide +kernel
theorem dX2_takeFrom_13 : decode cX2_takeFrom 13 = .ok (.putfield 15, 3) := by decide +kernel
theorem dX2_takeFrom_16 : decode cX2_takeFrom 16 = .ok (.aload_n 1, 1) := by decide +kernel
theorem dX2_takeFrom_17 : decode cX2_takeFrom 17 = .ok (.getfield 18, 3) := by decide +kernel
theorem dX2_takeFrom_20 : decode cX2_takeFrom 20 = .ok (.aload_n 0, 1) := by decide +kernel
theorem dX2_takeFrom_21 : decode cX2_takeFrom 21 = .ok (.getfield 18, 3) := by decide +kernel
theorem dX2_takeFrom_24 : decode cX2_takeFrom 24 = .ok (.invokestatic 102, 3) := by decide +kernel
theorem dX2_takeFrom_27 : decode cX2_takeFrom 27 = .ok (.aload_n 1, 1) := by decide +kernel
theorem dX2_takeFrom_28 : decode cX2_takeFrom 28 = .ok (.getfield 22, 3) := by decide +kernel
theorem dX2_takeFrom_31 : decode cX2_takeFrom 31 = .ok (.aload_n 0, 1) := by decide +kernel
theorem dX2_takeFrom_32 : decode cX2_takeFrom 32 = .ok (.getfield 22, 3) := by decide +kernel
theorem dX2_takeFrom_35 : decode cX2_takeFrom 35 = .ok (.invokestatic 102, 3) := by decide +kernel
theorem dX2_takeFrom_38 : decode cX2_takeFrom 38 = .ok (.aload_n 1, 1) := by decide +kernel
theorem dX2_takeFrom_39 : decode cX2_takeFrom 39 = .ok (.getfield 25, 3) := by decide +kernel
theorem dX2_takeFrom_42 : decode cX2_takeFrom 42 = .ok (.aload_n 0, 1) := by decide +kernel
theorem dX2_takeFrom_43 : decode cX2_takeFrom 43 = .ok (.getfield 25, 3) := by decide +kernel
theorem dX2_takeFrom_46 : decode cX2_takeFrom 46 = .ok (.invokestatic 102, 3) := by decide +kernel
theorem dX2_takeFrom_49 : decode cX2_takeFrom 49 = .ok (.aload_n 1, 1) := by decide +kernel
theorem dX2_takeFrom_50 : decode cX2_takeFrom 50 = .ok (.getfield 28, 3) := by decide +kernel
theorem dX2_takeFrom_53 : decode cX2_takeFrom 53 = .ok (.aload_n 0, 1) := by decide +kernel
theorem dX2_takeFrom_54 : decode cX2_takeFrom 54 = .ok (.getfield 28, 3) := by decide +kernel
theorem dX2_takeFrom_57 : decode cX2_takeFrom 57 = .ok (.invokestatic 102, 3) := by decide +kernel
theorem dX2_takeFrom_60 : decode cX2_takeFrom 60 = .ok (.aload_n 1, 1) := by decide +kernel
theorem dX2_takeFrom_61 : decode cX2_takeFrom 61 = .ok (.getfield 31, 3) := by decide +kernel
theorem dX2_takeFrom_64 : decode cX2_takeFrom 64 = .ok (.aload_n 0, 1) := by decide +kernel
theorem dX2_takeFrom_65 : decode cX2_takeFrom 65 = .ok (.getfield 31, 3) := by decide +kernel
theorem dX2_takeFrom_68 : decode cX2_takeFrom 68 = .ok (.invokestatic 102, 3) := by decide +kernel
theorem dX2_takeFrom_71 : decode cX2_takeFrom 71 = .ok (.aload_n 1, 1) := by decide +kernel
theorem dX2_takeFrom_72 : decode cX2_takeFrom 72 = .ok (.getfield 34, 3) := by decide +kernel
theorem dX2_takeFrom_75 : decode cX2_takeFrom 75 = .ok (.aload_n 0, 1) := by decide +kernel
theorem dX2_takeFrom_76 : decode cX2_takeFrom 76 = .ok (.getfield 34, 3) := by decide +kernel
theorem dX2_takeFrom_79 : decode cX2_takeFrom 79 = .ok (.invokestatic 102, 3) := by decide +kernel
theorem dX2_takeFrom_82 : decode cX2_takeFrom 82 = .ok (.aload_n 1, 1) := by decide +kernel
theorem dX2_takeFrom_83 : decode cX2_takeFrom 83 = .ok (.getfield 37, 3) := by decide +kernel
theorem dX2_takeFrom_86 : decode cX2_takeFrom 86 = .ok (.aload_n 0, 1) := by decide +kernel
theorem dX2_takeFrom_87 : decode cX2_takeFrom 87 = .ok (.getfield 37, 3) := by decide +kernel
theorem dX2_takeFrom_90 : decode cX2_takeFrom 90 = .ok (.invokestatic 102, 3) := by decide +kernel
theorem dX2_takeFrom_93 : decode cX2_takeFrom 93 = .ok (.return_, 1) := by decide +kernel
theorem dX2_isFull_0 : decode cX2_isFull 0 = .ok (.aload_n 0, 1) := by decide +kernel
theorem dX2_isFull_1 : decode cX2_isFull 1 = .ok (.getfield 9, 3) := by decide +kernel
theorem dX2_isFull_4 : decode cX2_isFull 4 = .ok (.bipush 12, 2) := by decide +kernel
theorem dX2_isFull_6 : decode cX2_isFull 6 = .ok (.if_icmp .lt 7, 3) := by decide +kernel
theorem dX2_isFull_9 : decode cX2_isFull 9 = .ok (.iconst 1, 1) := by decide +kernel
theorem dX2_isFull_10 : decode cX2_isFull 10 = .ok (.goto 4, 3) := by decide +kernel
theorem dX2_isFull_13 : decode cX2_isFull 13 = .ok (.iconst 0, 1) := by decide +kernel
theorem dX2_isFull_14 : decode cX2_isFull 14 = .ok (.ireturn, 1) := by decide +kernel
theorem dX2_newestHas_0 : decode cX2_newestHas 0 = .ok (.aload_n 0, 1) := by decide +kernel
theorem dX2_newestHas_1 : decode cX2_newestHas 1 = .ok (.aload_n 0, 1) := by decide +kernel
theorem dX2_newestHas_2 : decode cX2_newestHas 2 = .ok (.invokevirtual 68, 3) := by decide +kernel
theorem dX2_newestHas_5 : decode cX2_newestHas 5 = .ok (.iload_n 1, 1) := by decide +kernel
theorem dX2_newestHas_6 : decode cX2_newestHas 6 = .ok (.invokevirtual 51, 3) := by decide +kernel
theorem dX2_newestHas_9 : decode cX2_newestHas 9 = .ok (.iconst (-1), 1) := by decide +kernel
theorem dX2_newestHas_10 : decode cX2_newestHas 10 = .ok (.if_icmp .eq 7, 3) := by decide +kernel
theorem dX2_newestHas_13 : decode cX2_newestHas 13 = .ok (.iconst 1, 1) := by decide +kernel
theorem dX2_newestHas_14 : decode cX2_newestHas 14 = .ok (.goto 4, 3) := by decide +kernel
theorem dX2_newestHas_17 : decode cX2_newestHas 17 = .ok (.iconst 0, 1) := by decide +kernel
theorem dX2_newestHas_18 : decode cX2_newestHas 18 = .ok (.ireturn, 1) := by decide +kernel
theorem dX2_placeOfLetter_0 : decode cX2_placeOfLetter 0 = .ok (.aload_n 0, 1) := by decide +kernel
theorem dX2_placeOfLetter_1 : decode cX2_placeOfLetter 1 = .ok (.getfield 31, 3) := by decide +kernel
theorem dX2_placeOfLetter_4 : decode cX2_placeOfLetter 4 = .ok (.iload_n 1, 1) := by decide +kernel
theorem dX2_placeOfLetter_5 : decode cX2_placeOfLetter 5 = .ok (.invokestatic 47, 3) := by decide +kernel
theorem dX2_placeOfLetter_8 : decode cX2_placeOfLetter 8 = .ok (.istore_n 3, 1) := by decide +kernel
theorem dX2_placeOfLetter_9 : decode cX2_placeOfLetter 9 = .ok (.iconst 0, 1) := by decide +kernel
theorem dX2_placeOfLetter_10 : decode cX2_placeOfLetter 10 = .ok (.istore 4, 2) := by decide +kernel
theorem dX2_placeOfLetter_12 : decode cX2_placeOfLetter 12 = .ok (.iload 4, 2) := by decide +kernel
theorem dX2_placeOfLetter_14 : decode cX2_placeOfLetter 14 = .ok (.iload_n 3, 1) := by decide +kernel
theorem dX2_placeOfLetter_15 : decode cX2_placeOfLetter 15 = .ok (.if_icmp .ge 30, 3) := by decide +kernel
theorem dX2_placeOfLetter_18 : decode cX2_placeOfLetter 18 = .ok (.aload_n 0, 1) := by decide +kernel
theorem dX2_placeOfLetter_19 : decode cX2_placeOfLetter 19 = .ok (.getfield 37, 3) := by decide +kernel
theorem dX2_placeOfLetter_22 : decode cX2_placeOfLetter 22 = .ok (.iload_n 1, 1) := by decide +kernel
theorem dX2_placeOfLetter_23 : decode cX2_placeOfLetter 23 = .ok (.bipush 8, 2) := by decide +kernel
theorem dX2_placeOfLetter_25 : decode cX2_placeOfLetter 25 = .ok (.imul, 1) := by decide +kernel
theorem dX2_placeOfLetter_26 : decode cX2_placeOfLetter 26 = .ok (.iload 4, 2) := by decide +kernel
theorem dX2_placeOfLetter_28 : decode cX2_placeOfLetter 28 = .ok (.iadd, 1) := by decide +kernel
theorem dX2_placeOfLetter_29 : decode cX2_placeOfLetter 29 = .ok (.invokestatic 47, 3) := by decide +kernel
theorem dX2_placeOfLetter_32 : decode cX2_placeOfLetter 32 = .ok (.iload_n 2, 1) := by decide +kernel
theorem dX2_placeOfLetter_33 : decode cX2_placeOfLetter 33 = .ok (.if_icmp .ne 6, 3) := by decide +kernel
theorem dX2_placeOfLetter_36 : decode cX2_placeOfLetter 36 = .ok (.iload 4, 2) := by decide +kernel
theorem dX2_placeOfLetter_38 : decode cX2_placeOfLetter 38 = .ok (.ireturn, 1) := by decide +kernel
theorem dX2_placeOfLetter_39 : decode cX2_placeOfLetter 39 = .ok (.iinc 4 1, 3) := by decide +kernel
theorem dX2_placeOfLetter_42 : decode cX2_placeOfLetter 42 = .ok (.goto (-30), 3) := by decide +kernel
theorem dX2_placeOfLetter_45 : decode cX2_placeOfLetter 45 = .ok (.iconst (-1), 1) := by decide +kernel
theorem dX2_placeOfLetter_46 : decode cX2_placeOfLetter 46 = .ok (.ireturn, 1) := by decide +kernel
theorem dX2_placeOfColumn_0 : decode cX2_placeOfColumn 0 = .ok (.aload_n 0, 1) := by decide +kernel
theorem dX2_placeOfColumn_1 : decode cX2_placeOfColumn 1 = .ok (.getfield 31, 3) := by decide +kernel
theorem dX2_placeOfColumn_4 : decode cX2_placeOfColumn 4 = .ok (.iload_n 1, 1) := by decide +kernel
theorem dX2_placeOfColumn_5 : decode cX2_placeOfColumn 5 = .ok (.invokestatic 47, 3) := by decide +kernel
theorem dX2_placeOfColumn_8 : decode cX2_placeOfColumn 8 = .ok (.istore_n 3, 1) := by decide +kernel
theorem dX2_placeOfColumn_9 : decode cX2_placeOfColumn 9 = .ok (.iconst 0, 1) := by decide +kernel
theorem dX2_placeOfColumn_10 : decode cX2_placeOfColumn 10 = .ok (.istore 4, 2) := by decide +kernel
theorem dX2_placeOfColumn_12 : decode cX2_placeOfColumn 12 = .ok (.iload 4, 2) := by decide +kernel
theorem dX2_placeOfColumn_14 : decode cX2_placeOfColumn 14 = .ok (.iload_n 3, 1) := by decide +kernel
theorem dX2_placeOfColumn_15 : decode cX2_placeOfColumn 15 = .ok (.if_icmp .ge 30, 3) := by decide +kernel
theorem dX2_placeOfColumn_18 : decode cX2_placeOfColumn 18 = .ok (.aload_n 0, 1) := by decide +kernel
theorem dX2_placeOfColumn_19 : decode cX2_placeOfColumn 19 = .ok (.getfield 34, 3) := by decide +kernel
theorem dX2_placeOfColumn_22 : decode cX2_placeOfColumn 22 = .ok (.iload_n 1, 1) := by decide +kernel
theorem dX2_placeOfColumn_23 : decode cX2_placeOfColumn 23 = .ok (.bipush 8, 2) := by decide +kernel
theorem dX2_placeOfColumn_25 : decode cX2_placeOfColumn 25 = .ok (.imul, 1) := by decide +kernel
theorem dX2_placeOfColumn_26 : decode cX2_placeOfColumn 26 = .ok (.iload 4, 2) := by decide +kernel
theorem dX2_placeOfColumn_28 : decode cX2_placeOfColumn 28 = .ok (.iadd, 1) := by decide +kernel
theorem dX2_placeOfColumn_29 : decode cX2_placeOfColumn 29 = .ok (.invokestatic 47, 3) := by decide +kernel
theorem dX2_placeOfColumn_32 : decode cX2_placeOfColumn 32 = .ok (.iload_n 2, 1) := by decide +kernel
theorem dX2_placeOfColumn_33 : decode cX2_placeOfColumn 33 = .ok (.if_icmp .ne 6, 3) := by decide +kernel
theorem dX2_placeOfColumn_36 : decode cX2_placeOfColumn 36 = .ok (.iload 4, 2) := by decide +kernel
theorem dX2_placeOfColumn_38 : decode cX2_placeOfColumn 38 = .ok (.ireturn, 1) := by decide +kernel
theorem dX2_placeOfColumn_39 : decode cX2_placeOfColumn 39 = .ok (.iinc 4 1, 3) := by decide +kernel
theorem dX2_placeOfColumn_42 : decode cX2_placeOfColumn 42 = .ok (.goto (-30), 3) := by decide +kernel
theorem dX2_placeOfColumn_45 : decode cX2_placeOfColumn 45 = .ok (.iconst (-1), 1) := by decide +kernel
theorem dX2_placeOfColumn_46 : decode cX2_placeOfColumn 46 = .ok (.ireturn, 1) := by decide +kernel
theorem dX2_letterAt_0 : decode cX2_letterAt 0 = .ok (.aload_n 0, 1) := by decide +kernel
theorem dX2_letterAt_1 : decode cX2_letterAt 1 = .ok (.getfield 37, 3) := by decide +kernel
theorem dX2_letterAt_4 : decode cX2_letterAt 4 = .ok (.iload_n 1, 1) := by decide +kernel
theorem dX2_letterAt_5 : decode cX2_letterAt 5 = .ok (.bipush 8, 2) := by decide +kernel
theorem dX2_letterAt_7 : decode cX2_letterAt 7 = .ok (.imul, 1) := by decide +kernel
theorem dX2_letterAt_8 : decode cX2_letterAt 8 = .ok (.iload_n 2, 1) := by decide +kernel
theorem dX2_letterAt_9 : decode cX2_letterAt 9 = .ok (.iadd, 1) := by decide +kernel
theorem dX2_letterAt_10 : decode cX2_letterAt 10 = .ok (.invokestatic 47, 3) := by decide +kernel
theorem dX2_letterAt_13 : decode cX2_letterAt 13 = .ok (.ireturn, 1) := by decide +kernel
theorem dX2_comeBy_0 : decode cX2_comeBy 0 = .ok (.aload_n 0, 1) := by decide +kernel
theorem dX2_comeBy_1 : decode cX2_comeBy 1 = .ok (.getfield 9, 3) := by decide +kernel
theorem dX2_comeBy_4 : decode cX2_comeBy 4 = .ok (.istore_n 2, 1) := by decide +kernel
theorem dX2_comeBy_5 : decode cX2_comeBy 5 = .ok (.aload_n 0, 1) := by decide +kernel
theorem dX2_comeBy_6 : decode cX2_comeBy 6 = .ok (.invokevirtual 68, 3) := by decide +kernel
theorem dX2_comeBy_9 : decode cX2_comeBy 9 = .ok (.istore_n 3, 1) := by decide +kernel
theorem dX2_comeBy_10 : decode cX2_comeBy 10 = .ok (.aload_n 0, 1) := by decide +kernel
theorem dX2_comeBy_11 : decode cX2_comeBy 11 = .ok (.getfield 18, 3) := by decide +kernel
theorem dX2_comeBy_14 : decode cX2_comeBy 14 = .ok (.iload_n 2, 1) := by decide +kernel
theorem dX2_comeBy_15 : decode cX2_comeBy 15 = .ok (.iload_n 1, 1) := by decide +kernel
theorem dX2_comeBy_16 : decode cX2_comeBy 16 = .ok (.invokestatic 82, 3) := by decide +kernel
theorem dX2_comeBy_19 : decode cX2_comeBy 19 = .ok (.aload_n 0, 1) := by decide +kernel
theorem dX2_comeBy_20 : decode cX2_comeBy 20 = .ok (.getfield 31, 3) := by decide +kernel
theorem dX2_comeBy_23 : decode cX2_comeBy 23 = .ok (.iload_n 2, 1) := by decide +kernel
theorem dX2_comeBy_24 : decode cX2_comeBy 24 = .ok (.aload_n 0, 1) := by decide +kernel
theorem dX2_comeBy_25 : decode cX2_comeBy 25 = .ok (.iload_n 3, 1) := by decide +kernel
theorem dX2_comeBy_26 : decode cX2_comeBy 26 = .ok (.invokevirtual 61, 3) := by decide +kernel
theorem dX2_comeBy_29 : decode cX2_comeBy 29 = .ok (.invokestatic 82, 3) := by decide +kernel
theorem dX2_comeBy_32 : decode cX2_comeBy 32 = .ok (.iconst 0, 1) := by decide +kernel
theorem dX2_comeBy_33 : decode cX2_comeBy 33 = .ok (.istore 4, 2) := by decide +kernel
theorem dX2_comeBy_35 : decode cX2_comeBy 35 = .ok (.iload 4, 2) := by decide +kernel
theorem dX2_comeBy_37 : decode cX2_comeBy 37 = .ok (.aload_n 0, 1) := by decide +kernel
theorem dX2_comeBy_38 : decode cX2_comeBy 38 = .ok (.iload_n 3, 1) := by decide +kernel
theorem dX2_comeBy_39 : decode cX2_comeBy 39 = .ok (.invokevirtual 61, 3) := by decide +kernel
theorem dX2_comeBy_42 : decode cX2_comeBy 42 = .ok (.if_icmp .ge 51, 3) := by decide +kernel
theorem dX2_comeBy_45 : decode cX2_comeBy 45 = .ok (.aload_n 0, 1) := by decide +kernel
theorem dX2_comeBy_46 : decode cX2_comeBy 46 = .ok (.getfield 34, 3) := by decide +kernel
theorem dX2_comeBy_49 : decode cX2_comeBy 49 = .ok (.iload_n 2, 1) := by decide +kernel
theorem dX2_comeBy_50 : decode cX2_comeBy 50 = .ok (.bipush 8, 2) := by decide +kernel
theorem dX2_comeBy_52 : decode cX2_comeBy 52 = .ok (.imul, 1) := by decide +kernel
theorem dX2_comeBy_53 : decode cX2_comeBy 53 = .ok (.iload 4, 2) := by decide +kernel
theorem dX2_comeBy_55 : decode cX2_comeBy 55 = .ok (.iadd, 1) := by decide +kernel
theorem dX2_comeBy_56 : decode cX2_comeBy 56 = .ok (.aload_n 0, 1) := by decide +kernel
theorem dX2_comeBy_57 : decode cX2_comeBy 57 = .ok (.iload_n 3, 1) := by decide +kernel
theorem dX2_comeBy_58 : decode cX2_comeBy 58 = .ok (.iload 4, 2) := by decide +kernel
theorem dX2_comeBy_60 : decode cX2_comeBy 60 = .ok (.invokevirtual 55, 3) := by decide +kernel
theorem dX2_comeBy_63 : decode cX2_comeBy 63 = .ok (.invokestatic 82, 3) := by decide +kernel
theorem dX2_comeBy_66 : decode cX2_comeBy 66 = .ok (.aload_n 0, 1) := by decide +kernel
theorem dX2_comeBy_67 : decode cX2_comeBy 67 = .ok (.getfield 37, 3) := by decide +kernel
theorem dX2_comeBy_70 : decode cX2_comeBy 70 = .ok (.iload_n 2, 1) := by decide +kernel
theorem dX2_comeBy_71 : decode cX2_comeBy 71 = .ok (.bipush 8, 2) := by decide +kernel
theorem dX2_comeBy_73 : decode cX2_comeBy 73 = .ok (.imul, 1) := by decide +kernel
theorem dX2_comeBy_74 : decode cX2_comeBy 74 = .ok (.iload 4, 2) := by decide +kernel
theorem dX2_comeBy_76 : decode cX2_comeBy 76 = .ok (.iadd, 1) := by decide +kernel
theorem dX2_comeBy_77 : decode cX2_comeBy 77 = .ok (.aload_n 0, 1) := by decide +kernel
theorem dX2_comeBy_78 : decode cX2_comeBy 78 = .ok (.iload_n 3, 1) := by decide +kernel
theorem dX2_comeBy_79 : decode cX2_comeBy 79 = .ok (.iload 4, 2) := by decide +kernel
theorem dX2_comeBy_81 : decode cX2_comeBy 81 = .ok (.invokevirtual 65, 3) := by decide +kernel
theorem dX2_comeBy_84 : decode cX2_comeBy 84 = .ok (.invokestatic 82, 3) := by decide +kernel
theorem dX2_comeBy_87 : decode cX2_comeBy 87 = .ok (.iinc 4 1, 3) := by decide +kernel
theorem dX2_comeBy_90 : decode cX2_comeBy 90 = .ok (.goto (-55), 3) := by decide +kernel
theorem dX2_comeBy_93 : decode cX2_comeBy 93 = .ok (.aload_n 0, 1) := by decide +kernel
theorem dX2_comeBy_94 : decode cX2_comeBy 94 = .ok (.dup, 1) := by decide +kernel
theorem dX2_comeBy_95 : decode cX2_comeBy 95 = .ok (.getfield 9, 3) := by decide +kernel
theorem dX2_comeBy_98 : decode cX2_comeBy 98 = .ok (.iconst 1, 1) := by decide +kernel
theorem dX2_comeBy_99 : decode cX2_comeBy 99 = .ok (.iadd, 1) := by decide +kernel
theorem dX2_comeBy_100 : decode cX2_comeBy 100 = .ok (.putfield 9, 3) := by decide +kernel
theorem dX2_comeBy_103 : decode cX2_comeBy 103 = .ok (.iload_n 2, 1) := by decide +kernel
theorem dX2_comeBy_104 : decode cX2_comeBy 104 = .ok (.ireturn, 1) := by decide +kernel
theorem dX2_addLast_0 : decode cX2_addLast 0 = .ok (.aload_n 0, 1) := by decide +kernel
theorem dX2_addLast_1 : decode cX2_addLast 1 = .ok (.iload_n 1, 1) := by decide +kernel
theorem dX2_addLast_2 : decode cX2_addLast 2 = .ok (.invokevirtual 61, 3) := by decide +kernel
theorem dX2_addLast_5 : decode cX2_addLast 5 = .ok (.istore_n 3, 1) := by decide +kernel
theorem dX2_addLast_6 : decode cX2_addLast 6 = .ok (.aload_n 0, 1) := by decide +kernel
theorem dX2_addLast_7 : decode cX2_addLast 7 = .ok (.getfield 31, 3) := by decide +kernel
theorem dX2_addLast_10 : decode cX2_addLast 10 = .ok (.iload_n 1, 1) := by decide +kernel
theorem dX2_addLast_11 : decode cX2_addLast 11 = .ok (.iload_n 3, 1) := by decide +kernel
theorem dX2_addLast_12 : decode cX2_addLast 12 = .ok (.iconst 1, 1) := by decide +kernel
theorem dX2_addLast_13 : decode cX2_addLast 13 = .ok (.iadd, 1) := by decide +kernel
theorem dX2_addLast_14 : decode cX2_addLast 14 = .ok (.invokestatic 82, 3) := by decide +kernel
theorem dX2_addLast_17 : decode cX2_addLast 17 = .ok (.aload_n 0, 1) := by decide +kernel
theorem dX2_addLast_18 : decode cX2_addLast 18 = .ok (.getfield 34, 3) := by decide +kernel
theorem dX2_addLast_21 : decode cX2_addLast 21 = .ok (.iload_n 1, 1) := by decide +kernel
theorem dX2_addLast_22 : decode cX2_addLast 22 = .ok (.bipush 8, 2) := by decide +kernel
theorem dX2_addLast_24 : decode cX2_addLast 24 = .ok (.imul, 1) := by decide +kernel
theorem dX2_addLast_25 : decode cX2_addLast 25 = .ok (.iload_n 3, 1) := by decide +kernel
theorem dX2_addLast_26 : decode cX2_addLast 26 = .ok (.iadd, 1) := by decide +kernel
theorem dX2_addLast_27 : decode cX2_addLast 27 = .ok (.iload_n 1, 1) := by decide +kernel
theorem dX2_addLast_28 : decode cX2_addLast 28 = .ok (.invokestatic 82, 3) := by decide +kernel
theorem dX2_addLast_31 : decode cX2_addLast 31 = .ok (.aload_n 0, 1) := by decide +kernel
theorem dX2_addLast_32 : decode cX2_addLast 32 = .ok (.getfield 37, 3) := by decide +kernel
theorem dX2_addLast_35 : decode cX2_addLast 35 = .ok (.iload_n 1, 1) := by decide +kernel
theorem dX2_addLast_36 : decode cX2_addLast 36 = .ok (.bipush 8, 2) := by decide +kernel
theorem dX2_addLast_38 : decode cX2_addLast 38 = .ok (.imul, 1) := by decide +kernel
theorem dX2_addLast_39 : decode cX2_addLast 39 = .ok (.iload_n 3, 1) := by decide +kernel
theorem dX2_addLast_40 : decode cX2_addLast 40 = .ok (.iadd, 1) := by decide +kernel
theorem dX2_addLast_41 : decode cX2_addLast 41 = .ok (.iload_n 2, 1) := by decide +kernel
theorem dX2_addLast_42 : decode cX2_addLast 42 = .ok (.invokestatic 82, 3) := by decide +kernel
theorem dX2_addLast_45 : decode cX2_addLast 45 = .ok (.return_, 1) := by decide +kernel
theorem dX2_closeGap_0 : decode cX2_closeGap 0 = .ok (.aload_n 0, 1) := by decide +kernel
theorem dX2_closeGap_1 : decode cX2_closeGap 1 = .ok (.iload_n 1, 1) := by decide +kernel
theorem dX2_closeGap_2 : decode cX2_closeGap 2 = .ok (.invokevirtual 61, 3) := by decide +kernel
theorem dX2_closeGap_5 : decode cX2_closeGap 5 = .ok (.iconst 1, 1) := by decide +kernel
theorem dX2_closeGap_6 : decode cX2_closeGap 6 = .ok (.isub, 1) := by decide +kernel
theorem dX2_closeGap_7 : decode cX2_closeGap 7 = .ok (.istore_n 3, 1) := by decide +kernel
theorem dX2_closeGap_8 : decode cX2_closeGap 8 = .ok (.iload_n 2, 1) := by decide +kernel
theorem dX2_closeGap_9 : decode cX2_closeGap 9 = .ok (.istore 4, 2) := by decide +kernel
theorem dX2_closeGap_11 : decode cX2_closeGap 11 = .ok (.iload 4, 2) := by decide +kernel
theorem dX2_closeGap_13 : decode cX2_closeGap 13 = .ok (.iload_n 3, 1) := by decide +kernel
theorem dX2_closeGap_14 : decode cX2_closeGap 14 = .ok (.if_icmp .ge 55, 3) := by decide +kernel
theorem dX2_closeGap_17 : decode cX2_closeGap 17 = .ok (.aload_n 0, 1) := by decide +kernel
theorem dX2_closeGap_18 : decode cX2_closeGap 18 = .ok (.getfield 34, 3) := by decide +kernel
theorem dX2_closeGap_21 : decode cX2_closeGap 21 = .ok (.iload_n 1, 1) := by decide +kernel
theorem dX2_closeGap_22 : decode cX2_closeGap 22 = .ok (.bipush 8, 2) := by decide +kernel
theorem dX2_closeGap_24 : decode cX2_closeGap 24 = .ok (.imul, 1) := by decide +kernel
theorem dX2_closeGap_25 : decode cX2_closeGap 25 = .ok (.iload 4, 2) := by decide +kernel
theorem dX2_closeGap_27 : decode cX2_closeGap 27 = .ok (.iadd, 1) := by decide +kernel
theorem dX2_closeGap_28 : decode cX2_closeGap 28 = .ok (.aload_n 0, 1) := by decide +kernel
theorem dX2_closeGap_29 : decode cX2_closeGap 29 = .ok (.iload_n 1, 1) := by decide +kernel
theorem dX2_closeGap_30 : decode cX2_closeGap 30 = .ok (.iload 4, 2) := by decide +kernel
theorem dX2_closeGap_32 : decode cX2_closeGap 32 = .ok (.iconst 1, 1) := by decide +kernel
theorem dX2_closeGap_33 : decode cX2_closeGap 33 = .ok (.iadd, 1) := by decide +kernel
theorem dX2_closeGap_34 : decode cX2_closeGap 34 = .ok (.invokevirtual 55, 3) := by decide +kernel
theorem dX2_closeGap_37 : decode cX2_closeGap 37 = .ok (.invokestatic 82, 3) := by decide +kernel
theorem dX2_closeGap_40 : decode cX2_closeGap 40 = .ok (.aload_n 0, 1) := by decide +kernel
theorem dX2_closeGap_41 : decode cX2_closeGap 41 = .ok (.getfield 37, 3) := by decide +kernel
theorem dX2_closeGap_44 : decode cX2_closeGap 44 = .ok (.iload_n 1, 1) := by decide +kernel
theorem dX2_closeGap_45 : decode cX2_closeGap 45 = .ok (.bipush 8, 2) := by decide +kernel
theorem dX2_closeGap_47 : decode cX2_closeGap 47 = .ok (.imul, 1) := by decide +kernel
theorem dX2_closeGap_48 : decode cX2_closeGap 48 = .ok (.iload 4, 2) := by decide +kernel
theorem dX2_closeGap_50 : decode cX2_closeGap 50 = .ok (.iadd, 1) := by decide +kernel
theorem dX2_closeGap_51 : decode cX2_closeGap 51 = .ok (.aload_n 0, 1) := by decide +kernel
theorem dX2_closeGap_52 : decode cX2_closeGap 52 = .ok (.iload_n 1, 1) := by decide +kernel
theorem dX2_closeGap_53 : decode cX2_closeGap 53 = .ok (.iload 4, 2) := by decide +kernel
theorem dX2_closeGap_55 : decode cX2_closeGap 55 = .ok (.iconst 1, 1) := by decide +kernel
theorem dX2_closeGap_56 : decode cX2_closeGap 56 = .ok (.iadd, 1) := by decide +kernel
theorem dX2_closeGap_57 : decode cX2_closeGap 57 = .ok (.invokevirtual 65, 3) := by decide +kernel
theorem dX2_closeGap_60 : decode cX2_closeGap 60 = .ok (.invokestatic 82, 3) := by decide +kernel
theorem dX2_closeGap_63 : decode cX2_closeGap 63 = .ok (.iinc 4 1, 3) := by decide +kernel
theorem dX2_closeGap_66 : decode cX2_closeGap 66 = .ok (.goto (-55), 3) := by decide +kernel
theorem dX2_closeGap_69 : decode cX2_closeGap 69 = .ok (.aload_n 0, 1) := by decide +kernel
theorem dX2_closeGap_70 : decode cX2_closeGap 70 = .ok (.getfield 31, 3) := by decide +kernel
theorem dX2_closeGap_73 : decode cX2_closeGap 73 = .ok (.iload_n 1, 1) := by decide +kernel
theorem dX2_closeGap_74 : decode cX2_closeGap 74 = .ok (.iload_n 3, 1) := by decide +kernel
theorem dX2_closeGap_75 : decode cX2_closeGap 75 = .ok (.invokestatic 82, 3) := by decide +kernel
theorem dX2_closeGap_78 : decode cX2_closeGap 78 = .ok (.return_, 1) := by decide +kernel
theorem dX3_init_0 : decode cX3_init 0 = .ok (.aload_n 0, 1) := by decide +kernel
theorem dX3_init_1 : decode cX3_init 1 = .ok (.invokespecial 3, 3) := by decide +kernel
theorem dX3_init_4 : decode cX3_init 4 = .ok (.aload_n 0, 1) := by decide +kernel
theorem dX3_init_5 : decode cX3_init 5 = .ok (.new 9, 3) := by decide +kernel
theorem dX3_init_8 : decode cX3_init 8 = .ok (.dup, 1) := by decide +kernel
theorem dX3_init_9 : decode cX3_init 9 = .ok (.invokespecial 11, 3) := by decide +kernel
theorem dX3_init_12 : decode cX3_init 12 = .ok (.putfield 12, 3) := by decide +kernel
theorem dX3_init_15 : decode cX3_init 15 = .ok (.aload_n 0, 1) := by decide +kernel
theorem dX3_init_16 : decode cX3_init 16 = .ok (.new 18, 3) := by decide +kernel
theorem dX3_init_19 : decode cX3_init 19 = .ok (.dup, 1) := by decide +kernel
theorem dX3_init_20 : decode cX3_init 20 = .ok (.invokespecial 20, 3) := by decide +kernel
theorem dX3_init_23 : decode cX3_init 23 = .ok (.putfield 21, 3) := by decide +kernel
theorem dX3_init_26 : decode cX3_init 26 = .ok (.aload_n 0, 1) := by decide +kernel
theorem dX3_init_27 : decode cX3_init 27 = .ok (.iconst 4, 1) := by decide +kernel
theorem dX3_init_28 : decode cX3_init 28 = .ok (.newarray .int, 2) := by decide +kernel
theorem dX3_init_30 : decode cX3_init 30 = .ok (.putfield 25, 3) := by decide +kernel
theorem dX3_init_33 : decode cX3_init 33 = .ok (.aload_n 0, 1) := by decide +kernel
theorem dX3_init_34 : decode cX3_init 34 = .ok (.bipush 12, 2) := by decide +kernel
theorem dX3_init_36 : decode cX3_init 36 = .ok (.newarray .int, 2) := by decide +kernel
theorem dX3_init_38 : decode cX3_init 38 = .ok (.putfield 29, 3) := by decide +kernel
theorem dX3_init_41 : decode cX3_init 41 = .ok (.return_, 1) := by decide +kernel
theorem dX3_heldBy_0 : decode cX3_heldBy 0 = .ok (.aload_n 0, 1) := by decide +kernel
theorem dX3_heldBy_1 : decode cX3_heldBy 1 = .ok (.getfield 25, 3) := by decide +kernel
theorem dX3_heldBy_4 : decode cX3_heldBy 4 = .ok (.iload_n 1, 1) := by decide +kernel
theorem dX3_heldBy_5 : decode cX3_heldBy 5 = .ok (.invokestatic 32, 3) := by decide +kernel
theorem dX3_heldBy_8 : decode cX3_heldBy 8 = .ok (.ireturn, 1) := by decide +kernel
theorem dX3_letHold_0 : decode cX3_letHold 0 = .ok (.aload_n 0, 1) := by decide +kernel
theorem dX3_letHold_1 : decode cX3_letHold 1 = .ok (.iload_n 1, 1) := by decide +kernel
theorem dX3_letHold_2 : decode cX3_letHold 2 = .ok (.invokevirtual 36, 3) := by decide +kernel
theorem dX3_letHold_5 : decode cX3_letHold 5 = .ok (.istore_n 3, 1) := by decide +kernel
theorem dX3_letHold_6 : decode cX3_letHold 6 = .ok (.aload_n 0, 1) := by decide +kernel
theorem dX3_letHold_7 : decode cX3_letHold 7 = .ok (.getfield 25, 3) := by decide +kernel
theorem dX3_letHold_10 : decode cX3_letHold 10 = .ok (.iload_n 1, 1) := by decide +kernel
theorem dX3_letHold_11 : decode cX3_letHold 11 = .ok (.iload_n 2, 1) := by decide +kernel
theorem dX3_letHold_12 : decode cX3_letHold 12 = .ok (.invokestatic 40, 3) := by decide +kernel
theorem dX3_letHold_15 : decode cX3_letHold 15 = .ok (.iload_n 3, 1) := by decide +kernel
theorem dX3_letHold_16 : decode cX3_letHold 16 = .ok (.ireturn, 1) := by decide +kernel
theorem dX3_valuesRead_0 : decode cX3_valuesRead 0 = .ok (.aload_n 0, 1) := by decide +kernel
theorem dX3_valuesRead_1 : decode cX3_valuesRead 1 = .ok (.getfield 21, 3) := by decide +kernel
theorem dX3_valuesRead_4 : decode cX3_valuesRead 4 = .ok (.iload_n 1, 1) := by decide +kernel
theorem dX3_valuesRead_5 : decode cX3_valuesRead 5 = .ok (.aload_n 0, 1) := by decide +kernel
theorem dX3_valuesRead_6 : decode cX3_valuesRead 6 = .ok (.getfield 29, 3) := by decide +kernel
theorem dX3_valuesRead_9 : decode cX3_valuesRead 9 = .ok (.invokevirtual 44, 3) := by decide +kernel
theorem dX3_valuesRead_12 : decode cX3_valuesRead 12 = .ok (.aload_n 0, 1) := by decide +kernel
theorem dX3_valuesRead_13 : decode cX3_valuesRead 13 = .ok (.getfield 12, 3) := by decide +kernel
theorem dX3_valuesRead_16 : decode cX3_valuesRead 16 = .ok (.aload_n 0, 1) := by decide +kernel
theorem dX3_valuesRead_17 : decode cX3_valuesRead 17 = .ok (.getfield 29, 3) := by decide +kernel
theorem dX3_valuesRead_20 : decode cX3_valuesRead 20 = .ok (.aload_n 0, 1) := by decide +kernel
theorem dX3_valuesRead_21 : decode cX3_valuesRead 21 = .ok (.getfield 21, 3) := by decide +kernel
theorem dX3_valuesRead_24 : decode cX3_valuesRead 24 = .ok (.iload_n 1, 1) := by decide +kernel
theorem dX3_valuesRead_25 : decode cX3_valuesRead 25 = .ok (.invokevirtual 48, 3) := by decide +kernel
theorem dX3_valuesRead_28 : decode cX3_valuesRead 28 = .ok (.iload_n 2, 1) := by decide +kernel
theorem dX3_valuesRead_29 : decode cX3_valuesRead 29 = .ok (.invokevirtual 51, 3) := by decide +kernel
theorem dX3_valuesRead_32 : decode cX3_valuesRead 32 = .ok (.aload_n 0, 1) := by decide +kernel
theorem dX3_valuesRead_33 : decode cX3_valuesRead 33 = .ok (.getfield 12, 3) := by decide +kernel
theorem dX3_valuesRead_36 : decode cX3_valuesRead 36 = .ok (.aload_n 0, 1) := by decide +kernel
theorem dX3_valuesRead_37 : decode cX3_valuesRead 37 = .ok (.getfield 29, 3) := by decide +kernel
theorem dX3_valuesRead_40 : decode cX3_valuesRead 40 = .ok (.aload_n 0, 1) := by decide +kernel
theorem dX3_valuesRead_41 : decode cX3_valuesRead 41 = .ok (.getfield 21, 3) := by decide +kernel
theorem dX3_valuesRead_44 : decode cX3_valuesRead 44 = .ok (.iload_n 1, 1) := by decide +kernel
theorem dX3_valuesRead_45 : decode cX3_valuesRead 45 = .ok (.invokevirtual 48, 3) := by decide +kernel
theorem dX3_valuesRead_48 : decode cX3_valuesRead 48 = .ok (.iload_n 2, 1) := by decide +kernel
theorem dX3_valuesRead_49 : decode cX3_valuesRead 49 = .ok (.invokevirtual 54, 3) := by decide +kernel
theorem dX3_valuesRead_52 : decode cX3_valuesRead 52 = .ok (.aload_n 0, 1) := by decide +kernel
theorem dX3_valuesRead_53 : decode cX3_valuesRead 53 = .ok (.getfield 29, 3) := by decide +kernel
theorem dX3_valuesRead_56 : decode cX3_valuesRead 56 = .ok (.areturn, 1) := by decide +kernel
theorem dX3_valueRead_0 : decode cX3_valueRead 0 = .ok (.aload_n 0, 1) := by decide +kernel
theorem dX3_valueRead_1 : decode cX3_valueRead 1 = .ok (.getfield 12, 3) := by decide +kernel
theorem dX3_valueRead_4 : decode cX3_valueRead 4 = .ok (.iload_n 2, 1) := by decide +kernel
theorem dX3_valueRead_5 : decode cX3_valueRead 5 = .ok (.iload_n 3, 1) := by decide +kernel
theorem dX3_valueRead_6 : decode cX3_valueRead 6 = .ok (.invokevirtual 57, 3) := by decide +kernel
theorem dX3_valueRead_9 : decode cX3_valueRead 9 = .ok (.istore 4, 2) := by decide +kernel
theorem dX3_valueRead_11 : decode cX3_valueRead 11 = .ok (.iload 4, 2) := by decide +kernel
theorem dX3_valueRead_13 : decode cX3_valueRead 13 = .ok (.iconst (-1), 1) := by decide +kernel
theorem dX3_valueRead_14 : decode cX3_valueRead 14 = .ok (.if_icmp .ne 7, 3) := by decide +kernel
theorem dX3_valueRead_17 : decode cX3_valueRead 17 = .ok (.iconst (-1), 1) := by decide +kernel
theorem dX3_valueRead_18 : decode cX3_valueRead 18 = .ok (.goto 14, 3) := by decide +kernel
theorem dX3_valueRead_21 : decode cX3_valueRead 21 = .ok (.aload_n 0, 1) := by decide +kernel
theorem dX3_valueRead_22 : decode cX3_valueRead 22 = .ok (.iload_n 1, 1) := by decide +kernel
theorem dX3_valueRead_23 : decode cX3_valueRead 23 = .ok (.iload_n 2, 1) := by decide +kernel
theorem dX3_valueRead_24 : decode cX3_valueRead 24 = .ok (.invokevirtual 61, 3) := by decide +kernel
theorem dX3_valueRead_27 : decode cX3_valueRead 27 = .ok (.iload 4, 2) := by decide +kernel
theorem dX3_valueRead_29 : decode cX3_valueRead 29 = .ok (.invokestatic 32, 3) := by decide +kernel
theorem dX3_valueRead_32 : decode cX3_valueRead 32 = .ok (.ireturn, 1) := by decide +kernel
theorem dX3_refusal_0 : decode cX3_refusal 0 = .ok (.aload_n 0, 1) := by decide +kernel
theorem dX3_refusal_1 : decode cX3_refusal 1 = .ok (.getfield 12, 3) := by decide +kernel
theorem dX3_refusal_4 : decode cX3_refusal 4 = .ok (.iload_n 2, 1) := by decide +kernel
theorem dX3_refusal_5 : decode cX3_refusal 5 = .ok (.iload_n 3, 1) := by decide +kernel
theorem dX3_refusal_6 : decode cX3_refusal 6 = .ok (.invokevirtual 57, 3) := by decide +kernel
theorem dX3_refusal_9 : decode cX3_refusal 9 = .ok (.istore 4, 2) := by decide +kernel
theorem dX3_refusal_11 : decode cX3_refusal 11 = .ok (.iload 4, 2) := by decide +kernel
theorem dX3_refusal_13 : decode cX3_refusal 13 = .ok (.iconst (-1), 1) := by decide +kernel
theorem dX3_refusal_14 : decode cX3_refusal 14 = .ok (.if_icmp .ne 5, 3) := by decide +kernel
theorem dX3_refusal_17 : decode cX3_refusal 17 = .ok (.iconst 1, 1) := by decide +kernel
theorem dX3_refusal_18 : decode cX3_refusal 18 = .ok (.ireturn, 1) := by decide +kernel
theorem dX3_refusal_19 : decode cX3_refusal 19 = .ok (.aload_n 0, 1) := by decide +kernel
theorem dX3_refusal_20 : decode cX3_refusal 20 = .ok (.getfield 21, 3) := by decide +kernel
theorem dX3_refusal_23 : decode cX3_refusal 23 = .ok (.iload_n 1, 1) := by decide +kernel
theorem dX3_refusal_24 : decode cX3_refusal 24 = .ok (.invokevirtual 48, 3) := by decide +kernel
theorem dX3_refusal_27 : decode cX3_refusal 27 = .ok (.istore 5, 2) := by decide +kernel
theorem dX3_refusal_29 : decode cX3_refusal 29 = .ok (.iload 5, 2) := by decide +kernel
theorem dX3_refusal_31 : decode cX3_refusal 31 = .ok (.iload_n 2, 1) := by decide +kernel
theorem dX3_refusal_32 : decode cX3_refusal 32 = .ok (.if_icmp .lt 17, 3) := by decide +kernel
theorem dX3_refusal_35 : decode cX3_refusal 35 = .ok (.aload_n 0, 1) := by decide +kernel
theorem dX3_refusal_36 : decode cX3_refusal 36 = .ok (.getfield 12, 3) := by decide +kernel
theorem dX3_refusal_39 : decode cX3_refusal 39 = .ok (.iload 5, 2) := by decide +kernel
theorem dX3_refusal_41 : decode cX3_refusal 41 = .ok (.iload 4, 2) := by decide +kernel
theorem dX3_refusal_43 : decode cX3_refusal 43 = .ok (.invokevirtual 65, 3) := by decide +kernel
theorem dX3_refusal_46 : decode cX3_refusal 46 = .ok (.ifCond .eq 7, 3) := by decide +kernel
theorem dX3_refusal_49 : decode cX3_refusal 49 = .ok (.iconst 0, 1) := by decide +kernel
theorem dX3_refusal_50 : decode cX3_refusal 50 = .ok (.goto 4, 3) := by decide +kernel
theorem dX3_refusal_53 : decode cX3_refusal 53 = .ok (.iconst 2, 1) := by decide +kernel
theorem dX3_refusal_54 : decode cX3_refusal 54 = .ok (.ireturn, 1) := by decide +kernel
theorem dX3_writeValue_0 : decode cX3_writeValue 0 = .ok (.aload_n 0, 1) := by decide +kernel
theorem dX3_writeValue_1 : decode cX3_writeValue 1 = .ok (.getfield 12, 3) := by decide +kernel
theorem dX3_writeValue_4 : decode cX3_writeValue 4 = .ok (.iload_n 2, 1) := by decide +kernel
theorem dX3_writeValue_5 : decode cX3_writeValue 5 = .ok (.iload_n 3, 1) := by decide +kernel
theorem dX3_writeValue_6 : decode cX3_writeValue 6 = .ok (.invokevirtual 57, 3) := by decide +kernel
theorem dX3_writeValue_9 : decode cX3_writeValue 9 = .ok (.istore 5, 2) := by decide +kernel
theorem dX3_writeValue_11 : decode cX3_writeValue 11 = .ok (.aload_n 0, 1) := by decide +kernel
theorem dX3_writeValue_12 : decode cX3_writeValue 12 = .ok (.getfield 12, 3) := by decide +kernel
theorem dX3_writeValue_15 : decode cX3_writeValue 15 = .ok (.aload_n 0, 1) := by decide +kernel
theorem dX3_writeValue_16 : decode cX3_writeValue 16 = .ok (.getfield 21, 3) := by decide +kernel
theorem dX3_writeValue_19 : decode cX3_writeValue 19 = .ok (.iload_n 1, 1) := by decide +kernel
theorem dX3_writeValue_20 : decode cX3_writeValue 20 = .ok (.invokevirtual 48, 3) := by decide +kernel
theorem dX3_writeValue_23 : decode cX3_writeValue 23 = .ok (.iload 5, 2) := by decide +kernel
theorem dX3_writeValue_25 : decode cX3_writeValue 25 = .ok (.invokevirtual 65, 3) := by decide +kernel
theorem dX3_writeValue_28 : decode cX3_writeValue 28 = .ok (.ifCond .ne 18, 3) := by decide +kernel
theorem dX3_writeValue_31 : decode cX3_writeValue 31 = .ok (.aload_n 0, 1) := by decide +kernel
theorem dX3_writeValue_32 : decode cX3_writeValue 32 = .ok (.getfield 21, 3) := by decide +kernel
theorem dX3_writeValue_35 : decode cX3_writeValue 35 = .ok (.iload_n 1, 1) := by decide +kernel
theorem dX3_writeValue_36 : decode cX3_writeValue 36 = .ok (.iload_n 2, 1) := by decide +kernel
theorem dX3_writeValue_37 : decode cX3_writeValue 37 = .ok (.aload_n 0, 1) := by decide +kernel
theorem dX3_writeValue_38 : decode cX3_writeValue 38 = .ok (.iload_n 1, 1) := by decide +kernel
theorem dX3_writeValue_39 : decode cX3_writeValue 39 = .ok (.iload_n 2, 1) := by decide +kernel
theorem dX3_writeValue_40 : decode cX3_writeValue 40 = .ok (.invokevirtual 61, 3) := by decide +kernel
theorem dX3_writeValue_43 : decode cX3_writeValue 43 = .ok (.invokevirtual 69, 3) := by decide +kernel
theorem dX3_writeValue_46 : decode cX3_writeValue 46 = .ok (.aload_n 0, 1) := by decide +kernel
theorem dX3_writeValue_47 : decode cX3_writeValue 47 = .ok (.getfield 21, 3) := by decide +kernel
theorem dX3_writeValue_50 : decode cX3_writeValue 50 = .ok (.iload_n 1, 1) := by decide +kernel
theorem dX3_writeValue_51 : decode cX3_writeValue 51 = .ok (.iload 5, 2) := by decide +kernel
theorem dX3_writeValue_53 : decode cX3_writeValue 53 = .ok (.iload 4, 2) := by decide +kernel
theorem dX3_writeValue_55 : decode cX3_writeValue 55 = .ok (.invokevirtual 73, 3) := by decide +kernel
theorem dX3_writeValue_58 : decode cX3_writeValue 58 = .ok (.aload_n 0, 1) := by decide +kernel
theorem dX3_writeValue_59 : decode cX3_writeValue 59 = .ok (.getfield 21, 3) := by decide +kernel
theorem dX3_writeValue_62 : decode cX3_writeValue 62 = .ok (.iload_n 1, 1) := by decide +kernel
theorem dX3_writeValue_63 : decode cX3_writeValue 63 = .ok (.invokevirtual 48, 3) := by decide +kernel
theorem dX3_writeValue_66 : decode cX3_writeValue 66 = .ok (.ireturn, 1) := by decide +kernel
theorem dX3_stepOn_0 : decode cX3_stepOn 0 = .ok (.aload_n 0, 1) := by decide +kernel
theorem dX3_stepOn_1 : decode cX3_stepOn 1 = .ok (.getfield 21, 3) := by decide +kernel
theorem dX3_stepOn_4 : decode cX3_stepOn 4 = .ok (.invokevirtual 77, 3) := by decide +kernel
theorem dX3_stepOn_7 : decode cX3_stepOn 7 = .ok (.istore_n 2, 1) := by decide +kernel
theorem dX3_stepOn_8 : decode cX3_stepOn 8 = .ok (.iconst 0, 1) := by decide +kernel
theorem dX3_stepOn_9 : decode cX3_stepOn 9 = .ok (.istore_n 3, 1) := by decide +kernel
theorem dX3_stepOn_10 : decode cX3_stepOn 10 = .ok (.iload_n 3, 1) := by decide +kernel
theorem dX3_stepOn_11 : decode cX3_stepOn 11 = .ok (.iload_n 1, 1) := by decide +kernel
theorem dX3_stepOn_12 : decode cX3_stepOn 12 = .ok (.if_icmp .ge 13, 3) := by decide +kernel
theorem dX3_stepOn_15 : decode cX3_stepOn 15 = .ok (.aload_n 0, 1) := by decide +kernel
theorem dX3_stepOn_16 : decode cX3_stepOn 16 = .ok (.invokevirtual 81, 3) := by decide +kernel
theorem dX3_stepOn_19 : decode cX3_stepOn 19 = .ok (.iinc 3 1, 3) := by decide +kernel
theorem dX3_stepOn_22 : decode cX3_stepOn 22 = .ok (.goto (-12), 3) := by decide +kernel
theorem dX3_stepOn_25 : decode cX3_stepOn 25 = .ok (.aload_n 0, 1) := by decide +kernel
theorem dX3_stepOn_26 : decode cX3_stepOn 26 = .ok (.getfield 21, 3) := by decide +kernel
theorem dX3_stepOn_29 : decode cX3_stepOn 29 = .ok (.invokevirtual 77, 3) := by decide +kernel
theorem dX3_stepOn_32 : decode cX3_stepOn 32 = .ok (.iload_n 2, 1) := by decide +kernel
theorem dX3_stepOn_33 : decode cX3_stepOn 33 = .ok (.isub, 1) := by decide +kernel
theorem dX3_stepOn_34 : decode cX3_stepOn 34 = .ok (.ireturn, 1) := by decide +kernel
theorem dX3_stepsLeft_0 : decode cX3_stepsLeft 0 = .ok (.iconst 0, 1) := by decide +kernel
theorem dX3_stepsLeft_1 : decode cX3_stepsLeft 1 = .ok (.istore_n 1, 1) := by decide +kernel
theorem dX3_stepsLeft_2 : decode cX3_stepsLeft 2 = .ok (.iconst 0, 1) := by decide +kernel
theorem dX3_stepsLeft_3 : decode cX3_stepsLeft 3 = .ok (.istore_n 2, 1) := by decide +kernel
theorem dX3_stepsLeft_4 : decode cX3_stepsLeft 4 = .ok (.iload_n 2, 1) := by decide +kernel
theorem dX3_stepsLeft_5 : decode cX3_stepsLeft 5 = .ok (.aload_n 0, 1) := by decide +kernel
theorem dX3_stepsLeft_6 : decode cX3_stepsLeft 6 = .ok (.getfield 21, 3) := by decide +kernel
theorem dX3_stepsLeft_9 : decode cX3_stepsLeft 9 = .ok (.invokevirtual 84, 3) := by decide +kernel
theorem dX3_stepsLeft_12 : decode cX3_stepsLeft 12 = .ok (.if_icmp .ge 54, 3) := by decide +kernel
theorem dX3_stepsLeft_15 : decode cX3_stepsLeft 15 = .ok (.aload_n 0, 1) := by decide +kernel
theorem dX3_stepsLeft_16 : decode cX3_stepsLeft 16 = .ok (.getfield 21, 3) := by decide +kernel
theorem dX3_stepsLeft_19 : decode cX3_stepsLeft 19 = .ok (.invokevirtual 87, 3) := by decide +kernel
theorem dX3_stepsLeft_22 : decode cX3_stepsLeft 22 = .ok (.iload_n 2, 1) := by decide +kernel
theorem dX3_stepsLeft_23 : decode cX3_stepsLeft 23 = .ok (.iadd, 1) := by decide +kernel
theorem dX3_stepsLeft_24 : decode cX3_stepsLeft 24 = .ok (.istore_n 3, 1) := by decide +kernel
theorem dX3_stepsLeft_25 : decode cX3_stepsLeft 25 = .ok (.aload_n 0, 1) := by decide +kernel
theorem dX3_stepsLeft_26 : decode cX3_stepsLeft 26 = .ok (.iload_n 3, 1) := by decide +kernel
theorem dX3_stepsLeft_27 : decode cX3_stepsLeft 27 = .ok (.aload_n 0, 1) := by decide +kernel
theorem dX3_stepsLeft_28 : decode cX3_stepsLeft 28 = .ok (.getfield 21, 3) := by decide +kernel
theorem dX3_stepsLeft_31 : decode cX3_stepsLeft 31 = .ok (.invokevirtual 84, 3) := by decide +kernel
theorem dX3_stepsLeft_34 : decode cX3_stepsLeft 34 = .ok (.if_icmp .ge 7, 3) := by decide +kernel
theorem dX3_stepsLeft_37 : decode cX3_stepsLeft 37 = .ok (.iload_n 3, 1) := by decide +kernel
theorem dX3_stepsLeft_38 : decode cX3_stepsLeft 38 = .ok (.goto 12, 3) := by decide +kernel
theorem dX3_stepsLeft_41 : decode cX3_stepsLeft 41 = .ok (.iload_n 3, 1) := by decide +kernel
theorem dX3_stepsLeft_42 : decode cX3_stepsLeft 42 = .ok (.aload_n 0, 1) := by decide +kernel
theorem dX3_stepsLeft_43 : decode cX3_stepsLeft 43 = .ok (.getfield 21, 3) := by decide +kernel
theorem dX3_stepsLeft_46 : decode cX3_stepsLeft 46 = .ok (.invokevirtual 84, 3) := by decide +kernel
theorem dX3_stepsLeft_49 : decode cX3_stepsLeft 49 = .ok (.isub, 1) := by decide +kernel
theorem dX3_stepsLeft_50 : decode cX3_stepsLeft 50 = .ok (.invokevirtual 90, 3) := by decide +kernel
theorem dX3_stepsLeft_53 : decode cX3_stepsLeft 53 = .ok (.ifCond .eq 7, 3) := by decide +kernel
theorem dX3_stepsLeft_56 : decode cX3_stepsLeft 56 = .ok (.iload_n 2, 1) := by decide +kernel
theorem dX3_stepsLeft_57 : decode cX3_stepsLeft 57 = .ok (.iconst 1, 1) := by decide +kernel
theorem dX3_stepsLeft_58 : decode cX3_stepsLeft 58 = .ok (.iadd, 1) := by decide +kernel
theorem dX3_stepsLeft_59 : decode cX3_stepsLeft 59 = .ok (.istore_n 1, 1) := by decide +kernel
theorem dX3_stepsLeft_60 : decode cX3_stepsLeft 60 = .ok (.iinc 2 1, 3) := by decide +kernel
theorem dX3_stepsLeft_63 : decode cX3_stepsLeft 63 = .ok (.goto (-59), 3) := by decide +kernel
theorem dX3_stepsLeft_66 : decode cX3_stepsLeft 66 = .ok (.iload_n 1, 1) := by decide +kernel
theorem dX3_stepsLeft_67 : decode cX3_stepsLeft 67 = .ok (.ireturn, 1) := by decide +kernel
theorem dX3_rowsBehind_0 : decode cX3_rowsBehind 0 = .ok (.aload_n 0, 1) := by decide +kernel
theorem dX3_rowsBehind_1 : decode cX3_rowsBehind 1 = .ok (.getfield 21, 3) := by decide +kernel
theorem dX3_rowsBehind_4 : decode cX3_rowsBehind 4 = .ok (.invokevirtual 84, 3) := by decide +kernel
theorem dX3_rowsBehind_7 : decode cX3_rowsBehind 7 = .ok (.aload_n 0, 1) := by decide +kernel
theorem dX3_rowsBehind_8 : decode cX3_rowsBehind 8 = .ok (.aload_n 0, 1) := by decide +kernel
theorem dX3_rowsBehind_9 : decode cX3_rowsBehind 9 = .ok (.getfield 12, 3) := by decide +kernel
theorem dX3_rowsBehind_12 : decode cX3_rowsBehind 12 = .ok (.invokevirtual 94, 3) := by decide +kernel
theorem dX3_rowsBehind_15 : decode cX3_rowsBehind 15 = .ok (.invokevirtual 97, 3) := by decide +kernel
theorem dX3_rowsBehind_18 : decode cX3_rowsBehind 18 = .ok (.isub, 1) := by decide +kernel
theorem dX3_rowsBehind_19 : decode cX3_rowsBehind 19 = .ok (.ireturn, 1) := by decide +kernel
theorem dX3_oldestNeeded_0 : decode cX3_oldestNeeded 0 = .ok (.aload_n 0, 1) := by decide +kernel
theorem dX3_oldestNeeded_1 : decode cX3_oldestNeeded 1 = .ok (.getfield 12, 3) := by decide +kernel
theorem dX3_oldestNeeded_4 : decode cX3_oldestNeeded 4 = .ok (.invokevirtual 94, 3) := by decide +kernel
theorem dX3_oldestNeeded_7 : decode cX3_oldestNeeded 7 = .ok (.istore_n 1, 1) := by decide +kernel
theorem dX3_oldestNeeded_8 : decode cX3_oldestNeeded 8 = .ok (.iconst 0, 1) := by decide +kernel
theorem dX3_oldestNeeded_9 : decode cX3_oldestNeeded 9 = .ok (.istore_n 2, 1) := by decide +kernel
theorem dX3_oldestNeeded_10 : decode cX3_oldestNeeded 10 = .ok (.iload_n 2, 1) := by decide +kernel
theorem dX3_oldestNeeded_11 : decode cX3_oldestNeeded 11 = .ok (.aload_n 0, 1) := by decide +kernel
theorem dX3_oldestNeeded_12 : decode cX3_oldestNeeded 12 = .ok (.getfield 21, 3) := by decide +kernel
theorem dX3_oldestNeeded_15 : decode cX3_oldestNeeded 15 = .ok (.invokevirtual 84, 3) := by decide +kernel
theorem dX3_oldestNeeded_18 : decode cX3_oldestNeeded 18 = .ok (.if_icmp .ge 22, 3) := by decide +kernel
theorem dX3_oldestNeeded_21 : decode cX3_oldestNeeded 21 = .ok (.iload_n 1, 1) := by decide +kernel
theorem dX3_oldestNeeded_22 : decode cX3_oldestNeeded 22 = .ok (.aload_n 0, 1) := by decide +kernel
theorem dX3_oldestNeeded_23 : decode cX3_oldestNeeded 23 = .ok (.getfield 21, 3) := by decide +kernel
theorem dX3_oldestNeeded_26 : decode cX3_oldestNeeded 26 = .ok (.iload_n 2, 1) := by decide +kernel
theorem dX3_oldestNeeded_27 : decode cX3_oldestNeeded 27 = .ok (.invokevirtual 48, 3) := by decide +kernel
theorem dX3_oldestNeeded_30 : decode cX3_oldestNeeded 30 = .ok (.invokestatic 100, 3) := by decide +kernel
theorem dX3_oldestNeeded_33 : decode cX3_oldestNeeded 33 = .ok (.istore_n 1, 1) := by decide +kernel
theorem dX3_oldestNeeded_34 : decode cX3_oldestNeeded 34 = .ok (.iinc 2 1, 3) := by decide +kernel
theorem dX3_oldestNeeded_37 : decode cX3_oldestNeeded 37 = .ok (.goto (-27), 3) := by decide +kernel
theorem dX3_oldestNeeded_40 : decode cX3_oldestNeeded 40 = .ok (.iconst 0, 1) := by decide +kernel
theorem dX3_oldestNeeded_41 : decode cX3_oldestNeeded 41 = .ok (.istore_n 2, 1) := by decide +kernel
theorem dX3_oldestNeeded_42 : decode cX3_oldestNeeded 42 = .ok (.iload_n 2, 1) := by decide +kernel
theorem dX3_oldestNeeded_43 : decode cX3_oldestNeeded 43 = .ok (.iconst 4, 1) := by decide +kernel
theorem dX3_oldestNeeded_44 : decode cX3_oldestNeeded 44 = .ok (.if_icmp .ge 19, 3) := by decide +kernel
theorem dX3_oldestNeeded_47 : decode cX3_oldestNeeded 47 = .ok (.iload_n 1, 1) := by decide +kernel
theorem dX3_oldestNeeded_48 : decode cX3_oldestNeeded 48 = .ok (.aload_n 0, 1) := by decide +kernel
theorem dX3_oldestNeeded_49 : decode cX3_oldestNeeded 49 = .ok (.iload_n 2, 1) := by decide +kernel
theorem dX3_oldestNeeded_50 : decode cX3_oldestNeeded 50 = .ok (.invokevirtual 36, 3) := by decide +kernel
theorem dX3_oldestNeeded_53 : decode cX3_oldestNeeded 53 = .ok (.invokestatic 100, 3) := by decide +kernel
theorem dX3_oldestNeeded_56 : decode cX3_oldestNeeded 56 = .ok (.istore_n 1, 1) := by decide +kernel
theorem dX3_oldestNeeded_57 : decode cX3_oldestNeeded 57 = .ok (.iinc 2 1, 3) := by decide +kernel
theorem dX3_oldestNeeded_60 : decode cX3_oldestNeeded 60 = .ok (.goto (-18), 3) := by decide +kernel
theorem dX3_oldestNeeded_63 : decode cX3_oldestNeeded 63 = .ok (.iload_n 1, 1) := by decide +kernel
theorem dX3_oldestNeeded_64 : decode cX3_oldestNeeded 64 = .ok (.ireturn, 1) := by decide +kernel
theorem dX3_valuesLost_0 : decode cX3_valuesLost 0 = .ok (.aload_n 0, 1) := by decide +kernel
theorem dX3_valuesLost_1 : decode cX3_valuesLost 1 = .ok (.getfield 21, 3) := by decide +kernel
theorem dX3_valuesLost_4 : decode cX3_valuesLost 4 = .ok (.iload_n 1, 1) := by decide +kernel
theorem dX3_valuesLost_5 : decode cX3_valuesLost 5 = .ok (.invokevirtual 48, 3) := by decide +kernel
theorem dX3_valuesLost_8 : decode cX3_valuesLost 8 = .ok (.istore_n 3, 1) := by decide +kernel
theorem dX3_valuesLost_9 : decode cX3_valuesLost 9 = .ok (.aload_n 0, 1) := by decide +kernel
theorem dX3_valuesLost_10 : decode cX3_valuesLost 10 = .ok (.iload_n 1, 1) := by decide +kernel
theorem dX3_valuesLost_11 : decode cX3_valuesLost 11 = .ok (.iload_n 2, 1) := by decide +kernel
theorem dX3_valuesLost_12 : decode cX3_valuesLost 12 = .ok (.invokevirtual 61, 3) := by decide +kernel
theorem dX3_valuesLost_15 : decode cX3_valuesLost 15 = .ok (.astore 4, 2) := by decide +kernel
theorem dX3_valuesLost_17 : decode cX3_valuesLost 17 = .ok (.aload_n 0, 1) := by decide +kernel
theorem dX3_valuesLost_18 : decode cX3_valuesLost 18 = .ok (.getfield 12, 3) := by decide +kernel
theorem dX3_valuesLost_21 : decode cX3_valuesLost 21 = .ok (.aload 4, 2) := by decide +kernel
theorem dX3_valuesLost_23 : decode cX3_valuesLost 23 = .ok (.iload_n 2, 1) := by decide +kernel
theorem dX3_valuesLost_24 : decode cX3_valuesLost 24 = .ok (.iload_n 3, 1) := by decide +kernel
theorem dX3_valuesLost_25 : decode cX3_valuesLost 25 = .ok (.invokevirtual 51, 3) := by decide +kernel
theorem dX3_valuesLost_28 : decode cX3_valuesLost 28 = .ok (.aload_n 0, 1) := by decide +kernel
theorem dX3_valuesLost_29 : decode cX3_valuesLost 29 = .ok (.getfield 12, 3) := by decide +kernel
theorem dX3_valuesLost_32 : decode cX3_valuesLost 32 = .ok (.aload 4, 2) := by decide +kernel
theorem dX3_valuesLost_34 : decode cX3_valuesLost 34 = .ok (.iload_n 2, 1) := by decide +kernel
theorem dX3_valuesLost_35 : decode cX3_valuesLost 35 = .ok (.iload_n 3, 1) := by decide +kernel
theorem dX3_valuesLost_36 : decode cX3_valuesLost 36 = .ok (.invokevirtual 54, 3) := by decide +kernel
theorem dX3_valuesLost_39 : decode cX3_valuesLost 39 = .ok (.iconst 0, 1) := by decide +kernel
theorem dX3_valuesLost_40 : decode cX3_valuesLost 40 = .ok (.istore 5, 2) := by decide +kernel
theorem dX3_valuesLost_42 : decode cX3_valuesLost 42 = .ok (.iconst 0, 1) := by decide +kernel
theorem dX3_valuesLost_43 : decode cX3_valuesLost 43 = .ok (.istore 6, 2) := by decide +kernel
theorem dX3_valuesLost_45 : decode cX3_valuesLost 45 = .ok (.iload 6, 2) := by decide +kernel
theorem dX3_valuesLost_47 : decode cX3_valuesLost 47 = .ok (.aload_n 0, 1) := by decide +kernel
theorem dX3_valuesLost_48 : decode cX3_valuesLost 48 = .ok (.getfield 12, 3) := by decide +kernel
theorem dX3_valuesLost_51 : decode cX3_valuesLost 51 = .ok (.iload_n 3, 1) := by decide +kernel
theorem dX3_valuesLost_52 : decode cX3_valuesLost 52 = .ok (.invokevirtual 105, 3) := by decide +kernel
theorem dX3_valuesLost_55 : decode cX3_valuesLost 55 = .ok (.if_icmp .ge 44, 3) := by decide +kernel
theorem dX3_valuesLost_58 : decode cX3_valuesLost 58 = .ok (.aload_n 0, 1) := by decide +kernel
theorem dX3_valuesLost_59 : decode cX3_valuesLost 59 = .ok (.getfield 12, 3) := by decide +kernel
theorem dX3_valuesLost_62 : decode cX3_valuesLost 62 = .ok (.iload_n 3, 1) := by decide +kernel
theorem dX3_valuesLost_63 : decode cX3_valuesLost 63 = .ok (.iload 6, 2) := by decide +kernel
theorem dX3_valuesLost_65 : decode cX3_valuesLost 65 = .ok (.invokevirtual 108, 3) := by decide +kernel
theorem dX3_valuesLost_68 : decode cX3_valuesLost 68 = .ok (.istore 7, 2) := by decide +kernel
theorem dX3_valuesLost_70 : decode cX3_valuesLost 70 = .ok (.aload 4, 2) := by decide +kernel
theorem dX3_valuesLost_72 : decode cX3_valuesLost 72 = .ok (.iload 7, 2) := by decide +kernel
theorem dX3_valuesLost_74 : decode cX3_valuesLost 74 = .ok (.invokestatic 32, 3) := by decide +kernel
theorem dX3_valuesLost_77 : decode cX3_valuesLost 77 = .ok (.aload_n 0, 1) := by decide +kernel
theorem dX3_valuesLost_78 : decode cX3_valuesLost 78 = .ok (.getfield 21, 3) := by decide +kernel
theorem dX3_valuesLost_81 : decode cX3_valuesLost 81 = .ok (.iload_n 1, 1) := by decide +kernel
theorem dX3_valuesLost_82 : decode cX3_valuesLost 82 = .ok (.iload 7, 2) := by decide +kernel
theorem dX3_valuesLost_84 : decode cX3_valuesLost 84 = .ok (.invokevirtual 111, 3) := by decide +kernel
theorem dX3_valuesLost_87 : decode cX3_valuesLost 87 = .ok (.if_icmp .eq 6, 3) := by decide +kernel
theorem dX3_valuesLost_90 : decode cX3_valuesLost 90 = .ok (.iinc 5 1, 3) := by decide +kernel
theorem dX3_valuesLost_93 : decode cX3_valuesLost 93 = .ok (.iinc 6 1, 3) := by decide +kernel
theorem dX3_valuesLost_96 : decode cX3_valuesLost 96 = .ok (.goto (-51), 3) := by decide +kernel
theorem dX3_valuesLost_99 : decode cX3_valuesLost 99 = .ok (.iload 5, 2) := by decide +kernel
theorem dX3_valuesLost_101 : decode cX3_valuesLost 101 = .ok (.ireturn, 1) := by decide +kernel
theorem dX3_rowsWith_0 : decode cX3_rowsWith 0 = .ok (.iconst 0, 1) := by decide +kernel
theorem dX3_rowsWith_1 : decode cX3_rowsWith 1 = .ok (.istore 4, 2) := by decide +kernel
theorem dX3_rowsWith_3 : decode cX3_rowsWith 3 = .ok (.iconst 0, 1) := by decide +kernel
theorem dX3_rowsWith_4 : decode cX3_rowsWith 4 = .ok (.istore 5, 2) := by decide +kernel
theorem dX3_rowsWith_6 : decode cX3_rowsWith 6 = .ok (.iload 5, 2) := by decide +kernel
theorem dX3_rowsWith_8 : decode cX3_rowsWith 8 = .ok (.aload_n 0, 1) := by decide +kernel
theorem dX3_rowsWith_9 : decode cX3_rowsWith 9 = .ok (.getfield 21, 3) := by decide +kernel
theorem dX3_rowsWith_12 : decode cX3_rowsWith 12 = .ok (.invokevirtual 84, 3) := by decide +kernel
theorem dX3_rowsWith_15 : decode cX3_rowsWith 15 = .ok (.if_icmp .ge 30, 3) := by decide +kernel
theorem dX3_rowsWith_18 : decode cX3_rowsWith 18 = .ok (.aload_n 0, 1) := by decide +kernel
theorem dX3_rowsWith_19 : decode cX3_rowsWith 19 = .ok (.iload 5, 2) := by decide +kernel
theorem dX3_rowsWith_21 : decode cX3_rowsWith 21 = .ok (.iload_n 1, 1) := by decide +kernel
theorem dX3_rowsWith_22 : decode cX3_rowsWith 22 = .ok (.iload_n 2, 1) := by decide +kernel
theorem dX3_rowsWith_23 : decode cX3_rowsWith 23 = .ok (.invokevirtual 114, 3) := by decide +kernel
theorem dX3_rowsWith_26 : decode cX3_rowsWith 26 = .ok (.iload_n 3, 1) := by decide +kernel
theorem dX3_rowsWith_27 : decode cX3_rowsWith 27 = .ok (.if_icmp .ne 12, 3) := by decide +kernel
theorem dX3_rowsWith_30 : decode cX3_rowsWith 30 = .ok (.iload 4, 2) := by decide +kernel
theorem dX3_rowsWith_32 : decode cX3_rowsWith 32 = .ok (.iconst 1, 1) := by decide +kernel
theorem dX3_rowsWith_33 : decode cX3_rowsWith 33 = .ok (.iload 5, 2) := by decide +kernel
theorem dX3_rowsWith_35 : decode cX3_rowsWith 35 = .ok (.ishl, 1) := by decide +kernel
theorem dX3_rowsWith_36 : decode cX3_rowsWith 36 = .ok (.ior, 1) := by decide +kernel
theorem dX3_rowsWith_37 : decode cX3_rowsWith 37 = .ok (.istore 4, 2) := by decide +kernel
theorem dX3_rowsWith_39 : decode cX3_rowsWith 39 = .ok (.iinc 5 1, 3) := by decide +kernel
theorem dX3_rowsWith_42 : decode cX3_rowsWith 42 = .ok (.goto (-36), 3) := by decide +kernel
theorem dX3_rowsWith_45 : decode cX3_rowsWith 45 = .ok (.iload 4, 2) := by decide +kernel
theorem dX3_rowsWith_47 : decode cX3_rowsWith 47 = .ok (.ireturn, 1) := by decide +kernel
theorem dX3_shapeProperty_0 : decode cX3_shapeProperty 0 = .ok (.iload_n 2, 1) := by decide +kernel
theorem dX3_shapeProperty_1 : decode cX3_shapeProperty 1 = .ok (.tableswitch 82 0 4 #[35, 44, 53, 59, 65], 35) := by decide +kernel
theorem dX3_shapeProperty_36 : decode cX3_shapeProperty 36 = .ok (.aload_n 0, 1) := by decide +kernel
theorem dX3_shapeProperty_37 : decode cX3_shapeProperty 37 = .ok (.getfield 12, 3) := by decide +kernel
theorem dX3_shapeProperty_40 : decode cX3_shapeProperty 40 = .ok (.iload_n 1, 1) := by decide +kernel
theorem dX3_shapeProperty_41 : decode cX3_shapeProperty 41 = .ok (.invokevirtual 105, 3) := by decide +kernel
theorem dX3_shapeProperty_44 : decode cX3_shapeProperty 44 = .ok (.ireturn, 1) := by decide +kernel
theorem dX3_shapeProperty_45 : decode cX3_shapeProperty 45 = .ok (.aload_n 0, 1) := by decide +kernel
theorem dX3_shapeProperty_46 : decode cX3_shapeProperty 46 = .ok (.getfield 12, 3) := by decide +kernel
theorem dX3_shapeProperty_49 : decode cX3_shapeProperty 49 = .ok (.iload_n 1, 1) := by decide +kernel
theorem dX3_shapeProperty_50 : decode cX3_shapeProperty 50 = .ok (.invokevirtual 118, 3) := by decide +kernel
theorem dX3_shapeProperty_53 : decode cX3_shapeProperty 53 = .ok (.ireturn, 1) := by decide +kernel
theorem dX3_shapeProperty_54 : decode cX3_shapeProperty 54 = .ok (.aload_n 0, 1) := by decide +kernel
theorem dX3_shapeProperty_55 : decode cX3_shapeProperty 55 = .ok (.iload_n 1, 1) := by decide +kernel
theorem dX3_shapeProperty_56 : decode cX3_shapeProperty 56 = .ok (.invokevirtual 97, 3) := by decide +kernel
theorem dX3_shapeProperty_59 : decode cX3_shapeProperty 59 = .ok (.ireturn, 1) := by decide +kernel
theorem dX3_shapeProperty_60 : decode cX3_shapeProperty 60 = .ok (.aload_n 0, 1) := by decide +kernel
theorem dX3_shapeProperty_61 : decode cX3_shapeProperty 61 = .ok (.iload_n 1, 1) := by decide +kernel
theorem dX3_shapeProperty_62 : decode cX3_shapeProperty 62 = .ok (.invokevirtual 121, 3) := by decide +kernel
theorem dX3_shapeProperty_65 : decode cX3_shapeProperty 65 = .ok (.ireturn, 1) := by decide +kernel
theorem dX3_shapeProperty_66 : decode cX3_shapeProperty 66 = .ok (.aload_n 0, 1) := by decide +kernel
theorem dX3_shapeProperty_67 : decode cX3_shapeProperty 67 = .ok (.getfield 12, 3) := by decide +kernel
theorem dX3_shapeProperty_70 : decode cX3_shapeProperty 70 = .ok (.iload_n 1, 1) := by decide +kernel
theorem dX3_shapeProperty_71 : decode cX3_shapeProperty 71 = .ok (.invokevirtual 124, 3) := by decide +kernel
theorem dX3_shapeProperty_74 : decode cX3_shapeProperty 74 = .ok (.ifCond .eq 7, 3) := by decide +kernel
theorem dX3_shapeProperty_77 : decode cX3_shapeProperty 77 = .ok (.iconst 1, 1) := by decide +kernel
theorem dX3_shapeProperty_78 : decode cX3_shapeProperty 78 = .ok (.goto 4, 3) := by decide +kernel
theorem dX3_shapeProperty_81 : decode cX3_shapeProperty 81 = .ok (.iconst 0, 1) := by decide +kernel
theorem dX3_shapeProperty_82 : decode cX3_shapeProperty 82 = .ok (.ireturn, 1) := by decide +kernel
theorem dX3_shapeProperty_83 : decode cX3_shapeProperty 83 = .ok (.aload_n 0, 1) := by decide +kernel
theorem dX3_shapeProperty_84 : decode cX3_shapeProperty 84 = .ok (.getfield 12, 3) := by decide +kernel
theorem dX3_shapeProperty_87 : decode cX3_shapeProperty 87 = .ok (.iload_n 1, 1) := by decide +kernel
theorem dX3_shapeProperty_88 : decode cX3_shapeProperty 88 = .ok (.invokevirtual 127, 3) := by decide +kernel
theorem dX3_shapeProperty_91 : decode cX3_shapeProperty 91 = .ok (.ireturn, 1) := by decide +kernel
theorem dX3_rowProperty_0 : decode cX3_rowProperty 0 = .ok (.aload_n 0, 1) := by decide +kernel
theorem dX3_rowProperty_1 : decode cX3_rowProperty 1 = .ok (.getfield 21, 3) := by decide +kernel
theorem dX3_rowProperty_4 : decode cX3_rowProperty 4 = .ok (.iload_n 1, 1) := by decide +kernel
theorem dX3_rowProperty_5 : decode cX3_rowProperty 5 = .ok (.invokevirtual 48, 3) := by decide +kernel
theorem dX3_rowProperty_8 : decode cX3_rowProperty 8 = .ok (.istore_n 3, 1) := by decide +kernel
theorem dX3_rowProperty_9 : decode cX3_rowProperty 9 = .ok (.iload_n 2, 1) := by decide +kernel
theorem dX3_rowProperty_10 : decode cX3_rowProperty 10 = .ok (.tableswitch 71 0 4 #[34, 36, 45, 55, 64], 34) := by decide +kernel
theorem dX3_rowProperty_44 : decode cX3_rowProperty 44 = .ok (.iload_n 3, 1) := by decide +kernel
theorem dX3_rowProperty_45 : decode cX3_rowProperty 45 = .ok (.ireturn, 1) := by decide +kernel
theorem dX3_rowProperty_46 : decode cX3_rowProperty 46 = .ok (.aload_n 0, 1) := by decide +kernel
theorem dX3_rowProperty_47 : decode cX3_rowProperty 47 = .ok (.getfield 12, 3) := by decide +kernel
theorem dX3_rowProperty_50 : decode cX3_rowProperty 50 = .ok (.iload_n 3, 1) := by decide +kernel
theorem dX3_rowProperty_51 : decode cX3_rowProperty 51 = .ok (.invokevirtual 105, 3) := by decide +kernel
theorem dX3_rowProperty_54 : decode cX3_rowProperty 54 = .ok (.ireturn, 1) := by decide +kernel
theorem dX3_rowProperty_55 : decode cX3_rowProperty 55 = .ok (.aload_n 0, 1) := by decide +kernel
theorem dX3_rowProperty_56 : decode cX3_rowProperty 56 = .ok (.getfield 12, 3) := by decide +kernel
theorem dX3_rowProperty_59 : decode cX3_rowProperty 59 = .ok (.invokevirtual 94, 3) := by decide +kernel
theorem dX3_rowProperty_62 : decode cX3_rowProperty 62 = .ok (.iload_n 3, 1) := by decide +kernel
theorem dX3_rowProperty_63 : decode cX3_rowProperty 63 = .ok (.isub, 1) := by decide +kernel
theorem dX3_rowProperty_64 : decode cX3_rowProperty 64 = .ok (.ireturn, 1) := by decide +kernel
theorem dX3_rowProperty_65 : decode cX3_rowProperty 65 = .ok (.aload_n 0, 1) := by decide +kernel
theorem dX3_rowProperty_66 : decode cX3_rowProperty 66 = .ok (.getfield 21, 3) := by decide +kernel
theorem dX3_rowProperty_69 : decode cX3_rowProperty 69 = .ok (.iload_n 1, 1) := by decide +kernel
theorem dX3_rowProperty_70 : decode cX3_rowProperty 70 = .ok (.invokevirtual 130, 3) := by decide +kernel
theorem dX3_rowProperty_73 : decode cX3_rowProperty 73 = .ok (.ireturn, 1) := by decide +kernel
theorem dX3_rowProperty_74 : decode cX3_rowProperty 74 = .ok (.aload_n 0, 1) := by decide +kernel
theorem dX3_rowProperty_75 : decode cX3_rowProperty 75 = .ok (.iload_n 1, 1) := by decide +kernel
theorem dX3_rowProperty_76 : decode cX3_rowProperty 76 = .ok (.iload_n 3, 1) := by decide +kernel
theorem dX3_rowProperty_77 : decode cX3_rowProperty 77 = .ok (.invokevirtual 133, 3) := by decide +kernel
theorem dX3_rowProperty_80 : decode cX3_rowProperty 80 = .ok (.ireturn, 1) := by decide +kernel
theorem dX3_rowProperty_81 : decode cX3_rowProperty 81 = .ok (.aload_n 0, 1) := by decide +kernel
theorem dX3_rowProperty_82 : decode cX3_rowProperty 82 = .ok (.iload_n 1, 1) := by decide +kernel
theorem dX3_rowProperty_83 : decode cX3_rowProperty 83 = .ok (.aload_n 0, 1) := by decide +kernel
theorem dX3_rowProperty_84 : decode cX3_rowProperty 84 = .ok (.getfield 12, 3) := by decide +kernel
theorem dX3_rowProperty_87 : decode cX3_rowProperty 87 = .ok (.invokevirtual 94, 3) := by decide +kernel
theorem dX3_rowProperty_90 : decode cX3_rowProperty 90 = .ok (.invokevirtual 133, 3) := by decide +kernel
theorem dX3_rowProperty_93 : decode cX3_rowProperty 93 = .ok (.ireturn, 1) := by decide +kernel
theorem dX3_takeFrom_0 : decode cX3_takeFrom 0 = .ok (.aload_n 0, 1) := by decide +kernel
theorem dX3_takeFrom_1 : decode cX3_takeFrom 1 = .ok (.getfield 12, 3) := by decide +kernel
theorem dX3_takeFrom_4 : decode cX3_takeFrom 4 = .ok (.aload_n 1, 1) := by decide +kernel
theorem dX3_takeFrom_5 : decode cX3_takeFrom 5 = .ok (.getfield 12, 3) := by decide +kernel
theorem dX3_takeFrom_8 : decode cX3_takeFrom 8 = .ok (.invokevirtual 136, 3) := by decide +kernel
theorem dX3_takeFrom_11 : decode cX3_takeFrom 11 = .ok (.aload_n 0, 1) := by decide +kernel
theorem dX3_takeFrom_12 : decode cX3_takeFrom 12 = .ok (.getfield 21, 3) := by decide +kernel
theorem dX3_takeFrom_15 : decode cX3_takeFrom 15 = .ok (.aload_n 1, 1) := by decide +kernel
theorem dX3_takeFrom_16 : decode cX3_takeFrom 16 = .ok (.getfield 21, 3) := by decide +kernel
theorem dX3_takeFrom_19 : decode cX3_takeFrom 19 = .ok (.invokevirtual 140, 3) := by decide +kernel
theorem dX3_takeFrom_22 : decode cX3_takeFrom 22 = .ok (.aload_n 1, 1) := by decide +kernel
theorem dX3_takeFrom_23 : decode cX3_takeFrom 23 = .ok (.getfield 25, 3) := by decide +kernel
theorem dX3_takeFrom_26 : decode cX3_takeFrom 26 = .ok (.aload_n 0, 1) := by decide +kernel
theorem dX3_takeFrom_27 : decode cX3_takeFrom 27 = .ok (.getfield 25, 3) := by decide +kernel
theorem dX3_takeFrom_30 : decode cX3_takeFrom 30 = .ok (.invokestatic 143, 3) := by decide +kernel
theorem dX3_takeFrom_33 : decode cX3_takeFrom 33 = .ok (.return_, 1) := by decide +kernel
theorem dX3_stepOnce_0 : decode cX3_stepOnce 0 = .ok (.aload_n 0, 1) := by decide +kernel
theorem dX3_stepOnce_1 : decode cX3_stepOnce 1 = .ok (.getfield 21, 3) := by decide +kernel
theorem dX3_stepOnce_4 : decode cX3_stepOnce 4 = .ok (.invokevirtual 84, 3) := by decide +kernel
theorem dX3_stepOnce_7 : decode cX3_stepOnce 7 = .ok (.ifCond .ne 4, 3) := by decide +kernel
theorem dX3_stepOnce_10 : decode cX3_stepOnce 10 = .ok (.return_, 1) := by decide +kernel
theorem dX3_stepOnce_11 : decode cX3_stepOnce 11 = .ok (.aload_n 0, 1) := by decide +kernel
theorem dX3_stepOnce_12 : decode cX3_stepOnce 12 = .ok (.getfield 21, 3) := by decide +kernel
theorem dX3_stepOnce_15 : decode cX3_stepOnce 15 = .ok (.invokevirtual 87, 3) := by decide +kernel
theorem dX3_stepOnce_18 : decode cX3_stepOnce 18 = .ok (.istore_n 1, 1) := by decide +kernel
theorem dX3_stepOnce_19 : decode cX3_stepOnce 19 = .ok (.aload_n 0, 1) := by decide +kernel
theorem dX3_stepOnce_20 : decode cX3_stepOnce 20 = .ok (.iload_n 1, 1) := by decide +kernel
theorem dX3_stepOnce_21 : decode cX3_stepOnce 21 = .ok (.invokevirtual 90, 3) := by decide +kernel
theorem dX3_stepOnce_24 : decode cX3_stepOnce 24 = .ok (.ifCond .eq 30, 3) := by decide +kernel
theorem dX3_stepOnce_27 : decode cX3_stepOnce 27 = .ok (.aload_n 0, 1) := by decide +kernel
theorem dX3_stepOnce_28 : decode cX3_stepOnce 28 = .ok (.getfield 21, 3) := by decide +kernel
theorem dX3_stepOnce_31 : decode cX3_stepOnce 31 = .ok (.iload_n 1, 1) := by decide +kernel
theorem dX3_stepOnce_32 : decode cX3_stepOnce 32 = .ok (.aload_n 0, 1) := by decide +kernel
theorem dX3_stepOnce_33 : decode cX3_stepOnce 33 = .ok (.getfield 12, 3) := by decide +kernel
theorem dX3_stepOnce_36 : decode cX3_stepOnce 36 = .ok (.invokevirtual 94, 3) := by decide +kernel
theorem dX3_stepOnce_39 : decode cX3_stepOnce 39 = .ok (.aload_n 0, 1) := by decide +kernel
theorem dX3_stepOnce_40 : decode cX3_stepOnce 40 = .ok (.iload_n 1, 1) := by decide +kernel
theorem dX3_stepOnce_41 : decode cX3_stepOnce 41 = .ok (.aload_n 0, 1) := by decide +kernel
theorem dX3_stepOnce_42 : decode cX3_stepOnce 42 = .ok (.getfield 12, 3) := by decide +kernel
theorem dX3_stepOnce_45 : decode cX3_stepOnce 45 = .ok (.invokevirtual 94, 3) := by decide +kernel
theorem dX3_stepOnce_48 : decode cX3_stepOnce 48 = .ok (.invokevirtual 61, 3) := by decide +kernel
theorem dX3_stepOnce_51 : decode cX3_stepOnce 51 = .ok (.invokevirtual 69, 3) := by decide +kernel
theorem dX3_stepOnce_54 : decode cX3_stepOnce 54 = .ok (.aload_n 0, 1) := by decide +kernel
theorem dX3_stepOnce_55 : decode cX3_stepOnce 55 = .ok (.getfield 21, 3) := by decide +kernel
theorem dX3_stepOnce_58 : decode cX3_stepOnce 58 = .ok (.iload_n 1, 1) := by decide +kernel
theorem dX3_stepOnce_59 : decode cX3_stepOnce 59 = .ok (.iconst 1, 1) := by decide +kernel
theorem dX3_stepOnce_60 : decode cX3_stepOnce 60 = .ok (.iadd, 1) := by decide +kernel
theorem dX3_stepOnce_61 : decode cX3_stepOnce 61 = .ok (.invokevirtual 147, 3) := by decide +kernel
theorem dX3_stepOnce_64 : decode cX3_stepOnce 64 = .ok (.return_, 1) := by decide +kernel
theorem dX3_isBehind_0 : decode cX3_isBehind 0 = .ok (.aload_n 0, 1) := by decide +kernel
theorem dX3_isBehind_1 : decode cX3_isBehind 1 = .ok (.getfield 21, 3) := by decide +kernel
theorem dX3_isBehind_4 : decode cX3_isBehind 4 = .ok (.iload_n 1, 1) := by decide +kernel
theorem dX3_isBehind_5 : decode cX3_isBehind 5 = .ok (.invokevirtual 48, 3) := by decide +kernel
theorem dX3_isBehind_8 : decode cX3_isBehind 8 = .ok (.aload_n 0, 1) := by decide +kernel
theorem dX3_isBehind_9 : decode cX3_isBehind 9 = .ok (.getfield 12, 3) := by decide +kernel
theorem dX3_isBehind_12 : decode cX3_isBehind 12 = .ok (.invokevirtual 94, 3) := by decide +kernel
theorem dX3_isBehind_15 : decode cX3_isBehind 15 = .ok (.if_icmp .ge 7, 3) := by decide +kernel
theorem dX3_isBehind_18 : decode cX3_isBehind 18 = .ok (.iconst 1, 1) := by decide +kernel
theorem dX3_isBehind_19 : decode cX3_isBehind 19 = .ok (.goto 4, 3) := by decide +kernel
theorem dX3_isBehind_22 : decode cX3_isBehind 22 = .ok (.iconst 0, 1) := by decide +kernel
theorem dX3_isBehind_23 : decode cX3_isBehind 23 = .ok (.ireturn, 1) := by decide +kernel
theorem dX3_sumRead_0 : decode cX3_sumRead 0 = .ok (.aload_n 0, 1) := by decide +kernel
theorem dX3_sumRead_1 : decode cX3_sumRead 1 = .ok (.iload_n 1, 1) := by decide +kernel
theorem dX3_sumRead_2 : decode cX3_sumRead 2 = .ok (.iload_n 2, 1) := by decide +kernel
theorem dX3_sumRead_3 : decode cX3_sumRead 3 = .ok (.invokevirtual 61, 3) := by decide +kernel
theorem dX3_sumRead_6 : decode cX3_sumRead 6 = .ok (.astore_n 3, 1) := by decide +kernel
theorem dX3_sumRead_7 : decode cX3_sumRead 7 = .ok (.iconst 0, 1) := by decide +kernel
theorem dX3_sumRead_8 : decode cX3_sumRead 8 = .ok (.istore 4, 2) := by decide +kernel
theorem dX3_sumRead_10 : decode cX3_sumRead 10 = .ok (.iconst 0, 1) := by decide +kernel
theorem dX3_sumRead_11 : decode cX3_sumRead 11 = .ok (.istore 5, 2) := by decide +kernel
theorem dX3_sumRead_13 : decode cX3_sumRead 13 = .ok (.iload 5, 2) := by decide +kernel
theorem dX3_sumRead_15 : decode cX3_sumRead 15 = .ok (.aload_n 0, 1) := by decide +kernel
theorem dX3_sumRead_16 : decode cX3_sumRead 16 = .ok (.getfield 12, 3) := by decide +kernel
theorem dX3_sumRead_19 : decode cX3_sumRead 19 = .ok (.iload_n 2, 1) := by decide +kernel
theorem dX3_sumRead_20 : decode cX3_sumRead 20 = .ok (.invokevirtual 105, 3) := by decide +kernel
theorem dX3_sumRead_23 : decode cX3_sumRead 23 = .ok (.if_icmp .ge 28, 3) := by decide +kernel
theorem dX3_sumRead_26 : decode cX3_sumRead 26 = .ok (.iload 4, 2) := by decide +kernel
theorem dX3_sumRead_28 : decode cX3_sumRead 28 = .ok (.aload_n 3, 1) := by decide +kernel
theorem dX3_sumRead_29 : decode cX3_sumRead 29 = .ok (.aload_n 0, 1) := by decide +kernel
theorem dX3_sumRead_30 : decode cX3_sumRead 30 = .ok (.getfield 12, 3) := by decide +kernel
theorem dX3_sumRead_33 : decode cX3_sumRead 33 = .ok (.iload_n 2, 1) := by decide +kernel
theorem dX3_sumRead_34 : decode cX3_sumRead 34 = .ok (.iload 5, 2) := by decide +kernel
theorem dX3_sumRead_36 : decode cX3_sumRead 36 = .ok (.invokevirtual 108, 3) := by decide +kernel
theorem dX3_sumRead_39 : decode cX3_sumRead 39 = .ok (.invokestatic 32, 3) := by decide +kernel
theorem dX3_sumRead_42 : decode cX3_sumRead 42 = .ok (.iadd, 1) := by decide +kernel
theorem dX3_sumRead_43 : decode cX3_sumRead 43 = .ok (.istore 4, 2) := by decide +kernel
theorem dX3_sumRead_45 : decode cX3_sumRead 45 = .ok (.iinc 5 1, 3) := by decide +kernel
theorem dX3_sumRead_48 : decode cX3_sumRead 48 = .ok (.goto (-35), 3) := by decide +kernel
theorem dX3_sumRead_51 : decode cX3_sumRead 51 = .ok (.iload 4, 2) := by decide +kernel
theorem dX3_sumRead_53 : decode cX3_sumRead 53 = .ok (.ireturn, 1) := by decide +kernel
theorem dX3_rowsOfShape_0 : decode cX3_rowsOfShape 0 = .ok (.iconst 0, 1) := by decide +kernel
theorem dX3_rowsOfShape_1 : decode cX3_rowsOfShape 1 = .ok (.istore_n 2, 1) := by decide +kernel
theorem dX3_rowsOfShape_2 : decode cX3_rowsOfShape 2 = .ok (.iconst 0, 1) := by decide +kernel
theorem dX3_rowsOfShape_3 : decode cX3_rowsOfShape 3 = .ok (.istore_n 3, 1) := by decide +kernel
theorem dX3_rowsOfShape_4 : decode cX3_rowsOfShape 4 = .ok (.iload_n 3, 1) := by decide +kernel
theorem dX3_rowsOfShape_5 : decode cX3_rowsOfShape 5 = .ok (.aload_n 0, 1) := by decide +kernel
theorem dX3_rowsOfShape_6 : decode cX3_rowsOfShape 6 = .ok (.getfield 21, 3) := by decide +kernel
theorem dX3_rowsOfShape_9 : decode cX3_rowsOfShape 9 = .ok (.invokevirtual 84, 3) := by decide +kernel
theorem dX3_rowsOfShape_12 : decode cX3_rowsOfShape 12 = .ok (.if_icmp .ge 24, 3) := by decide +kernel
theorem dX3_rowsOfShape_15 : decode cX3_rowsOfShape 15 = .ok (.aload_n 0, 1) := by decide +kernel
theorem dX3_rowsOfShape_16 : decode cX3_rowsOfShape 16 = .ok (.getfield 21, 3) := by decide +kernel
theorem dX3_rowsOfShape_19 : decode cX3_rowsOfShape 19 = .ok (.iload_n 3, 1) := by decide +kernel
theorem dX3_rowsOfShape_20 : decode cX3_rowsOfShape 20 = .ok (.invokevirtual 48, 3) := by decide +kernel
theorem dX3_rowsOfShape_23 : decode cX3_rowsOfShape 23 = .ok (.iload_n 1, 1) := by decide +kernel
theorem dX3_rowsOfShape_24 : decode cX3_rowsOfShape 24 = .ok (.if_icmp .ne 6, 3) := by decide +kernel
theorem dX3_rowsOfShape_27 : decode cX3_rowsOfShape 27 = .ok (.iinc 2 1, 3) := by decide +kernel
theorem dX3_rowsOfShape_30 : decode cX3_rowsOfShape 30 = .ok (.iinc 3 1, 3) := by decide +kernel
theorem dX3_rowsOfShape_33 : decode cX3_rowsOfShape 33 = .ok (.goto (-29), 3) := by decide +kernel
theorem dX3_rowsOfShape_36 : decode cX3_rowsOfShape 36 = .ok (.iload_n 2, 1) := by decide +kernel
theorem dX3_rowsOfShape_37 : decode cX3_rowsOfShape 37 = .ok (.ireturn, 1) := by decide +kernel
theorem dX3_readersOfShape_0 : decode cX3_readersOfShape 0 = .ok (.iconst 0, 1) := by decide +kernel
theorem dX3_readersOfShape_1 : decode cX3_readersOfShape 1 = .ok (.istore_n 2, 1) := by decide +kernel
theorem dX3_readersOfShape_2 : decode cX3_readersOfShape 2 = .ok (.iconst 0, 1) := by decide +kernel
theorem dX3_readersOfShape_3 : decode cX3_readersOfShape 3 = .ok (.istore_n 3, 1) := by decide +kernel
theorem dX3_readersOfShape_4 : decode cX3_readersOfShape 4 = .ok (.iload_n 3, 1) := by decide +kernel
theorem dX3_readersOfShape_5 : decode cX3_readersOfShape 5 = .ok (.iconst 4, 1) := by decide +kernel
theorem dX3_readersOfShape_6 : decode cX3_readersOfShape 6 = .ok (.if_icmp .ge 21, 3) := by decide +kernel
theorem dX3_readersOfShape_9 : decode cX3_readersOfShape 9 = .ok (.aload_n 0, 1) := by decide +kernel
theorem dX3_readersOfShape_10 : decode cX3_readersOfShape 10 = .ok (.iload_n 3, 1) := by decide +kernel
theorem dX3_readersOfShape_11 : decode cX3_readersOfShape 11 = .ok (.invokevirtual 36, 3) := by decide +kernel
theorem dX3_readersOfShape_14 : decode cX3_readersOfShape 14 = .ok (.iload_n 1, 1) := by decide +kernel
theorem dX3_readersOfShape_15 : decode cX3_readersOfShape 15 = .ok (.if_icmp .ne 6, 3) := by decide +kernel
theorem dX3_readersOfShape_18 : decode cX3_readersOfShape 18 = .ok (.iinc 2 1, 3) := by decide +kernel
theorem dX3_readersOfShape_21 : decode cX3_readersOfShape 21 = .ok (.iinc 3 1, 3) := by decide +kernel
theorem dX3_readersOfShape_24 : decode cX3_readersOfShape 24 = .ok (.goto (-20), 3) := by decide +kernel
theorem dX3_readersOfShape_27 : decode cX3_readersOfShape 27 = .ok (.iload_n 2, 1) := by decide +kernel
theorem dX3_readersOfShape_28 : decode cX3_readersOfShape 28 = .ok (.ireturn, 1) := by decide +kernel
theorem dX4_init_0 : decode cX4_init 0 = .ok (.aload_n 0, 1) := by decide +kernel
theorem dX4_init_1 : decode cX4_init 1 = .ok (.invokespecial 3, 3) := by decide +kernel
theorem dX4_init_4 : decode cX4_init 4 = .ok (.aload_n 0, 1) := by decide +kernel
theorem dX4_init_5 : decode cX4_init 5 = .ok (.bipush 60, 2) := by decide +kernel
theorem dX4_init_7 : decode cX4_init 7 = .ok (.newarray .int, 2) := by decide +kernel
theorem dX4_init_9 : decode cX4_init 9 = .ok (.putfield 9, 3) := by decide +kernel
theorem dX4_init_12 : decode cX4_init 12 = .ok (.aload_n 0, 1) := by decide +kernel
theorem dX4_init_13 : decode cX4_init 13 = .ok (.iconst 0, 1) := by decide +kernel
theorem dX4_init_14 : decode cX4_init 14 = .ok (.putfield 15, 3) := by decide +kernel
theorem dX4_init_17 : decode cX4_init 17 = .ok (.return_, 1) := by decide +kernel
theorem dX4_length_0 : decode cX4_length 0 = .ok (.aload_n 0, 1) := by decide +kernel
theorem dX4_length_1 : decode cX4_length 1 = .ok (.getfield 15, 3) := by decide +kernel
theorem dX4_length_4 : decode cX4_length 4 = .ok (.ireturn, 1) := by decide +kernel
theorem dX4_isFull_0 : decode cX4_isFull 0 = .ok (.aload_n 0, 1) := by decide +kernel
theorem dX4_isFull_1 : decode cX4_isFull 1 = .ok (.getfield 15, 3) := by decide +kernel
theorem dX4_isFull_4 : decode cX4_isFull 4 = .ok (.bipush 60, 2) := by decide +kernel
theorem dX4_isFull_6 : decode cX4_isFull 6 = .ok (.if_icmp .lt 7, 3) := by decide +kernel
theorem dX4_isFull_9 : decode cX4_isFull 9 = .ok (.iconst 1, 1) := by decide +kernel
theorem dX4_isFull_10 : decode cX4_isFull 10 = .ok (.goto 4, 3) := by decide +kernel
theorem dX4_isFull_13 : decode cX4_isFull 13 = .ok (.iconst 0, 1) := by decide +kernel
theorem dX4_isFull_14 : decode cX4_isFull 14 = .ok (.ireturn, 1) := by decide +kernel
theorem dX4_add_0 : decode cX4_add 0 = .ok (.aload_n 0, 1) := by decide +kernel
theorem dX4_add_1 : decode cX4_add 1 = .ok (.getfield 9, 3) := by decide +kernel
theorem dX4_add_4 : decode cX4_add 4 = .ok (.aload_n 0, 1) := by decide +kernel
theorem dX4_add_5 : decode cX4_add 5 = .ok (.getfield 15, 3) := by decide +kernel
theorem dX4_add_8 : decode cX4_add 8 = .ok (.iload_n 1, 1) := by decide +kernel
theorem dX4_add_9 : decode cX4_add 9 = .ok (.invokestatic 19, 3) := by decide +kernel
theorem dX4_add_12 : decode cX4_add 12 = .ok (.aload_n 0, 1) := by decide +kernel
theorem dX4_add_13 : decode cX4_add 13 = .ok (.dup, 1) := by decide +kernel
theorem dX4_add_14 : decode cX4_add 14 = .ok (.getfield 15, 3) := by decide +kernel
theorem dX4_add_17 : decode cX4_add 17 = .ok (.iconst 1, 1) := by decide +kernel
theorem dX4_add_18 : decode cX4_add 18 = .ok (.iadd, 1) := by decide +kernel
theorem dX4_add_19 : decode cX4_add 19 = .ok (.putfield 15, 3) := by decide +kernel
theorem dX4_add_22 : decode cX4_add 22 = .ok (.aload_n 0, 1) := by decide +kernel
theorem dX4_add_23 : decode cX4_add 23 = .ok (.getfield 15, 3) := by decide +kernel
theorem dX4_add_26 : decode cX4_add 26 = .ok (.ireturn, 1) := by decide +kernel
theorem dX4_clear_0 : decode cX4_clear 0 = .ok (.aload_n 0, 1) := by decide +kernel
theorem dX4_clear_1 : decode cX4_clear 1 = .ok (.getfield 15, 3) := by decide +kernel
theorem dX4_clear_4 : decode cX4_clear 4 = .ok (.istore_n 1, 1) := by decide +kernel
theorem dX4_clear_5 : decode cX4_clear 5 = .ok (.aload_n 0, 1) := by decide +kernel
theorem dX4_clear_6 : decode cX4_clear 6 = .ok (.iconst 0, 1) := by decide +kernel
theorem dX4_clear_7 : decode cX4_clear 7 = .ok (.putfield 15, 3) := by decide +kernel
theorem dX4_clear_10 : decode cX4_clear 10 = .ok (.iload_n 1, 1) := by decide +kernel
theorem dX4_clear_11 : decode cX4_clear 11 = .ok (.ireturn, 1) := by decide +kernel
theorem dX4_code_0 : decode cX4_code 0 = .ok (.iload_n 1, 1) := by decide +kernel
theorem dX4_code_1 : decode cX4_code 1 = .ok (.aload_n 0, 1) := by decide +kernel
theorem dX4_code_2 : decode cX4_code 2 = .ok (.getfield 15, 3) := by decide +kernel
theorem dX4_code_5 : decode cX4_code 5 = .ok (.if_icmp .ge 14, 3) := by decide +kernel
theorem dX4_code_8 : decode cX4_code 8 = .ok (.aload_n 0, 1) := by decide +kernel
theorem dX4_code_9 : decode cX4_code 9 = .ok (.getfield 9, 3) := by decide +kernel
theorem dX4_code_12 : decode cX4_code 12 = .ok (.iload_n 1, 1) := by decide +kernel
theorem dX4_code_13 : decode cX4_code 13 = .ok (.invokestatic 23, 3) := by decide +kernel
theorem dX4_code_16 : decode cX4_code 16 = .ok (.goto 4, 3) := by decide +kernel
theorem dX4_code_19 : decode cX4_code 19 = .ok (.iconst (-1), 1) := by decide +kernel
theorem dX4_code_20 : decode cX4_code 20 = .ok (.ireturn, 1) := by decide +kernel
theorem dX4_letter_0 : decode cX4_letter 0 = .ok (.aload_n 0, 1) := by decide +kernel
theorem dX4_letter_1 : decode cX4_letter 1 = .ok (.iload_n 1, 1) := by decide +kernel
theorem dX4_letter_2 : decode cX4_letter 2 = .ok (.invokevirtual 27, 3) := by decide +kernel
theorem dX4_letter_5 : decode cX4_letter 5 = .ok (.bipush 97, 2) := by decide +kernel
theorem dX4_letter_7 : decode cX4_letter 7 = .ok (.isub, 1) := by decide +kernel
theorem dX4_letter_8 : decode cX4_letter 8 = .ok (.ireturn, 1) := by decide +kernel
theorem dX4_number_0 : decode cX4_number 0 = .ok (.iconst 0, 1) := by decide +kernel
theorem dX4_number_1 : decode cX4_number 1 = .ok (.istore_n 3, 1) := by decide +kernel
theorem dX4_number_2 : decode cX4_number 2 = .ok (.iload_n 1, 1) := by decide +kernel
theorem dX4_number_3 : decode cX4_number 3 = .ok (.istore 4, 2) := by decide +kernel
theorem dX4_number_5 : decode cX4_number 5 = .ok (.iload 4, 2) := by decide +kernel
theorem dX4_number_7 : decode cX4_number 7 = .ok (.iload_n 2, 1) := by decide +kernel
theorem dX4_number_8 : decode cX4_number 8 = .ok (.if_icmp .ge 24, 3) := by decide +kernel
theorem dX4_number_11 : decode cX4_number 11 = .ok (.bipush 10, 2) := by decide +kernel
theorem dX4_number_13 : decode cX4_number 13 = .ok (.iload_n 3, 1) := by decide +kernel
theorem dX4_number_14 : decode cX4_number 14 = .ok (.imul, 1) := by decide +kernel
theorem dX4_number_15 : decode cX4_number 15 = .ok (.aload_n 0, 1) := by decide +kernel
theorem dX4_number_16 : decode cX4_number 16 = .ok (.iload 4, 2) := by decide +kernel
theorem dX4_number_18 : decode cX4_number 18 = .ok (.invokevirtual 27, 3) := by decide +kernel
theorem dX4_number_21 : decode cX4_number 21 = .ok (.bipush 48, 2) := by decide +kernel
theorem dX4_number_23 : decode cX4_number 23 = .ok (.isub, 1) := by decide +kernel
theorem dX4_number_24 : decode cX4_number 24 = .ok (.iadd, 1) := by decide +kernel
theorem dX4_number_25 : decode cX4_number 25 = .ok (.istore_n 3, 1) := by decide +kernel
theorem dX4_number_26 : decode cX4_number 26 = .ok (.iinc 4 1, 3) := by decide +kernel
theorem dX4_number_29 : decode cX4_number 29 = .ok (.goto (-24), 3) := by decide +kernel
theorem dX4_number_32 : decode cX4_number 32 = .ok (.iload_n 3, 1) := by decide +kernel
theorem dX4_number_33 : decode cX4_number 33 = .ok (.ireturn, 1) := by decide +kernel
theorem dX4_endsOrder_0 : decode cX4_endsOrder 0 = .ok (.iload_n 1, 1) := by decide +kernel
theorem dX4_endsOrder_1 : decode cX4_endsOrder 1 = .ok (.aload_n 0, 1) := by decide +kernel
theorem dX4_endsOrder_2 : decode cX4_endsOrder 2 = .ok (.getfield 15, 3) := by decide +kernel
theorem dX4_endsOrder_5 : decode cX4_endsOrder 5 = .ok (.if_icmp .eq 13, 3) := by decide +kernel
theorem dX4_endsOrder_8 : decode cX4_endsOrder 8 = .ok (.aload_n 0, 1) := by decide +kernel
theorem dX4_endsOrder_9 : decode cX4_endsOrder 9 = .ok (.iload_n 1, 1) := by decide +kernel
theorem dX4_endsOrder_10 : decode cX4_endsOrder 10 = .ok (.invokevirtual 27, 3) := by decide +kernel
theorem dX4_endsOrder_13 : decode cX4_endsOrder 13 = .ok (.bipush 59, 2) := by decide +kernel
theorem dX4_endsOrder_15 : decode cX4_endsOrder 15 = .ok (.if_icmp .ne 7, 3) := by decide +kernel
theorem dX4_endsOrder_18 : decode cX4_endsOrder 18 = .ok (.iconst 1, 1) := by decide +kernel
theorem dX4_endsOrder_19 : decode cX4_endsOrder 19 = .ok (.goto 4, 3) := by decide +kernel
theorem dX4_endsOrder_22 : decode cX4_endsOrder 22 = .ok (.iconst 0, 1) := by decide +kernel
theorem dX4_endsOrder_23 : decode cX4_endsOrder 23 = .ok (.ireturn, 1) := by decide +kernel
theorem dX4_errorPlace_0 : decode cX4_errorPlace 0 = .ok (.iconst 0, 1) := by decide +kernel
theorem dX4_errorPlace_1 : decode cX4_errorPlace 1 = .ok (.istore_n 1, 1) := by decide +kernel
theorem dX4_errorPlace_2 : decode cX4_errorPlace 2 = .ok (.iconst 0, 1) := by decide +kernel
theorem dX4_errorPlace_3 : decode cX4_errorPlace 3 = .ok (.istore_n 2, 1) := by decide +kernel
theorem dX4_errorPlace_4 : decode cX4_errorPlace 4 = .ok (.iload_n 2, 1) := by decide +kernel
theorem dX4_errorPlace_5 : decode cX4_errorPlace 5 = .ok (.aload_n 0, 1) := by decide +kernel
theorem dX4_errorPlace_6 : decode cX4_errorPlace 6 = .ok (.getfield 15, 3) := by decide +kernel
theorem dX4_errorPlace_9 : decode cX4_errorPlace 9 = .ok (.if_icmp .ge 26, 3) := by decide +kernel
theorem dX4_errorPlace_12 : decode cX4_errorPlace 12 = .ok (.iload_n 1, 1) := by decide +kernel
theorem dX4_errorPlace_13 : decode cX4_errorPlace 13 = .ok (.aload_n 0, 1) := by decide +kernel
theorem dX4_errorPlace_14 : decode cX4_errorPlace 14 = .ok (.iload_n 2, 1) := by decide +kernel
theorem dX4_errorPlace_15 : decode cX4_errorPlace 15 = .ok (.invokevirtual 27, 3) := by decide +kernel
theorem dX4_errorPlace_18 : decode cX4_errorPlace 18 = .ok (.invokestatic 31, 3) := by decide +kernel
theorem dX4_errorPlace_21 : decode cX4_errorPlace 21 = .ok (.istore_n 1, 1) := by decide +kernel
theorem dX4_errorPlace_22 : decode cX4_errorPlace 22 = .ok (.iload_n 1, 1) := by decide +kernel
theorem dX4_errorPlace_23 : decode cX4_errorPlace 23 = .ok (.iconst (-1), 1) := by decide +kernel
theorem dX4_errorPlace_24 : decode cX4_errorPlace 24 = .ok (.if_icmp .ne 5, 3) := by decide +kernel
theorem dX4_errorPlace_27 : decode cX4_errorPlace 27 = .ok (.iload_n 2, 1) := by decide +kernel
theorem dX4_errorPlace_28 : decode cX4_errorPlace 28 = .ok (.ireturn, 1) := by decide +kernel
theorem dX4_errorPlace_29 : decode cX4_errorPlace 29 = .ok (.iinc 2 1, 3) := by decide +kernel
theorem dX4_errorPlace_32 : decode cX4_errorPlace 32 = .ok (.goto (-28), 3) := by decide +kernel
theorem dX4_errorPlace_35 : decode cX4_errorPlace 35 = .ok (.aload_n 0, 1) := by decide +kernel
theorem dX4_errorPlace_36 : decode cX4_errorPlace 36 = .ok (.getfield 15, 3) := by decide +kernel
theorem dX4_errorPlace_39 : decode cX4_errorPlace 39 = .ok (.ireturn, 1) := by decide +kernel
theorem dX4_isComplete_0 : decode cX4_isComplete 0 = .ok (.iconst 0, 1) := by decide +kernel
theorem dX4_isComplete_1 : decode cX4_isComplete 1 = .ok (.istore_n 1, 1) := by decide +kernel
theorem dX4_isComplete_2 : decode cX4_isComplete 2 = .ok (.iconst 0, 1) := by decide +kernel
theorem dX4_isComplete_3 : decode cX4_isComplete 3 = .ok (.istore_n 2, 1) := by decide +kernel
theorem dX4_isComplete_4 : decode cX4_isComplete 4 = .ok (.iload_n 2, 1) := by decide +kernel
theorem dX4_isComplete_5 : decode cX4_isComplete 5 = .ok (.aload_n 0, 1) := by decide +kernel
theorem dX4_isComplete_6 : decode cX4_isComplete 6 = .ok (.getfield 15, 3) := by decide +kernel
theorem dX4_isComplete_9 : decode cX4_isComplete 9 = .ok (.if_icmp .ge 19, 3) := by decide +kernel
theorem dX4_isComplete_12 : decode cX4_isComplete 12 = .ok (.iload_n 1, 1) := by decide +kernel
theorem dX4_isComplete_13 : decode cX4_isComplete 13 = .ok (.aload_n 0, 1) := by decide +kernel
theorem dX4_isComplete_14 : decode cX4_isComplete 14 = .ok (.iload_n 2, 1) := by decide +kernel
theorem dX4_isComplete_15 : decode cX4_isComplete 15 = .ok (.invokevirtual 27, 3) := by decide +kernel
theorem dX4_isComplete_18 : decode cX4_isComplete 18 = .ok (.invokestatic 31, 3) := by decide +kernel
theorem dX4_isComplete_21 : decode cX4_isComplete 21 = .ok (.istore_n 1, 1) := by decide +kernel
theorem dX4_isComplete_22 : decode cX4_isComplete 22 = .ok (.iinc 2 1, 3) := by decide +kernel
theorem dX4_isComplete_25 : decode cX4_isComplete 25 = .ok (.goto (-21), 3) := by decide +kernel
theorem dX4_isComplete_28 : decode cX4_isComplete 28 = .ok (.iload_n 1, 1) := by decide +kernel
theorem dX4_isComplete_29 : decode cX4_isComplete 29 = .ok (.invokestatic 35, 3) := by decide +kernel
theorem dX4_isComplete_32 : decode cX4_isComplete 32 = .ok (.ireturn, 1) := by decide +kernel
theorem dX4_mayEnd_0 : decode cX4_mayEnd 0 = .ok (.iload_n 0, 1) := by decide +kernel
theorem dX4_mayEnd_1 : decode cX4_mayEnd 1 = .ok (.iconst 4, 1) := by decide +kernel
theorem dX4_mayEnd_2 : decode cX4_mayEnd 2 = .ok (.if_icmp .eq 21, 3) := by decide +kernel
theorem dX4_mayEnd_5 : decode cX4_mayEnd 5 = .ok (.iload_n 0, 1) := by decide +kernel
theorem dX4_mayEnd_6 : decode cX4_mayEnd 6 = .ok (.bipush 9, 2) := by decide +kernel
theorem dX4_mayEnd_8 : decode cX4_mayEnd 8 = .ok (.if_icmp .eq 15, 3) := by decide +kernel
theorem dX4_mayEnd_11 : decode cX4_mayEnd 11 = .ok (.iload_n 0, 1) := by decide +kernel
theorem dX4_mayEnd_12 : decode cX4_mayEnd 12 = .ok (.bipush 13, 2) := by decide +kernel
theorem dX4_mayEnd_14 : decode cX4_mayEnd 14 = .ok (.if_icmp .eq 9, 3) := by decide +kernel
theorem dX4_mayEnd_17 : decode cX4_mayEnd 17 = .ok (.iload_n 0, 1) := by decide +kernel
theorem dX4_mayEnd_18 : decode cX4_mayEnd 18 = .ok (.bipush 14, 2) := by decide +kernel
theorem dX4_mayEnd_20 : decode cX4_mayEnd 20 = .ok (.if_icmp .ne 7, 3) := by decide +kernel
theorem dX4_mayEnd_23 : decode cX4_mayEnd 23 = .ok (.iconst 1, 1) := by decide +kernel
theorem dX4_mayEnd_24 : decode cX4_mayEnd 24 = .ok (.goto 4, 3) := by decide +kernel
theorem dX4_mayEnd_27 : decode cX4_mayEnd 27 = .ok (.iconst 0, 1) := by decide +kernel
theorem dX4_mayEnd_28 : decode cX4_mayEnd 28 = .ok (.ireturn, 1) := by decide +kernel
theorem dX4_next_0 : decode cX4_next 0 = .ok (.iload_n 1, 1) := by decide +kernel
theorem dX4_next_1 : decode cX4_next 1 = .ok (.bipush 59, 2) := by decide +kernel
theorem dX4_next_3 : decode cX4_next 3 = .ok (.if_icmp .ne 16, 3) := by decide +kernel
theorem dX4_next_6 : decode cX4_next 6 = .ok (.iload_n 0, 1) := by decide +kernel
theorem dX4_next_7 : decode cX4_next 7 = .ok (.invokestatic 35, 3) := by decide +kernel
theorem dX4_next_10 : decode cX4_next 10 = .ok (.ifCond .eq 7, 3) := by decide +kernel
theorem dX4_next_13 : decode cX4_next 13 = .ok (.iconst 0, 1) := by decide +kernel
theorem dX4_next_14 : decode cX4_next 14 = .ok (.goto 4, 3) := by decide +kernel
theorem dX4_next_17 : decode cX4_next 17 = .ok (.iconst (-1), 1) := by decide +kernel
theorem dX4_next_18 : decode cX4_next 18 = .ok (.ireturn, 1) := by decide +kernel
theorem dX4_next_19 : decode cX4_next 19 = .ok (.iload_n 0, 1) := by decide +kernel
theorem dX4_next_20 : decode cX4_next 20 = .ok (.tableswitch 185 0 13 #[72, 185, 77, 185, 98, 185, 185, 108, 119, 141, 185, 185, 152, 174], 72) := by decide +kernel
theorem dX4_next_92 : decode cX4_next 92 = .ok (.iload_n 1, 1) := by decide +kernel
theorem dX4_next_93 : decode cX4_next 93 = .ok (.invokestatic 39, 3) := by decide +kernel
theorem dX4_next_96 : decode cX4_next 96 = .ok (.ireturn, 1) := by decide +kernel
theorem dX4_next_97 : decode cX4_next 97 = .ok (.iload_n 1, 1) := by decide +kernel
theorem dX4_next_98 : decode cX4_next 98 = .ok (.bipush 58, 2) := by decide +kernel
theorem dX4_next_100 : decode cX4_next 100 = .ok (.if_icmp .ne 7, 3) := by decide +kernel
theorem dX4_next_103 : decode cX4_next 103 = .ok (.iconst 3, 1) := by decide +kernel
theorem dX4_next_104 : decode cX4_next 104 = .ok (.goto 13, 3) := by decide +kernel
theorem dX4_next_107 : decode cX4_next 107 = .ok (.bipush 61, 2) := by decide +kernel
theorem dX4_next_109 : decode cX4_next 109 = .ok (.bipush 61, 2) := by decide +kernel
theorem dX4_next_111 : decode cX4_next 111 = .ok (.iload_n 1, 1) := by decide +kernel
theorem dX4_next_112 : decode cX4_next 112 = .ok (.bipush 8, 2) := by decide +kernel
theorem dX4_next_114 : decode cX4_next 114 = .ok (.invokestatic 42, 3) := by decide +kernel
theorem dX4_next_117 : decode cX4_next 117 = .ok (.ireturn, 1) := by decide +kernel
theorem dX4_next_118 : decode cX4_next 118 = .ok (.bipush 43, 2) := by decide +kernel
theorem dX4_next_120 : decode cX4_next 120 = .ok (.bipush 43, 2) := by decide +kernel
theorem dX4_next_122 : decode cX4_next 122 = .ok (.iload_n 1, 1) := by decide +kernel
theorem dX4_next_123 : decode cX4_next 123 = .ok (.iconst 5, 1) := by decide +kernel
theorem dX4_next_124 : decode cX4_next 124 = .ok (.invokestatic 42, 3) := by decide +kernel
theorem dX4_next_127 : decode cX4_next 127 = .ok (.ireturn, 1) := by decide +kernel
theorem dX4_next_128 : decode cX4_next 128 = .ok (.bipush 61, 2) := by decide +kernel
theorem dX4_next_130 : decode cX4_next 130 = .ok (.bipush 61, 2) := by decide +kernel
theorem dX4_next_132 : decode cX4_next 132 = .ok (.iload_n 1, 1) := by decide +kernel
theorem dX4_next_133 : decode cX4_next 133 = .ok (.bipush 8, 2) := by decide +kernel
theorem dX4_next_135 : decode cX4_next 135 = .ok (.invokestatic 42, 3) := by decide +kernel
theorem dX4_next_138 : decode cX4_next 138 = .ok (.ireturn, 1) := by decide +kernel
theorem dX4_next_139 : decode cX4_next 139 = .ok (.iload_n 1, 1) := by decide +kernel
theorem dX4_next_140 : decode cX4_next 140 = .ok (.bipush 48, 2) := by decide +kernel
theorem dX4_next_142 : decode cX4_next 142 = .ok (.if_icmp .ne 8, 3) := by decide +kernel
theorem dX4_next_145 : decode cX4_next 145 = .ok (.bipush 14, 2) := by decide +kernel
theorem dX4_next_147 : decode cX4_next 147 = .ok (.goto 13, 3) := by decide +kernel
theorem dX4_next_150 : decode cX4_next 150 = .ok (.bipush 49, 2) := by decide +kernel
theorem dX4_next_152 : decode cX4_next 152 = .ok (.bipush 57, 2) := by decide +kernel
theorem dX4_next_154 : decode cX4_next 154 = .ok (.iload_n 1, 1) := by decide +kernel
theorem dX4_next_155 : decode cX4_next 155 = .ok (.bipush 9, 2) := by decide +kernel
theorem dX4_next_157 : decode cX4_next 157 = .ok (.invokestatic 42, 3) := by decide +kernel
theorem dX4_next_160 : decode cX4_next 160 = .ok (.ireturn, 1) := by decide +kernel
theorem dX4_next_161 : decode cX4_next 161 = .ok (.bipush 48, 2) := by decide +kernel
theorem dX4_next_163 : decode cX4_next 163 = .ok (.bipush 57, 2) := by decide +kernel
theorem dX4_next_165 : decode cX4_next 165 = .ok (.iload_n 1, 1) := by decide +kernel
theorem dX4_next_166 : decode cX4_next 166 = .ok (.bipush 14, 2) := by decide +kernel
theorem dX4_next_168 : decode cX4_next 168 = .ok (.invokestatic 42, 3) := by decide +kernel
theorem dX4_next_171 : decode cX4_next 171 = .ok (.ireturn, 1) := by decide +kernel
theorem dX4_next_172 : decode cX4_next 172 = .ok (.iload_n 1, 1) := by decide +kernel
theorem dX4_next_173 : decode cX4_next 173 = .ok (.bipush 49, 2) := by decide +kernel
theorem dX4_next_175 : decode cX4_next 175 = .ok (.if_icmp .ne 8, 3) := by decide +kernel
theorem dX4_next_178 : decode cX4_next 178 = .ok (.bipush 13, 2) := by decide +kernel
theorem dX4_next_180 : decode cX4_next 180 = .ok (.goto 13, 3) := by decide +kernel
theorem dX4_next_183 : decode cX4_next 183 = .ok (.bipush 50, 2) := by decide +kernel
theorem dX4_next_185 : decode cX4_next 185 = .ok (.bipush 57, 2) := by decide +kernel
theorem dX4_next_187 : decode cX4_next 187 = .ok (.iload_n 1, 1) := by decide +kernel
theorem dX4_next_188 : decode cX4_next 188 = .ok (.bipush 14, 2) := by decide +kernel
theorem dX4_next_190 : decode cX4_next 190 = .ok (.invokestatic 42, 3) := by decide +kernel
theorem dX4_next_193 : decode cX4_next 193 = .ok (.ireturn, 1) := by decide +kernel
theorem dX4_next_194 : decode cX4_next 194 = .ok (.bipush 48, 2) := by decide +kernel
theorem dX4_next_196 : decode cX4_next 196 = .ok (.bipush 50, 2) := by decide +kernel
theorem dX4_next_198 : decode cX4_next 198 = .ok (.iload_n 1, 1) := by decide +kernel
theorem dX4_next_199 : decode cX4_next 199 = .ok (.bipush 14, 2) := by decide +kernel
theorem dX4_next_201 : decode cX4_next 201 = .ok (.invokestatic 42, 3) := by decide +kernel
theorem dX4_next_204 : decode cX4_next 204 = .ok (.ireturn, 1) := by decide +kernel
theorem dX4_next_205 : decode cX4_next 205 = .ok (.bipush 97, 2) := by decide +kernel
theorem dX4_next_207 : decode cX4_next 207 = .ok (.bipush 104, 2) := by decide +kernel
theorem dX4_next_209 : decode cX4_next 209 = .ok (.iload_n 1, 1) := by decide +kernel
theorem dX4_next_210 : decode cX4_next 210 = .ok (.iload_n 0, 1) := by decide +kernel
theorem dX4_next_211 : decode cX4_next 211 = .ok (.invokestatic 46, 3) := by decide +kernel
theorem dX4_next_214 : decode cX4_next 214 = .ok (.invokestatic 42, 3) := by decide +kernel
theorem dX4_next_217 : decode cX4_next 217 = .ok (.ireturn, 1) := by decide +kernel
theorem dX4_afterFirst_0 : decode cX4_afterFirst 0 = .ok (.iload_n 0, 1) := by decide +kernel
theorem dX4_afterFirst_1 : decode cX4_afterFirst 1 = .ok (.lookupswitch 65 #[(42, 62), (43, 51), (45, 53), (62, 56), (110, 59)], 51) := by decide +kernel
theorem dX4_afterFirst_52 : decode cX4_afterFirst 52 = .ok (.iconst 1, 1) := by decide +kernel
theorem dX4_afterFirst_53 : decode cX4_afterFirst 53 = .ok (.ireturn, 1) := by decide +kernel
theorem dX4_afterFirst_54 : decode cX4_afterFirst 54 = .ok (.bipush 6, 2) := by decide +kernel
theorem dX4_afterFirst_56 : decode cX4_afterFirst 56 = .ok (.ireturn, 1) := by decide +kernel
theorem dX4_afterFirst_57 : decode cX4_afterFirst 57 = .ok (.bipush 10, 2) := by decide +kernel
theorem dX4_afterFirst_59 : decode cX4_afterFirst 59 = .ok (.ireturn, 1) := by decide +kernel
theorem dX4_afterFirst_60 : decode cX4_afterFirst 60 = .ok (.bipush 14, 2) := by decide +kernel
theorem dX4_afterFirst_62 : decode cX4_afterFirst 62 = .ok (.ireturn, 1) := by decide +kernel
theorem dX4_afterFirst_63 : decode cX4_afterFirst 63 = .ok (.bipush 12, 2) := by decide +kernel
theorem dX4_afterFirst_65 : decode cX4_afterFirst 65 = .ok (.ireturn, 1) := by decide +kernel
theorem dX4_afterFirst_66 : decode cX4_afterFirst 66 = .ok (.iconst (-1), 1) := by decide +kernel
theorem dX4_afterFirst_67 : decode cX4_afterFirst 67 = .ok (.ireturn, 1) := by decide +kernel
theorem dX4_afterLetter_0 : decode cX4_afterLetter 0 = .ok (.iload_n 0, 1) := by decide +kernel
theorem dX4_afterLetter_1 : decode cX4_afterLetter 1 = .ok (.tableswitch 72 1 11 #[59, 72, 61, 72, 69, 63, 72, 72, 72, 66, 69], 59) := by decide +kernel
theorem dX4_afterLetter_60 : decode cX4_afterLetter 60 = .ok (.iconst 2, 1) := by decide +kernel
theorem dX4_afterLetter_61 : decode cX4_afterLetter 61 = .ok (.ireturn, 1) := by decide +kernel
theorem dX4_afterLetter_62 : decode cX4_afterLetter 62 = .ok (.iconst 4, 1) := by decide +kernel
theorem dX4_afterLetter_63 : decode cX4_afterLetter 63 = .ok (.ireturn, 1) := by decide +kernel
theorem dX4_afterLetter_64 : decode cX4_afterLetter 64 = .ok (.bipush 7, 2) := by decide +kernel
theorem dX4_afterLetter_66 : decode cX4_afterLetter 66 = .ok (.ireturn, 1) := by decide +kernel
theorem dX4_afterLetter_67 : decode cX4_afterLetter 67 = .ok (.bipush 11, 2) := by decide +kernel
theorem dX4_afterLetter_69 : decode cX4_afterLetter 69 = .ok (.ireturn, 1) := by decide +kernel
theorem dX4_afterLetter_70 : decode cX4_afterLetter 70 = .ok (.bipush 14, 2) := by decide +kernel
theorem dX4_afterLetter_72 : decode cX4_afterLetter 72 = .ok (.ireturn, 1) := by decide +kernel
theorem dX4_afterLetter_73 : decode cX4_afterLetter 73 = .ok (.iconst (-1), 1) := by decide +kernel
theorem dX4_afterLetter_74 : decode cX4_afterLetter 74 = .ok (.ireturn, 1) := by decide +kernel
theorem dX4_oneOf_0 : decode cX4_oneOf 0 = .ok (.iload_n 2, 1) := by decide +kernel
theorem dX4_oneOf_1 : decode cX4_oneOf 1 = .ok (.iload_n 0, 1) := by decide +kernel
theorem dX4_oneOf_2 : decode cX4_oneOf 2 = .ok (.if_icmp .lt 12, 3) := by decide +kernel
theorem dX4_oneOf_5 : decode cX4_oneOf 5 = .ok (.iload_n 2, 1) := by decide +kernel
theorem dX4_oneOf_6 : decode cX4_oneOf 6 = .ok (.iload_n 1, 1) := by decide +kernel
theorem dX4_oneOf_7 : decode cX4_oneOf 7 = .ok (.if_icmp .gt 7, 3) := by decide +kernel
theorem dX4_oneOf_10 : decode cX4_oneOf 10 = .ok (.iload_n 3, 1) := by decide +kernel
theorem dX4_oneOf_11 : decode cX4_oneOf 11 = .ok (.goto 4, 3) := by decide +kernel
theorem dX4_oneOf_14 : decode cX4_oneOf 14 = .ok (.iconst (-1), 1) := by decide +kernel
theorem dX4_oneOf_15 : decode cX4_oneOf 15 = .ok (.ireturn, 1) := by decide +kernel
theorem dX5_init_0 : decode cX5_init 0 = .ok (.aload_n 0, 1) := by decide +kernel
theorem dX5_init_1 : decode cX5_init 1 = .ok (.invokespecial 1, 3) := by decide +kernel
theorem dX5_init_4 : decode cX5_init 4 = .ok (.aload_n 0, 1) := by decide +kernel
theorem dX5_init_5 : decode cX5_init 5 = .ok (.new 7, 3) := by decide +kernel
theorem dX5_init_8 : decode cX5_init 8 = .ok (.dup, 1) := by decide +kernel
theorem dX5_init_9 : decode cX5_init 9 = .ok (.invokespecial 9, 3) := by decide +kernel
theorem dX5_init_12 : decode cX5_init 12 = .ok (.putfield 10, 3) := by decide +kernel
theorem dX5_init_15 : decode cX5_init 15 = .ok (.aload_n 0, 1) := by decide +kernel
theorem dX5_init_16 : decode cX5_init 16 = .ok (.new 16, 3) := by decide +kernel
theorem dX5_init_19 : decode cX5_init 19 = .ok (.dup, 1) := by decide +kernel
theorem dX5_init_20 : decode cX5_init 20 = .ok (.invokespecial 18, 3) := by decide +kernel
theorem dX5_init_23 : decode cX5_init 23 = .ok (.putfield 19, 3) := by decide +kernel
theorem dX5_init_26 : decode cX5_init 26 = .ok (.aload_n 0, 1) := by decide +kernel
theorem dX5_init_27 : decode cX5_init 27 = .ok (.new 23, 3) := by decide +kernel
theorem dX5_init_30 : decode cX5_init 30 = .ok (.dup, 1) := by decide +kernel
theorem dX5_init_31 : decode cX5_init 31 = .ok (.invokespecial 25, 3) := by decide +kernel
theorem dX5_init_34 : decode cX5_init 34 = .ok (.putfield 26, 3) := by decide +kernel
theorem dX5_init_37 : decode cX5_init 37 = .ok (.return_, 1) := by decide +kernel
theorem dX5_addNumber_0 : decode cX5_addNumber 0 = .ok (.iload_n 1, 1) := by decide +kernel
theorem dX5_addNumber_1 : decode cX5_addNumber 1 = .ok (.invokestatic 30, 3) := by decide +kernel
theorem dX5_addNumber_4 : decode cX5_addNumber 4 = .ok (.ifCond .eq 10, 3) := by decide +kernel
theorem dX5_addNumber_7 : decode cX5_addNumber 7 = .ok (.iload_n 2, 1) := by decide +kernel
theorem dX5_addNumber_8 : decode cX5_addNumber 8 = .ok (.invokestatic 34, 3) := by decide +kernel
theorem dX5_addNumber_11 : decode cX5_addNumber 11 = .ok (.ifCond .ne 13, 3) := by decide +kernel
theorem dX5_addNumber_14 : decode cX5_addNumber 14 = .ok (.new 37, 3) := by decide +kernel
theorem dX5_addNumber_17 : decode cX5_addNumber 17 = .ok (.dup, 1) := by decide +kernel
theorem dX5_addNumber_18 : decode cX5_addNumber 18 = .ok (.ldc 39, 2) := by decide +kernel
theorem dX5_addNumber_20 : decode cX5_addNumber 20 = .ok (.invokespecial 41, 3) := by decide +kernel
theorem dX5_addNumber_23 : decode cX5_addNumber 23 = .ok (.athrow, 1) := by decide +kernel
theorem dX5_addNumber_24 : decode cX5_addNumber 24 = .ok (.aload_n 0, 1) := by decide +kernel
theorem dX5_addNumber_25 : decode cX5_addNumber 25 = .ok (.getfield 10, 3) := by decide +kernel
theorem dX5_addNumber_28 : decode cX5_addNumber 28 = .ok (.getfield 44, 3) := by decide +kernel
theorem dX5_addNumber_31 : decode cX5_addNumber 31 = .ok (.iload_n 1, 1) := by decide +kernel
theorem dX5_addNumber_32 : decode cX5_addNumber 32 = .ok (.invokevirtual 48, 3) := by decide +kernel
theorem dX5_addNumber_35 : decode cX5_addNumber 35 = .ok (.ifCond .ne 13, 3) := by decide +kernel
theorem dX5_addNumber_38 : decode cX5_addNumber 38 = .ok (.new 53, 3) := by decide +kernel
theorem dX5_addNumber_41 : decode cX5_addNumber 41 = .ok (.dup, 1) := by decide +kernel
theorem dX5_addNumber_42 : decode cX5_addNumber 42 = .ok (.ldc 55, 2) := by decide +kernel
theorem dX5_addNumber_44 : decode cX5_addNumber 44 = .ok (.invokespecial 57, 3) := by decide +kernel
theorem dX5_addNumber_47 : decode cX5_addNumber 47 = .ok (.athrow, 1) := by decide +kernel
theorem dX5_addNumber_48 : decode cX5_addNumber 48 = .ok (.aload_n 0, 1) := by decide +kernel
theorem dX5_addNumber_49 : decode cX5_addNumber 49 = .ok (.getfield 19, 3) := by decide +kernel
theorem dX5_addNumber_52 : decode cX5_addNumber 52 = .ok (.aload_n 0, 1) := by decide +kernel
theorem dX5_addNumber_53 : decode cX5_addNumber 53 = .ok (.getfield 10, 3) := by decide +kernel
theorem dX5_addNumber_56 : decode cX5_addNumber 56 = .ok (.invokevirtual 58, 3) := by decide +kernel
theorem dX5_addNumber_59 : decode cX5_addNumber 59 = .ok (.aload_n 0, 1) := by decide +kernel
theorem dX5_addNumber_60 : decode cX5_addNumber 60 = .ok (.getfield 10, 3) := by decide +kernel
theorem dX5_addNumber_63 : decode cX5_addNumber 63 = .ok (.getfield 44, 3) := by decide +kernel
theorem dX5_addNumber_66 : decode cX5_addNumber 66 = .ok (.iload_n 1, 1) := by decide +kernel
theorem dX5_addNumber_67 : decode cX5_addNumber 67 = .ok (.iload_n 2, 1) := by decide +kernel
theorem dX5_addNumber_68 : decode cX5_addNumber 68 = .ok (.invokevirtual 62, 3) := by decide +kernel
theorem dX5_addNumber_71 : decode cX5_addNumber 71 = .ok (.ireturn, 1) := by decide +kernel
theorem dX5_addCopy_0 : decode cX5_addCopy 0 = .ok (.iload_n 1, 1) := by decide +kernel
theorem dX5_addCopy_1 : decode cX5_addCopy 1 = .ok (.invokestatic 30, 3) := by decide +kernel
theorem dX5_addCopy_4 : decode cX5_addCopy 4 = .ok (.ifCond .eq 17, 3) := by decide +kernel
theorem dX5_addCopy_7 : decode cX5_addCopy 7 = .ok (.iload_n 2, 1) := by decide +kernel
theorem dX5_addCopy_8 : decode cX5_addCopy 8 = .ok (.invokestatic 30, 3) := by decide +kernel
theorem dX5_addCopy_11 : decode cX5_addCopy 11 = .ok (.ifCond .eq 10, 3) := by decide +kernel
theorem dX5_addCopy_14 : decode cX5_addCopy 14 = .ok (.iload_n 3, 1) := by decide +kernel
theorem dX5_addCopy_15 : decode cX5_addCopy 15 = .ok (.invokestatic 66, 3) := by decide +kernel
theorem dX5_addCopy_18 : decode cX5_addCopy 18 = .ok (.ifCond .ne 13, 3) := by decide +kernel
theorem dX5_addCopy_21 : decode cX5_addCopy 21 = .ok (.new 37, 3) := by decide +kernel
theorem dX5_addCopy_24 : decode cX5_addCopy 24 = .ok (.dup, 1) := by decide +kernel
theorem dX5_addCopy_25 : decode cX5_addCopy 25 = .ok (.ldc 69, 2) := by decide +kernel
theorem dX5_addCopy_27 : decode cX5_addCopy 27 = .ok (.invokespecial 41, 3) := by decide +kernel
theorem dX5_addCopy_30 : decode cX5_addCopy 30 = .ok (.athrow, 1) := by decide +kernel
theorem dX5_addCopy_31 : decode cX5_addCopy 31 = .ok (.aload_n 0, 1) := by decide +kernel
theorem dX5_addCopy_32 : decode cX5_addCopy 32 = .ok (.getfield 10, 3) := by decide +kernel
theorem dX5_addCopy_35 : decode cX5_addCopy 35 = .ok (.getfield 44, 3) := by decide +kernel
theorem dX5_addCopy_38 : decode cX5_addCopy 38 = .ok (.iload_n 1, 1) := by decide +kernel
theorem dX5_addCopy_39 : decode cX5_addCopy 39 = .ok (.iload_n 2, 1) := by decide +kernel
theorem dX5_addCopy_40 : decode cX5_addCopy 40 = .ok (.iload_n 3, 1) := by decide +kernel
theorem dX5_addCopy_41 : decode cX5_addCopy 41 = .ok (.invokevirtual 71, 3) := by decide +kernel
theorem dX5_addCopy_44 : decode cX5_addCopy 44 = .ok (.ifCond .ne 13, 3) := by decide +kernel
theorem dX5_addCopy_47 : decode cX5_addCopy 47 = .ok (.new 53, 3) := by decide +kernel
theorem dX5_addCopy_50 : decode cX5_addCopy 50 = .ok (.dup, 1) := by decide +kernel
theorem dX5_addCopy_51 : decode cX5_addCopy 51 = .ok (.ldc 75, 2) := by decide +kernel
theorem dX5_addCopy_53 : decode cX5_addCopy 53 = .ok (.invokespecial 57, 3) := by decide +kernel
theorem dX5_addCopy_56 : decode cX5_addCopy 56 = .ok (.athrow, 1) := by decide +kernel
theorem dX5_addCopy_57 : decode cX5_addCopy 57 = .ok (.aload_n 0, 1) := by decide +kernel
theorem dX5_addCopy_58 : decode cX5_addCopy 58 = .ok (.getfield 19, 3) := by decide +kernel
theorem dX5_addCopy_61 : decode cX5_addCopy 61 = .ok (.aload_n 0, 1) := by decide +kernel
theorem dX5_addCopy_62 : decode cX5_addCopy 62 = .ok (.getfield 10, 3) := by decide +kernel
theorem dX5_addCopy_65 : decode cX5_addCopy 65 = .ok (.invokevirtual 58, 3) := by decide +kernel
theorem dX5_addCopy_68 : decode cX5_addCopy 68 = .ok (.aload_n 0, 1) := by decide +kernel
theorem dX5_addCopy_69 : decode cX5_addCopy 69 = .ok (.getfield 10, 3) := by decide +kernel
theorem dX5_addCopy_72 : decode cX5_addCopy 72 = .ok (.getfield 44, 3) := by decide +kernel
theorem dX5_addCopy_75 : decode cX5_addCopy 75 = .ok (.iload_n 1, 1) := by decide +kernel
theorem dX5_addCopy_76 : decode cX5_addCopy 76 = .ok (.iload_n 2, 1) := by decide +kernel
theorem dX5_addCopy_77 : decode cX5_addCopy 77 = .ok (.iload_n 3, 1) := by decide +kernel
theorem dX5_addCopy_78 : decode cX5_addCopy 78 = .ok (.invokevirtual 77, 3) := by decide +kernel
theorem dX5_addCopy_81 : decode cX5_addCopy 81 = .ok (.ireturn, 1) := by decide +kernel
theorem dX5_drop_0 : decode cX5_drop 0 = .ok (.iload_n 1, 1) := by decide +kernel
theorem dX5_drop_1 : decode cX5_drop 1 = .ok (.invokestatic 30, 3) := by decide +kernel
theorem dX5_drop_4 : decode cX5_drop 4 = .ok (.ifCond .eq 10, 3) := by decide +kernel
theorem dX5_drop_7 : decode cX5_drop 7 = .ok (.iload_n 2, 1) := by decide +kernel
theorem dX5_drop_8 : decode cX5_drop 8 = .ok (.invokestatic 34, 3) := by decide +kernel
theorem dX5_drop_11 : decode cX5_drop 11 = .ok (.ifCond .ne 13, 3) := by decide +kernel
theorem dX5_drop_14 : decode cX5_drop 14 = .ok (.new 37, 3) := by decide +kernel
theorem dX5_drop_17 : decode cX5_drop 17 = .ok (.dup, 1) := by decide +kernel
theorem dX5_drop_18 : decode cX5_drop 18 = .ok (.ldc 39, 2) := by decide +kernel
theorem dX5_drop_20 : decode cX5_drop 20 = .ok (.invokespecial 41, 3) := by decide +kernel
theorem dX5_drop_23 : decode cX5_drop 23 = .ok (.athrow, 1) := by decide +kernel
theorem dX5_drop_24 : decode cX5_drop 24 = .ok (.aload_n 0, 1) := by decide +kernel
theorem dX5_drop_25 : decode cX5_drop 25 = .ok (.getfield 10, 3) := by decide +kernel
theorem dX5_drop_28 : decode cX5_drop 28 = .ok (.getfield 44, 3) := by decide +kernel
theorem dX5_drop_31 : decode cX5_drop 31 = .ok (.iload_n 1, 1) := by decide +kernel
theorem dX5_drop_32 : decode cX5_drop 32 = .ok (.invokevirtual 81, 3) := by decide +kernel
theorem dX5_drop_35 : decode cX5_drop 35 = .ok (.ifCond .ne 13, 3) := by decide +kernel
theorem dX5_drop_38 : decode cX5_drop 38 = .ok (.new 53, 3) := by decide +kernel
theorem dX5_drop_41 : decode cX5_drop 41 = .ok (.dup, 1) := by decide +kernel
theorem dX5_drop_42 : decode cX5_drop 42 = .ok (.ldc 84, 2) := by decide +kernel
theorem dX5_drop_44 : decode cX5_drop 44 = .ok (.invokespecial 57, 3) := by decide +kernel
theorem dX5_drop_47 : decode cX5_drop 47 = .ok (.athrow, 1) := by decide +kernel
theorem dX5_drop_48 : decode cX5_drop 48 = .ok (.aload_n 0, 1) := by decide +kernel
theorem dX5_drop_49 : decode cX5_drop 49 = .ok (.getfield 19, 3) := by decide +kernel
theorem dX5_drop_52 : decode cX5_drop 52 = .ok (.aload_n 0, 1) := by decide +kernel
theorem dX5_drop_53 : decode cX5_drop 53 = .ok (.getfield 10, 3) := by decide +kernel
theorem dX5_drop_56 : decode cX5_drop 56 = .ok (.invokevirtual 58, 3) := by decide +kernel
theorem dX5_drop_59 : decode cX5_drop 59 = .ok (.aload_n 0, 1) := by decide +kernel
theorem dX5_drop_60 : decode cX5_drop 60 = .ok (.getfield 10, 3) := by decide +kernel
theorem dX5_drop_63 : decode cX5_drop 63 = .ok (.getfield 44, 3) := by decide +kernel
theorem dX5_drop_66 : decode cX5_drop 66 = .ok (.iload_n 1, 1) := by decide +kernel
theorem dX5_drop_67 : decode cX5_drop 67 = .ok (.iload_n 2, 1) := by decide +kernel
theorem dX5_drop_68 : decode cX5_drop 68 = .ok (.invokevirtual 86, 3) := by decide +kernel
theorem dX5_drop_71 : decode cX5_drop 71 = .ok (.ireturn, 1) := by decide +kernel
theorem dX5_rename_0 : decode cX5_rename 0 = .ok (.iload_n 1, 1) := by decide +kernel
theorem dX5_rename_1 : decode cX5_rename 1 = .ok (.invokestatic 30, 3) := by decide +kernel
theorem dX5_rename_4 : decode cX5_rename 4 = .ok (.ifCond .eq 10, 3) := by decide +kernel
theorem dX5_rename_7 : decode cX5_rename 7 = .ok (.iload_n 2, 1) := by decide +kernel
theorem dX5_rename_8 : decode cX5_rename 8 = .ok (.invokestatic 30, 3) := by decide +kernel
theorem dX5_rename_11 : decode cX5_rename 11 = .ok (.ifCond .ne 13, 3) := by decide +kernel
theorem dX5_rename_14 : decode cX5_rename 14 = .ok (.new 37, 3) := by decide +kernel
theorem dX5_rename_17 : decode cX5_rename 17 = .ok (.dup, 1) := by decide +kernel
theorem dX5_rename_18 : decode cX5_rename 18 = .ok (.ldc 69, 2) := by decide +kernel
theorem dX5_rename_20 : decode cX5_rename 20 = .ok (.invokespecial 41, 3) := by decide +kernel
theorem dX5_rename_23 : decode cX5_rename 23 = .ok (.athrow, 1) := by decide +kernel
theorem dX5_rename_24 : decode cX5_rename 24 = .ok (.aload_n 0, 1) := by decide +kernel
theorem dX5_rename_25 : decode cX5_rename 25 = .ok (.getfield 10, 3) := by decide +kernel
theorem dX5_rename_28 : decode cX5_rename 28 = .ok (.getfield 44, 3) := by decide +kernel
theorem dX5_rename_31 : decode cX5_rename 31 = .ok (.iload_n 1, 1) := by decide +kernel
theorem dX5_rename_32 : decode cX5_rename 32 = .ok (.iload_n 2, 1) := by decide +kernel
theorem dX5_rename_33 : decode cX5_rename 33 = .ok (.invokevirtual 89, 3) := by decide +kernel
theorem dX5_rename_36 : decode cX5_rename 36 = .ok (.ifCond .ne 13, 3) := by decide +kernel
theorem dX5_rename_39 : decode cX5_rename 39 = .ok (.new 53, 3) := by decide +kernel
theorem dX5_rename_42 : decode cX5_rename 42 = .ok (.dup, 1) := by decide +kernel
theorem dX5_rename_43 : decode cX5_rename 43 = .ok (.ldc 75, 2) := by decide +kernel
theorem dX5_rename_45 : decode cX5_rename 45 = .ok (.invokespecial 57, 3) := by decide +kernel
theorem dX5_rename_48 : decode cX5_rename 48 = .ok (.athrow, 1) := by decide +kernel
theorem dX5_rename_49 : decode cX5_rename 49 = .ok (.aload_n 0, 1) := by decide +kernel
theorem dX5_rename_50 : decode cX5_rename 50 = .ok (.getfield 19, 3) := by decide +kernel
theorem dX5_rename_53 : decode cX5_rename 53 = .ok (.aload_n 0, 1) := by decide +kernel
theorem dX5_rename_54 : decode cX5_rename 54 = .ok (.getfield 10, 3) := by decide +kernel
theorem dX5_rename_57 : decode cX5_rename 57 = .ok (.invokevirtual 58, 3) := by decide +kernel
theorem dX5_rename_60 : decode cX5_rename 60 = .ok (.aload_n 0, 1) := by decide +kernel
theorem dX5_rename_61 : decode cX5_rename 61 = .ok (.getfield 10, 3) := by decide +kernel
theorem dX5_rename_64 : decode cX5_rename 64 = .ok (.getfield 44, 3) := by decide +kernel
theorem dX5_rename_67 : decode cX5_rename 67 = .ok (.iload_n 1, 1) := by decide +kernel
theorem dX5_rename_68 : decode cX5_rename 68 = .ok (.iload_n 2, 1) := by decide +kernel
theorem dX5_rename_69 : decode cX5_rename 69 = .ok (.invokevirtual 93, 3) := by decide +kernel
theorem dX5_rename_72 : decode cX5_rename 72 = .ok (.ireturn, 1) := by decide +kernel
theorem dX5_insert_0 : decode cX5_insert 0 = .ok (.aload_n 0, 1) := by decide +kernel
theorem dX5_insert_1 : decode cX5_insert 1 = .ok (.getfield 10, 3) := by decide +kernel
theorem dX5_insert_4 : decode cX5_insert 4 = .ok (.getfield 96, 3) := by decide +kernel
theorem dX5_insert_7 : decode cX5_insert 7 = .ok (.invokevirtual 100, 3) := by decide +kernel
theorem dX5_insert_10 : decode cX5_insert 10 = .ok (.ifCond .eq 13, 3) := by decide +kernel
theorem dX5_insert_13 : decode cX5_insert 13 = .ok (.new 53, 3) := by decide +kernel
theorem dX5_insert_16 : decode cX5_insert 16 = .ok (.dup, 1) := by decide +kernel
theorem dX5_insert_17 : decode cX5_insert 17 = .ok (.ldc 106, 2) := by decide +kernel
theorem dX5_insert_19 : decode cX5_insert 19 = .ok (.invokespecial 57, 3) := by decide +kernel
theorem dX5_insert_22 : decode cX5_insert 22 = .ok (.athrow, 1) := by decide +kernel
theorem dX5_insert_23 : decode cX5_insert 23 = .ok (.aload_n 0, 1) := by decide +kernel
theorem dX5_insert_24 : decode cX5_insert 24 = .ok (.getfield 19, 3) := by decide +kernel
theorem dX5_insert_27 : decode cX5_insert 27 = .ok (.aload_n 0, 1) := by decide +kernel
theorem dX5_insert_28 : decode cX5_insert 28 = .ok (.getfield 10, 3) := by decide +kernel
theorem dX5_insert_31 : decode cX5_insert 31 = .ok (.invokevirtual 58, 3) := by decide +kernel
theorem dX5_insert_34 : decode cX5_insert 34 = .ok (.aload_n 0, 1) := by decide +kernel
theorem dX5_insert_35 : decode cX5_insert 35 = .ok (.getfield 10, 3) := by decide +kernel
theorem dX5_insert_38 : decode cX5_insert 38 = .ok (.getfield 96, 3) := by decide +kernel
theorem dX5_insert_41 : decode cX5_insert 41 = .ok (.aload_n 0, 1) := by decide +kernel
theorem dX5_insert_42 : decode cX5_insert 42 = .ok (.getfield 10, 3) := by decide +kernel
theorem dX5_insert_45 : decode cX5_insert 45 = .ok (.getfield 44, 3) := by decide +kernel
theorem dX5_insert_48 : decode cX5_insert 48 = .ok (.invokevirtual 108, 3) := by decide +kernel
theorem dX5_insert_51 : decode cX5_insert 51 = .ok (.invokevirtual 112, 3) := by decide +kernel
theorem dX5_insert_54 : decode cX5_insert 54 = .ok (.ireturn, 1) := by decide +kernel
theorem dX5_insertBy_0 : decode cX5_insertBy 0 = .ok (.aload_n 0, 1) := by decide +kernel
theorem dX5_insertBy_1 : decode cX5_insertBy 1 = .ok (.getfield 10, 3) := by decide +kernel
theorem dX5_insertBy_4 : decode cX5_insertBy 4 = .ok (.getfield 44, 3) := by decide +kernel
theorem dX5_insertBy_7 : decode cX5_insertBy 7 = .ok (.iload_n 1, 1) := by decide +kernel
theorem dX5_insertBy_8 : decode cX5_insertBy 8 = .ok (.invokevirtual 116, 3) := by decide +kernel
theorem dX5_insertBy_11 : decode cX5_insertBy 11 = .ok (.ifCond .ne 13, 3) := by decide +kernel
theorem dX5_insertBy_14 : decode cX5_insertBy 14 = .ok (.new 119, 3) := by decide +kernel
theorem dX5_insertBy_17 : decode cX5_insertBy 17 = .ok (.dup, 1) := by decide +kernel
theorem dX5_insertBy_18 : decode cX5_insertBy 18 = .ok (.ldc 121, 2) := by decide +kernel
theorem dX5_insertBy_20 : decode cX5_insertBy 20 = .ok (.invokespecial 123, 3) := by decide +kernel
theorem dX5_insertBy_23 : decode cX5_insertBy 23 = .ok (.athrow, 1) := by decide +kernel
theorem dX5_insertBy_24 : decode cX5_insertBy 24 = .ok (.aload_n 0, 1) := by decide +kernel
theorem dX5_insertBy_25 : decode cX5_insertBy 25 = .ok (.getfield 10, 3) := by decide +kernel
theorem dX5_insertBy_28 : decode cX5_insertBy 28 = .ok (.getfield 96, 3) := by decide +kernel
theorem dX5_insertBy_31 : decode cX5_insertBy 31 = .ok (.invokevirtual 100, 3) := by decide +kernel
theorem dX5_insertBy_34 : decode cX5_insertBy 34 = .ok (.ifCond .eq 13, 3) := by decide +kernel
theorem dX5_insertBy_37 : decode cX5_insertBy 37 = .ok (.new 53, 3) := by decide +kernel
theorem dX5_insertBy_40 : decode cX5_insertBy 40 = .ok (.dup, 1) := by decide +kernel
theorem dX5_insertBy_41 : decode cX5_insertBy 41 = .ok (.ldc 106, 2) := by decide +kernel
theorem dX5_insertBy_43 : decode cX5_insertBy 43 = .ok (.invokespecial 57, 3) := by decide +kernel
theorem dX5_insertBy_46 : decode cX5_insertBy 46 = .ok (.athrow, 1) := by decide +kernel
theorem dX5_insertBy_47 : decode cX5_insertBy 47 = .ok (.aload_n 0, 1) := by decide +kernel
theorem dX5_insertBy_48 : decode cX5_insertBy 48 = .ok (.getfield 19, 3) := by decide +kernel
theorem dX5_insertBy_51 : decode cX5_insertBy 51 = .ok (.aload_n 0, 1) := by decide +kernel
theorem dX5_insertBy_52 : decode cX5_insertBy 52 = .ok (.getfield 10, 3) := by decide +kernel
theorem dX5_insertBy_55 : decode cX5_insertBy 55 = .ok (.invokevirtual 58, 3) := by decide +kernel
theorem dX5_insertBy_58 : decode cX5_insertBy 58 = .ok (.aload_n 0, 1) := by decide +kernel
theorem dX5_insertBy_59 : decode cX5_insertBy 59 = .ok (.getfield 10, 3) := by decide +kernel
theorem dX5_insertBy_62 : decode cX5_insertBy 62 = .ok (.getfield 96, 3) := by decide +kernel
theorem dX5_insertBy_65 : decode cX5_insertBy 65 = .ok (.iload_n 1, 1) := by decide +kernel
theorem dX5_insertBy_66 : decode cX5_insertBy 66 = .ok (.invokevirtual 112, 3) := by decide +kernel
theorem dX5_insertBy_69 : decode cX5_insertBy 69 = .ok (.ireturn, 1) := by decide +kernel
theorem dX5_write_0 : decode cX5_write 0 = .ok (.aload_n 0, 1) := by decide +kernel
theorem dX5_write_1 : decode cX5_write 1 = .ok (.getfield 10, 3) := by decide +kernel
theorem dX5_write_4 : decode cX5_write 4 = .ok (.getfield 96, 3) := by decide +kernel
theorem dX5_write_7 : decode cX5_write 7 = .ok (.iload_n 1, 1) := by decide +kernel
theorem dX5_write_8 : decode cX5_write 8 = .ok (.invokevirtual 124, 3) := by decide +kernel
theorem dX5_write_11 : decode cX5_write 11 = .ok (.ifCond .eq 17, 3) := by decide +kernel
theorem dX5_write_14 : decode cX5_write 14 = .ok (.aload_n 0, 1) := by decide +kernel
theorem dX5_write_15 : decode cX5_write 15 = .ok (.getfield 10, 3) := by decide +kernel
theorem dX5_write_18 : decode cX5_write 18 = .ok (.getfield 44, 3) := by decide +kernel
theorem dX5_write_21 : decode cX5_write 21 = .ok (.iload_n 2, 1) := by decide +kernel
theorem dX5_write_22 : decode cX5_write 22 = .ok (.invokevirtual 116, 3) := by decide +kernel
theorem dX5_write_25 : decode cX5_write 25 = .ok (.ifCond .ne 13, 3) := by decide +kernel
theorem dX5_write_28 : decode cX5_write 28 = .ok (.new 119, 3) := by decide +kernel
theorem dX5_write_31 : decode cX5_write 31 = .ok (.dup, 1) := by decide +kernel
theorem dX5_write_32 : decode cX5_write 32 = .ok (.ldc 127, 2) := by decide +kernel
theorem dX5_write_34 : decode cX5_write 34 = .ok (.invokespecial 123, 3) := by decide +kernel
theorem dX5_write_37 : decode cX5_write 37 = .ok (.athrow, 1) := by decide +kernel
theorem dX5_write_38 : decode cX5_write 38 = .ok (.iload_n 3, 1) := by decide +kernel
theorem dX5_write_39 : decode cX5_write 39 = .ok (.invokestatic 30, 3) := by decide +kernel
theorem dX5_write_42 : decode cX5_write 42 = .ok (.ifCond .eq 11, 3) := by decide +kernel
theorem dX5_write_45 : decode cX5_write 45 = .ok (.iload 4, 2) := by decide +kernel
theorem dX5_write_47 : decode cX5_write 47 = .ok (.invokestatic 129, 3) := by decide +kernel
theorem dX5_write_50 : decode cX5_write 50 = .ok (.ifCond .ne 13, 3) := by decide +kernel
theorem dX5_write_53 : decode cX5_write 53 = .ok (.new 37, 3) := by decide +kernel
theorem dX5_write_56 : decode cX5_write 56 = .ok (.dup, 1) := by decide +kernel
theorem dX5_write_57 : decode cX5_write 57 = .ok (.ldc 132, 2) := by decide +kernel
theorem dX5_write_59 : decode cX5_write 59 = .ok (.invokespecial 41, 3) := by decide +kernel
theorem dX5_write_62 : decode cX5_write 62 = .ok (.athrow, 1) := by decide +kernel
theorem dX5_write_63 : decode cX5_write 63 = .ok (.aload_n 0, 1) := by decide +kernel
theorem dX5_write_64 : decode cX5_write 64 = .ok (.getfield 10, 3) := by decide +kernel
theorem dX5_write_67 : decode cX5_write 67 = .ok (.iload_n 1, 1) := by decide +kernel
theorem dX5_write_68 : decode cX5_write 68 = .ok (.iload_n 2, 1) := by decide +kernel
theorem dX5_write_69 : decode cX5_write 69 = .ok (.iload_n 3, 1) := by decide +kernel
theorem dX5_write_70 : decode cX5_write 70 = .ok (.invokevirtual 134, 3) := by decide +kernel
theorem dX5_write_73 : decode cX5_write 73 = .ok (.ifCond .eq 13, 3) := by decide +kernel
theorem dX5_write_76 : decode cX5_write 76 = .ok (.new 53, 3) := by decide +kernel
theorem dX5_write_79 : decode cX5_write 79 = .ok (.dup, 1) := by decide +kernel
theorem dX5_write_80 : decode cX5_write 80 = .ok (.ldc 137, 2) := by decide +kernel
theorem dX5_write_82 : decode cX5_write 82 = .ok (.invokespecial 57, 3) := by decide +kernel
theorem dX5_write_85 : decode cX5_write 85 = .ok (.athrow, 1) := by decide +kernel
theorem dX5_write_86 : decode cX5_write 86 = .ok (.aload_n 0, 1) := by decide +kernel
theorem dX5_write_87 : decode cX5_write 87 = .ok (.getfield 19, 3) := by decide +kernel
theorem dX5_write_90 : decode cX5_write 90 = .ok (.aload_n 0, 1) := by decide +kernel
theorem dX5_write_91 : decode cX5_write 91 = .ok (.getfield 10, 3) := by decide +kernel
theorem dX5_write_94 : decode cX5_write 94 = .ok (.invokevirtual 58, 3) := by decide +kernel
theorem dX5_write_97 : decode cX5_write 97 = .ok (.aload_n 0, 1) := by decide +kernel
theorem dX5_write_98 : decode cX5_write 98 = .ok (.getfield 10, 3) := by decide +kernel
theorem dX5_write_101 : decode cX5_write 101 = .ok (.iload_n 1, 1) := by decide +kernel
theorem dX5_write_102 : decode cX5_write 102 = .ok (.iload_n 2, 1) := by decide +kernel
theorem dX5_write_103 : decode cX5_write 103 = .ok (.iload_n 3, 1) := by decide +kernel
theorem dX5_write_104 : decode cX5_write 104 = .ok (.iload 4, 2) := by decide +kernel
theorem dX5_write_106 : decode cX5_write 106 = .ok (.invokevirtual 139, 3) := by decide +kernel
theorem dX5_write_109 : decode cX5_write 109 = .ok (.ireturn, 1) := by decide +kernel
theorem dX5_remove_0 : decode cX5_remove 0 = .ok (.aload_n 0, 1) := by decide +kernel
theorem dX5_remove_1 : decode cX5_remove 1 = .ok (.getfield 10, 3) := by decide +kernel
theorem dX5_remove_4 : decode cX5_remove 4 = .ok (.getfield 96, 3) := by decide +kernel
theorem dX5_remove_7 : decode cX5_remove 7 = .ok (.iload_n 1, 1) := by decide +kernel
theorem dX5_remove_8 : decode cX5_remove 8 = .ok (.invokevirtual 124, 3) := by decide +kernel
theorem dX5_remove_11 : decode cX5_remove 11 = .ok (.ifCond .ne 13, 3) := by decide +kernel
theorem dX5_remove_14 : decode cX5_remove 14 = .ok (.new 119, 3) := by decide +kernel
theorem dX5_remove_17 : decode cX5_remove 17 = .ok (.dup, 1) := by decide +kernel
theorem dX5_remove_18 : decode cX5_remove 18 = .ok (.ldc 143, 2) := by decide +kernel
theorem dX5_remove_20 : decode cX5_remove 20 = .ok (.invokespecial 123, 3) := by decide +kernel
theorem dX5_remove_23 : decode cX5_remove 23 = .ok (.athrow, 1) := by decide +kernel
theorem dX5_remove_24 : decode cX5_remove 24 = .ok (.aload_n 0, 1) := by decide +kernel
theorem dX5_remove_25 : decode cX5_remove 25 = .ok (.getfield 19, 3) := by decide +kernel
theorem dX5_remove_28 : decode cX5_remove 28 = .ok (.aload_n 0, 1) := by decide +kernel
theorem dX5_remove_29 : decode cX5_remove 29 = .ok (.getfield 10, 3) := by decide +kernel
theorem dX5_remove_32 : decode cX5_remove 32 = .ok (.invokevirtual 58, 3) := by decide +kernel
theorem dX5_remove_35 : decode cX5_remove 35 = .ok (.aload_n 0, 1) := by decide +kernel
theorem dX5_remove_36 : decode cX5_remove 36 = .ok (.getfield 10, 3) := by decide +kernel
theorem dX5_remove_39 : decode cX5_remove 39 = .ok (.getfield 96, 3) := by decide +kernel
theorem dX5_remove_42 : decode cX5_remove 42 = .ok (.iload_n 1, 1) := by decide +kernel
theorem dX5_remove_43 : decode cX5_remove 43 = .ok (.invokevirtual 145, 3) := by decide +kernel
theorem dX5_remove_46 : decode cX5_remove 46 = .ok (.ireturn, 1) := by decide +kernel
theorem dX5_goOn_0 : decode cX5_goOn 0 = .ok (.iload_n 1, 1) := by decide +kernel
theorem dX5_goOn_1 : decode cX5_goOn 1 = .ok (.iconst 1, 1) := by decide +kernel
theorem dX5_goOn_2 : decode cX5_goOn 2 = .ok (.if_icmp .lt 9, 3) := by decide +kernel
theorem dX5_goOn_5 : decode cX5_goOn 5 = .ok (.iload_n 1, 1) := by decide +kernel
theorem dX5_goOn_6 : decode cX5_goOn 6 = .ok (.bipush 12, 2) := by decide +kernel
theorem dX5_goOn_8 : decode cX5_goOn 8 = .ok (.if_icmp .le 13, 3) := by decide +kernel
theorem dX5_goOn_11 : decode cX5_goOn 11 = .ok (.new 37, 3) := by decide +kernel
theorem dX5_goOn_14 : decode cX5_goOn 14 = .ok (.dup, 1) := by decide +kernel
theorem dX5_goOn_15 : decode cX5_goOn 15 = .ok (.ldc 148, 2) := by decide +kernel
theorem dX5_goOn_17 : decode cX5_goOn 17 = .ok (.invokespecial 41, 3) := by decide +kernel
theorem dX5_goOn_20 : decode cX5_goOn 20 = .ok (.athrow, 1) := by decide +kernel
theorem dX5_goOn_21 : decode cX5_goOn 21 = .ok (.aload_n 0, 1) := by decide +kernel
theorem dX5_goOn_22 : decode cX5_goOn 22 = .ok (.getfield 19, 3) := by decide +kernel
theorem dX5_goOn_25 : decode cX5_goOn 25 = .ok (.aload_n 0, 1) := by decide +kernel
theorem dX5_goOn_26 : decode cX5_goOn 26 = .ok (.getfield 10, 3) := by decide +kernel
theorem dX5_goOn_29 : decode cX5_goOn 29 = .ok (.invokevirtual 58, 3) := by decide +kernel
theorem dX5_goOn_32 : decode cX5_goOn 32 = .ok (.aload_n 0, 1) := by decide +kernel
theorem dX5_goOn_33 : decode cX5_goOn 33 = .ok (.getfield 10, 3) := by decide +kernel
theorem dX5_goOn_36 : decode cX5_goOn 36 = .ok (.iload_n 1, 1) := by decide +kernel
theorem dX5_goOn_37 : decode cX5_goOn 37 = .ok (.invokevirtual 150, 3) := by decide +kernel
theorem dX5_goOn_40 : decode cX5_goOn 40 = .ok (.ireturn, 1) := by decide +kernel
theorem dX5_hold_0 : decode cX5_hold 0 = .ok (.iload_n 1, 1) := by decide +kernel
theorem dX5_hold_1 : decode cX5_hold 1 = .ok (.invokestatic 153, 3) := by decide +kernel
theorem dX5_hold_4 : decode cX5_hold 4 = .ok (.ifCond .eq 17, 3) := by decide +kernel
theorem dX5_hold_7 : decode cX5_hold 7 = .ok (.aload_n 0, 1) := by decide +kernel
theorem dX5_hold_8 : decode cX5_hold 8 = .ok (.getfield 10, 3) := by decide +kernel
theorem dX5_hold_11 : decode cX5_hold 11 = .ok (.getfield 44, 3) := by decide +kernel
theorem dX5_hold_14 : decode cX5_hold 14 = .ok (.iload_n 2, 1) := by decide +kernel
theorem dX5_hold_15 : decode cX5_hold 15 = .ok (.invokevirtual 116, 3) := by decide +kernel
theorem dX5_hold_18 : decode cX5_hold 18 = .ok (.ifCond .ne 13, 3) := by decide +kernel
theorem dX5_hold_21 : decode cX5_hold 21 = .ok (.new 119, 3) := by decide +kernel
theorem dX5_hold_24 : decode cX5_hold 24 = .ok (.dup, 1) := by decide +kernel
theorem dX5_hold_25 : decode cX5_hold 25 = .ok (.ldc 156, 2) := by decide +kernel
theorem dX5_hold_27 : decode cX5_hold 27 = .ok (.invokespecial 123, 3) := by decide +kernel
theorem dX5_hold_30 : decode cX5_hold 30 = .ok (.athrow, 1) := by decide +kernel
theorem dX5_hold_31 : decode cX5_hold 31 = .ok (.aload_n 0, 1) := by decide +kernel
theorem dX5_hold_32 : decode cX5_hold 32 = .ok (.getfield 19, 3) := by decide +kernel
theorem dX5_hold_35 : decode cX5_hold 35 = .ok (.aload_n 0, 1) := by decide +kernel
theorem dX5_hold_36 : decode cX5_hold 36 = .ok (.getfield 10, 3) := by decide +kernel
theorem dX5_hold_39 : decode cX5_hold 39 = .ok (.invokevirtual 58, 3) := by decide +kernel
theorem dX5_hold_42 : decode cX5_hold 42 = .ok (.aload_n 0, 1) := by decide +kernel
theorem dX5_hold_43 : decode cX5_hold 43 = .ok (.getfield 10, 3) := by decide +kernel
theorem dX5_hold_46 : decode cX5_hold 46 = .ok (.iload_n 1, 1) := by decide +kernel
theorem dX5_hold_47 : decode cX5_hold 47 = .ok (.iload_n 2, 1) := by decide +kernel
theorem dX5_hold_48 : decode cX5_hold 48 = .ok (.invokevirtual 158, 3) := by decide +kernel
theorem dX5_hold_51 : decode cX5_hold 51 = .ok (.ireturn, 1) := by decide +kernel
theorem dX5_retire_0 : decode cX5_retire 0 = .ok (.aload_n 0, 1) := by decide +kernel
theorem dX5_retire_1 : decode cX5_retire 1 = .ok (.getfield 10, 3) := by decide +kernel
theorem dX5_retire_4 : decode cX5_retire 4 = .ok (.getfield 44, 3) := by decide +kernel
theorem dX5_retire_7 : decode cX5_retire 7 = .ok (.iload_n 1, 1) := by decide +kernel
theorem dX5_retire_8 : decode cX5_retire 8 = .ok (.invokevirtual 116, 3) := by decide +kernel
theorem dX5_retire_11 : decode cX5_retire 11 = .ok (.ifCond .ne 13, 3) := by decide +kernel
theorem dX5_retire_14 : decode cX5_retire 14 = .ok (.new 119, 3) := by decide +kernel
theorem dX5_retire_17 : decode cX5_retire 17 = .ok (.dup, 1) := by decide +kernel
theorem dX5_retire_18 : decode cX5_retire 18 = .ok (.ldc 121, 2) := by decide +kernel
theorem dX5_retire_20 : decode cX5_retire 20 = .ok (.invokespecial 123, 3) := by decide +kernel
theorem dX5_retire_23 : decode cX5_retire 23 = .ok (.athrow, 1) := by decide +kernel
theorem dX5_retire_24 : decode cX5_retire 24 = .ok (.aload_n 0, 1) := by decide +kernel
theorem dX5_retire_25 : decode cX5_retire 25 = .ok (.getfield 10, 3) := by decide +kernel
theorem dX5_retire_28 : decode cX5_retire 28 = .ok (.invokevirtual 161, 3) := by decide +kernel
theorem dX5_retire_31 : decode cX5_retire 31 = .ok (.iload_n 1, 1) := by decide +kernel
theorem dX5_retire_32 : decode cX5_retire 32 = .ok (.if_icmp .ge 13, 3) := by decide +kernel
theorem dX5_retire_35 : decode cX5_retire 35 = .ok (.new 53, 3) := by decide +kernel
theorem dX5_retire_38 : decode cX5_retire 38 = .ok (.dup, 1) := by decide +kernel
theorem dX5_retire_39 : decode cX5_retire 39 = .ok (.ldc 164, 2) := by decide +kernel
theorem dX5_retire_41 : decode cX5_retire 41 = .ok (.invokespecial 57, 3) := by decide +kernel
theorem dX5_retire_44 : decode cX5_retire 44 = .ok (.athrow, 1) := by decide +kernel
theorem dX5_retire_45 : decode cX5_retire 45 = .ok (.aload_n 0, 1) := by decide +kernel
theorem dX5_retire_46 : decode cX5_retire 46 = .ok (.getfield 19, 3) := by decide +kernel
theorem dX5_retire_49 : decode cX5_retire 49 = .ok (.aload_n 0, 1) := by decide +kernel
theorem dX5_retire_50 : decode cX5_retire 50 = .ok (.getfield 10, 3) := by decide +kernel
theorem dX5_retire_53 : decode cX5_retire 53 = .ok (.invokevirtual 58, 3) := by decide +kernel
theorem dX5_retire_56 : decode cX5_retire 56 = .ok (.aload_n 0, 1) := by decide +kernel
theorem dX5_retire_57 : decode cX5_retire 57 = .ok (.getfield 10, 3) := by decide +kernel
theorem dX5_retire_60 : decode cX5_retire 60 = .ok (.getfield 44, 3) := by decide +kernel
theorem dX5_retire_63 : decode cX5_retire 63 = .ok (.iload_n 1, 1) := by decide +kernel
theorem dX5_retire_64 : decode cX5_retire 64 = .ok (.invokevirtual 166, 3) := by decide +kernel
theorem dX5_retire_67 : decode cX5_retire 67 = .ok (.ireturn, 1) := by decide +kernel
theorem dX5_append_0 : decode cX5_append 0 = .ok (.iload_n 1, 1) := by decide +kernel
theorem dX5_append_1 : decode cX5_append 1 = .ok (.bipush 33, 2) := by decide +kernel
theorem dX5_append_3 : decode cX5_append 3 = .ok (.if_icmp .lt 9, 3) := by decide +kernel
theorem dX5_append_6 : decode cX5_append 6 = .ok (.iload_n 1, 1) := by decide +kernel
theorem dX5_append_7 : decode cX5_append 7 = .ok (.bipush 126, 2) := by decide +kernel
theorem dX5_append_9 : decode cX5_append 9 = .ok (.if_icmp .le 13, 3) := by decide +kernel
theorem dX5_append_12 : decode cX5_append 12 = .ok (.new 37, 3) := by decide +kernel
theorem dX5_append_15 : decode cX5_append 15 = .ok (.dup, 1) := by decide +kernel
theorem dX5_append_16 : decode cX5_append 16 = .ok (.ldc 169, 2) := by decide +kernel
theorem dX5_append_18 : decode cX5_append 18 = .ok (.invokespecial 41, 3) := by decide +kernel
theorem dX5_append_21 : decode cX5_append 21 = .ok (.athrow, 1) := by decide +kernel
theorem dX5_append_22 : decode cX5_append 22 = .ok (.aload_n 0, 1) := by decide +kernel
theorem dX5_append_23 : decode cX5_append 23 = .ok (.getfield 26, 3) := by decide +kernel
theorem dX5_append_26 : decode cX5_append 26 = .ok (.invokevirtual 171, 3) := by decide +kernel
theorem dX5_append_29 : decode cX5_append 29 = .ok (.ifCond .eq 13, 3) := by decide +kernel
theorem dX5_append_32 : decode cX5_append 32 = .ok (.new 53, 3) := by decide +kernel
theorem dX5_append_35 : decode cX5_append 35 = .ok (.dup, 1) := by decide +kernel
theorem dX5_append_36 : decode cX5_append 36 = .ok (.ldc 172, 2) := by decide +kernel
theorem dX5_append_38 : decode cX5_append 38 = .ok (.invokespecial 57, 3) := by decide +kernel
theorem dX5_append_41 : decode cX5_append 41 = .ok (.athrow, 1) := by decide +kernel
theorem dX5_append_42 : decode cX5_append 42 = .ok (.aload_n 0, 1) := by decide +kernel
theorem dX5_append_43 : decode cX5_append 43 = .ok (.getfield 26, 3) := by decide +kernel
theorem dX5_append_46 : decode cX5_append 46 = .ok (.iload_n 1, 1) := by decide +kernel
theorem dX5_append_47 : decode cX5_append 47 = .ok (.invokevirtual 174, 3) := by decide +kernel
theorem dX5_append_50 : decode cX5_append 50 = .ok (.ireturn, 1) := by decide +kernel
theorem dX5_clearBuffer_0 : decode cX5_clearBuffer 0 = .ok (.aload_n 0, 1) := by decide +kernel
theorem dX5_clearBuffer_1 : decode cX5_clearBuffer 1 = .ok (.getfield 26, 3) := by decide +kernel
theorem dX5_clearBuffer_4 : decode cX5_clearBuffer 4 = .ok (.invokevirtual 177, 3) := by decide +kernel
theorem dX5_clearBuffer_7 : decode cX5_clearBuffer 7 = .ok (.ireturn, 1) := by decide +kernel
theorem dX5_firstError_0 : decode cX5_firstError 0 = .ok (.aload_n 0, 1) := by decide +kernel
theorem dX5_firstError_1 : decode cX5_firstError 1 = .ok (.getfield 26, 3) := by decide +kernel
theorem dX5_firstError_4 : decode cX5_firstError 4 = .ok (.invokevirtual 180, 3) := by decide +kernel
theorem dX5_firstError_7 : decode cX5_firstError 7 = .ok (.ireturn, 1) := by decide +kernel
theorem dX5_run_0 : decode cX5_run 0 = .ok (.aload_n 0, 1) := by decide +kernel
theorem dX5_run_1 : decode cX5_run 1 = .ok (.getfield 26, 3) := by decide +kernel
theorem dX5_run_4 : decode cX5_run 4 = .ok (.invokevirtual 183, 3) := by decide +kernel
theorem dX5_run_7 : decode cX5_run 7 = .ok (.ifCond .ne 13, 3) := by decide +kernel
theorem dX5_run_10 : decode cX5_run 10 = .ok (.new 37, 3) := by decide +kernel
theorem dX5_run_13 : decode cX5_run 13 = .ok (.dup, 1) := by decide +kernel
theorem dX5_run_14 : decode cX5_run 14 = .ok (.ldc 186, 2) := by decide +kernel
theorem dX5_run_16 : decode cX5_run 16 = .ok (.invokespecial 41, 3) := by decide +kernel
theorem dX5_run_19 : decode cX5_run 19 = .ok (.athrow, 1) := by decide +kernel
theorem dX5_run_20 : decode cX5_run 20 = .ok (.aload_n 0, 1) := by decide +kernel
theorem dX5_run_21 : decode cX5_run 21 = .ok (.getfield 19, 3) := by decide +kernel
theorem dX5_run_24 : decode cX5_run 24 = .ok (.aload_n 0, 1) := by decide +kernel
theorem dX5_run_25 : decode cX5_run 25 = .ok (.getfield 10, 3) := by decide +kernel
theorem dX5_run_28 : decode cX5_run 28 = .ok (.invokevirtual 58, 3) := by decide +kernel
theorem dX5_run_31 : decode cX5_run 31 = .ok (.iconst 0, 1) := by decide +kernel
theorem dX5_run_32 : decode cX5_run 32 = .ok (.istore_n 1, 1) := by decide +kernel
theorem dX5_run_33 : decode cX5_run 33 = .ok (.iconst 0, 1) := by decide +kernel
theorem dX5_run_34 : decode cX5_run 34 = .ok (.istore_n 2, 1) := by decide +kernel
theorem dX5_run_35 : decode cX5_run 35 = .ok (.iconst 1, 1) := by decide +kernel
theorem dX5_run_36 : decode cX5_run 36 = .ok (.istore_n 3, 1) := by decide +kernel
theorem dX5_run_37 : decode cX5_run 37 = .ok (.iconst 0, 1) := by decide +kernel
theorem dX5_run_38 : decode cX5_run 38 = .ok (.istore 4, 2) := by decide +kernel
theorem dX5_run_40 : decode cX5_run 40 = .ok (.iload_n 3, 1) := by decide +kernel
theorem dX5_run_41 : decode cX5_run 41 = .ok (.ifCond .eq 58, 3) := by decide +kernel
theorem dX5_run_44 : decode cX5_run 44 = .ok (.iload 4, 2) := by decide +kernel
theorem dX5_run_46 : decode cX5_run 46 = .ok (.aload_n 0, 1) := by decide +kernel
theorem dX5_run_47 : decode cX5_run 47 = .ok (.getfield 26, 3) := by decide +kernel
theorem dX5_run_50 : decode cX5_run 50 = .ok (.invokevirtual 188, 3) := by decide +kernel
theorem dX5_run_53 : decode cX5_run 53 = .ok (.if_icmp .gt 46, 3) := by decide +kernel
theorem dX5_run_56 : decode cX5_run 56 = .ok (.aload_n 0, 1) := by decide +kernel
theorem dX5_run_57 : decode cX5_run 57 = .ok (.getfield 26, 3) := by decide +kernel
theorem dX5_run_60 : decode cX5_run 60 = .ok (.iload 4, 2) := by decide +kernel
theorem dX5_run_62 : decode cX5_run 62 = .ok (.invokevirtual 191, 3) := by decide +kernel
theorem dX5_run_65 : decode cX5_run 65 = .ok (.ifCond .eq 28, 3) := by decide +kernel
theorem dX5_run_68 : decode cX5_run 68 = .ok (.aload_n 0, 1) := by decide +kernel
theorem dX5_run_69 : decode cX5_run 69 = .ok (.iload_n 2, 1) := by decide +kernel
theorem dX5_run_70 : decode cX5_run 70 = .ok (.iload 4, 2) := by decide +kernel
theorem dX5_run_72 : decode cX5_run 72 = .ok (.invokevirtual 194, 3) := by decide +kernel
theorem dX5_run_75 : decode cX5_run 75 = .ok (.istore_n 3, 1) := by decide +kernel
theorem dX5_run_76 : decode cX5_run 76 = .ok (.iload_n 1, 1) := by decide +kernel
theorem dX5_run_77 : decode cX5_run 77 = .ok (.iload_n 3, 1) := by decide +kernel
theorem dX5_run_78 : decode cX5_run 78 = .ok (.ifCond .eq 7, 3) := by decide +kernel
theorem dX5_run_81 : decode cX5_run 81 = .ok (.iconst 1, 1) := by decide +kernel
theorem dX5_run_82 : decode cX5_run 82 = .ok (.goto 4, 3) := by decide +kernel
theorem dX5_run_85 : decode cX5_run 85 = .ok (.iconst 0, 1) := by decide +kernel
theorem dX5_run_86 : decode cX5_run 86 = .ok (.iadd, 1) := by decide +kernel
theorem dX5_run_87 : decode cX5_run 87 = .ok (.istore_n 1, 1) := by decide +kernel
theorem dX5_run_88 : decode cX5_run 88 = .ok (.iload 4, 2) := by decide +kernel
theorem dX5_run_90 : decode cX5_run 90 = .ok (.iconst 1, 1) := by decide +kernel
theorem dX5_run_91 : decode cX5_run 91 = .ok (.iadd, 1) := by decide +kernel
theorem dX5_run_92 : decode cX5_run 92 = .ok (.istore_n 2, 1) := by decide +kernel
theorem dX5_run_93 : decode cX5_run 93 = .ok (.iinc 4 1, 3) := by decide +kernel
theorem dX5_run_96 : decode cX5_run 96 = .ok (.goto (-56), 3) := by decide +kernel
theorem dX5_run_99 : decode cX5_run 99 = .ok (.aload_n 0, 1) := by decide +kernel
theorem dX5_run_100 : decode cX5_run 100 = .ok (.getfield 26, 3) := by decide +kernel
theorem dX5_run_103 : decode cX5_run 103 = .ok (.invokevirtual 177, 3) := by decide +kernel
theorem dX5_run_106 : decode cX5_run 106 = .ok (.pop, 1) := by decide +kernel
theorem dX5_run_107 : decode cX5_run 107 = .ok (.iload_n 1, 1) := by decide +kernel
theorem dX5_run_108 : decode cX5_run 108 = .ok (.ireturn, 1) := by decide +kernel
theorem dX5_undo_0 : decode cX5_undo 0 = .ok (.aload_n 0, 1) := by decide +kernel
theorem dX5_undo_1 : decode cX5_undo 1 = .ok (.getfield 19, 3) := by decide +kernel
theorem dX5_undo_4 : decode cX5_undo 4 = .ok (.invokevirtual 197, 3) := by decide +kernel
theorem dX5_undo_7 : decode cX5_undo 7 = .ok (.ifCond .ne 13, 3) := by decide +kernel
theorem dX5_undo_10 : decode cX5_undo 10 = .ok (.new 53, 3) := by decide +kernel
theorem dX5_undo_13 : decode cX5_undo 13 = .ok (.dup, 1) := by decide +kernel
theorem dX5_undo_14 : decode cX5_undo 14 = .ok (.ldc 200, 2) := by decide +kernel
theorem dX5_undo_16 : decode cX5_undo 16 = .ok (.invokespecial 57, 3) := by decide +kernel
theorem dX5_undo_19 : decode cX5_undo 19 = .ok (.athrow, 1) := by decide +kernel
theorem dX5_undo_20 : decode cX5_undo 20 = .ok (.aload_n 0, 1) := by decide +kernel
theorem dX5_undo_21 : decode cX5_undo 21 = .ok (.getfield 19, 3) := by decide +kernel
theorem dX5_undo_24 : decode cX5_undo 24 = .ok (.aload_n 0, 1) := by decide +kernel
theorem dX5_undo_25 : decode cX5_undo 25 = .ok (.getfield 10, 3) := by decide +kernel
theorem dX5_undo_28 : decode cX5_undo 28 = .ok (.invokevirtual 202, 3) := by decide +kernel
theorem dX5_undo_31 : decode cX5_undo 31 = .ok (.ireturn, 1) := by decide +kernel
theorem dX5_read_0 : decode cX5_read 0 = .ok (.aload_n 0, 1) := by decide +kernel
theorem dX5_read_1 : decode cX5_read 1 = .ok (.getfield 10, 3) := by decide +kernel
theorem dX5_read_4 : decode cX5_read 4 = .ok (.getfield 96, 3) := by decide +kernel
theorem dX5_read_7 : decode cX5_read 7 = .ok (.iload_n 1, 1) := by decide +kernel
theorem dX5_read_8 : decode cX5_read 8 = .ok (.invokevirtual 124, 3) := by decide +kernel
theorem dX5_read_11 : decode cX5_read 11 = .ok (.ifCond .eq 17, 3) := by decide +kernel
theorem dX5_read_14 : decode cX5_read 14 = .ok (.aload_n 0, 1) := by decide +kernel
theorem dX5_read_15 : decode cX5_read 15 = .ok (.getfield 10, 3) := by decide +kernel
theorem dX5_read_18 : decode cX5_read 18 = .ok (.getfield 44, 3) := by decide +kernel
theorem dX5_read_21 : decode cX5_read 21 = .ok (.iload_n 2, 1) := by decide +kernel
theorem dX5_read_22 : decode cX5_read 22 = .ok (.invokevirtual 116, 3) := by decide +kernel
theorem dX5_read_25 : decode cX5_read 25 = .ok (.ifCond .ne 13, 3) := by decide +kernel
theorem dX5_read_28 : decode cX5_read 28 = .ok (.new 119, 3) := by decide +kernel
theorem dX5_read_31 : decode cX5_read 31 = .ok (.dup, 1) := by decide +kernel
theorem dX5_read_32 : decode cX5_read 32 = .ok (.ldc 127, 2) := by decide +kernel
theorem dX5_read_34 : decode cX5_read 34 = .ok (.invokespecial 123, 3) := by decide +kernel
theorem dX5_read_37 : decode cX5_read 37 = .ok (.athrow, 1) := by decide +kernel
theorem dX5_read_38 : decode cX5_read 38 = .ok (.iload_n 3, 1) := by decide +kernel
theorem dX5_read_39 : decode cX5_read 39 = .ok (.invokestatic 30, 3) := by decide +kernel
theorem dX5_read_42 : decode cX5_read 42 = .ok (.ifCond .ne 13, 3) := by decide +kernel
theorem dX5_read_45 : decode cX5_read 45 = .ok (.new 37, 3) := by decide +kernel
theorem dX5_read_48 : decode cX5_read 48 = .ok (.dup, 1) := by decide +kernel
theorem dX5_read_49 : decode cX5_read 49 = .ok (.ldc 206, 2) := by decide +kernel
theorem dX5_read_51 : decode cX5_read 51 = .ok (.invokespecial 41, 3) := by decide +kernel
theorem dX5_read_54 : decode cX5_read 54 = .ok (.athrow, 1) := by decide +kernel
theorem dX5_read_55 : decode cX5_read 55 = .ok (.aload_n 0, 1) := by decide +kernel
theorem dX5_read_56 : decode cX5_read 56 = .ok (.getfield 10, 3) := by decide +kernel
theorem dX5_read_59 : decode cX5_read 59 = .ok (.iload_n 1, 1) := by decide +kernel
theorem dX5_read_60 : decode cX5_read 60 = .ok (.iload_n 2, 1) := by decide +kernel
theorem dX5_read_61 : decode cX5_read 61 = .ok (.iload_n 3, 1) := by decide +kernel
theorem dX5_read_62 : decode cX5_read 62 = .ok (.invokevirtual 208, 3) := by decide +kernel
theorem dX5_read_65 : decode cX5_read 65 = .ok (.ireturn, 1) := by decide +kernel
theorem dX5_readAs_0 : decode cX5_readAs 0 = .ok (.iload_n 1, 1) := by decide +kernel
theorem dX5_readAs_1 : decode cX5_readAs 1 = .ok (.invokestatic 153, 3) := by decide +kernel
theorem dX5_readAs_4 : decode cX5_readAs 4 = .ok (.ifCond .eq 17, 3) := by decide +kernel
theorem dX5_readAs_7 : decode cX5_readAs 7 = .ok (.aload_n 0, 1) := by decide +kernel
theorem dX5_readAs_8 : decode cX5_readAs 8 = .ok (.getfield 10, 3) := by decide +kernel
theorem dX5_readAs_11 : decode cX5_readAs 11 = .ok (.getfield 96, 3) := by decide +kernel
theorem dX5_readAs_14 : decode cX5_readAs 14 = .ok (.iload_n 2, 1) := by decide +kernel
theorem dX5_readAs_15 : decode cX5_readAs 15 = .ok (.invokevirtual 124, 3) := by decide +kernel
theorem dX5_readAs_18 : decode cX5_readAs 18 = .ok (.ifCond .ne 13, 3) := by decide +kernel
theorem dX5_readAs_21 : decode cX5_readAs 21 = .ok (.new 119, 3) := by decide +kernel
theorem dX5_readAs_24 : decode cX5_readAs 24 = .ok (.dup, 1) := by decide +kernel
theorem dX5_readAs_25 : decode cX5_readAs 25 = .ok (.ldc 211, 2) := by decide +kernel
theorem dX5_readAs_27 : decode cX5_readAs 27 = .ok (.invokespecial 123, 3) := by decide +kernel
theorem dX5_readAs_30 : decode cX5_readAs 30 = .ok (.athrow, 1) := by decide +kernel
theorem dX5_readAs_31 : decode cX5_readAs 31 = .ok (.iload_n 3, 1) := by decide +kernel
theorem dX5_readAs_32 : decode cX5_readAs 32 = .ok (.invokestatic 30, 3) := by decide +kernel
theorem dX5_readAs_35 : decode cX5_readAs 35 = .ok (.ifCond .ne 13, 3) := by decide +kernel
theorem dX5_readAs_38 : decode cX5_readAs 38 = .ok (.new 37, 3) := by decide +kernel
theorem dX5_readAs_41 : decode cX5_readAs 41 = .ok (.dup, 1) := by decide +kernel
theorem dX5_readAs_42 : decode cX5_readAs 42 = .ok (.ldc 206, 2) := by decide +kernel
theorem dX5_readAs_44 : decode cX5_readAs 44 = .ok (.invokespecial 41, 3) := by decide +kernel
theorem dX5_readAs_47 : decode cX5_readAs 47 = .ok (.athrow, 1) := by decide +kernel
theorem dX5_readAs_48 : decode cX5_readAs 48 = .ok (.aload_n 0, 1) := by decide +kernel
theorem dX5_readAs_49 : decode cX5_readAs 49 = .ok (.getfield 10, 3) := by decide +kernel
theorem dX5_readAs_52 : decode cX5_readAs 52 = .ok (.iload_n 2, 1) := by decide +kernel
theorem dX5_readAs_53 : decode cX5_readAs 53 = .ok (.aload_n 0, 1) := by decide +kernel
theorem dX5_readAs_54 : decode cX5_readAs 54 = .ok (.getfield 10, 3) := by decide +kernel
theorem dX5_readAs_57 : decode cX5_readAs 57 = .ok (.iload_n 1, 1) := by decide +kernel
theorem dX5_readAs_58 : decode cX5_readAs 58 = .ok (.invokevirtual 213, 3) := by decide +kernel
theorem dX5_readAs_61 : decode cX5_readAs 61 = .ok (.iload_n 3, 1) := by decide +kernel
theorem dX5_readAs_62 : decode cX5_readAs 62 = .ok (.invokevirtual 208, 3) := by decide +kernel
theorem dX5_readAs_65 : decode cX5_readAs 65 = .ok (.ireturn, 1) := by decide +kernel
theorem dX5_column_0 : decode cX5_column 0 = .ok (.aload_n 0, 1) := by decide +kernel
theorem dX5_column_1 : decode cX5_column 1 = .ok (.getfield 10, 3) := by decide +kernel
theorem dX5_column_4 : decode cX5_column 4 = .ok (.getfield 44, 3) := by decide +kernel
theorem dX5_column_7 : decode cX5_column 7 = .ok (.iload_n 1, 1) := by decide +kernel
theorem dX5_column_8 : decode cX5_column 8 = .ok (.invokevirtual 216, 3) := by decide +kernel
theorem dX5_column_11 : decode cX5_column 11 = .ok (.ifCond .ne 13, 3) := by decide +kernel
theorem dX5_column_14 : decode cX5_column 14 = .ok (.new 119, 3) := by decide +kernel
theorem dX5_column_17 : decode cX5_column 17 = .ok (.dup, 1) := by decide +kernel
theorem dX5_column_18 : decode cX5_column 18 = .ok (.ldc 217, 2) := by decide +kernel
theorem dX5_column_20 : decode cX5_column 20 = .ok (.invokespecial 123, 3) := by decide +kernel
theorem dX5_column_23 : decode cX5_column 23 = .ok (.athrow, 1) := by decide +kernel
theorem dX5_column_24 : decode cX5_column 24 = .ok (.iload_n 2, 1) := by decide +kernel
theorem dX5_column_25 : decode cX5_column 25 = .ok (.ifCond .lt 12, 3) := by decide +kernel
theorem dX5_column_28 : decode cX5_column 28 = .ok (.iload_n 3, 1) := by decide +kernel
theorem dX5_column_29 : decode cX5_column 29 = .ok (.ifCond .lt 8, 3) := by decide +kernel
theorem dX5_column_32 : decode cX5_column 32 = .ok (.iload_n 3, 1) := by decide +kernel
theorem dX5_column_33 : decode cX5_column 33 = .ok (.iconst 3, 1) := by decide +kernel
theorem dX5_column_34 : decode cX5_column 34 = .ok (.if_icmp .lt 13, 3) := by decide +kernel
theorem dX5_column_37 : decode cX5_column 37 = .ok (.new 37, 3) := by decide +kernel
theorem dX5_column_40 : decode cX5_column 40 = .ok (.dup, 1) := by decide +kernel
theorem dX5_column_41 : decode cX5_column 41 = .ok (.ldc 219, 2) := by decide +kernel
theorem dX5_column_43 : decode cX5_column 43 = .ok (.invokespecial 41, 3) := by decide +kernel
theorem dX5_column_46 : decode cX5_column 46 = .ok (.athrow, 1) := by decide +kernel
theorem dX5_column_47 : decode cX5_column 47 = .ok (.aload_n 0, 1) := by decide +kernel
theorem dX5_column_48 : decode cX5_column 48 = .ok (.getfield 10, 3) := by decide +kernel
theorem dX5_column_51 : decode cX5_column 51 = .ok (.getfield 44, 3) := by decide +kernel
theorem dX5_column_54 : decode cX5_column 54 = .ok (.iload_n 1, 1) := by decide +kernel
theorem dX5_column_55 : decode cX5_column 55 = .ok (.iload_n 2, 1) := by decide +kernel
theorem dX5_column_56 : decode cX5_column 56 = .ok (.iload_n 3, 1) := by decide +kernel
theorem dX5_column_57 : decode cX5_column 57 = .ok (.invokevirtual 221, 3) := by decide +kernel
theorem dX5_column_60 : decode cX5_column 60 = .ok (.ireturn, 1) := by decide +kernel
theorem dX5_shape_0 : decode cX5_shape 0 = .ok (.aload_n 0, 1) := by decide +kernel
theorem dX5_shape_1 : decode cX5_shape 1 = .ok (.getfield 10, 3) := by decide +kernel
theorem dX5_shape_4 : decode cX5_shape 4 = .ok (.getfield 44, 3) := by decide +kernel
theorem dX5_shape_7 : decode cX5_shape 7 = .ok (.iload_n 1, 1) := by decide +kernel
theorem dX5_shape_8 : decode cX5_shape 8 = .ok (.invokevirtual 216, 3) := by decide +kernel
theorem dX5_shape_11 : decode cX5_shape 11 = .ok (.ifCond .ne 13, 3) := by decide +kernel
theorem dX5_shape_14 : decode cX5_shape 14 = .ok (.new 119, 3) := by decide +kernel
theorem dX5_shape_17 : decode cX5_shape 17 = .ok (.dup, 1) := by decide +kernel
theorem dX5_shape_18 : decode cX5_shape 18 = .ok (.ldc 217, 2) := by decide +kernel
theorem dX5_shape_20 : decode cX5_shape 20 = .ok (.invokespecial 123, 3) := by decide +kernel
theorem dX5_shape_23 : decode cX5_shape 23 = .ok (.athrow, 1) := by decide +kernel
theorem dX5_shape_24 : decode cX5_shape 24 = .ok (.iload_n 2, 1) := by decide +kernel
theorem dX5_shape_25 : decode cX5_shape 25 = .ok (.ifCond .lt 9, 3) := by decide +kernel
theorem dX5_shape_28 : decode cX5_shape 28 = .ok (.iload_n 2, 1) := by decide +kernel
theorem dX5_shape_29 : decode cX5_shape 29 = .ok (.bipush 6, 2) := by decide +kernel
theorem dX5_shape_31 : decode cX5_shape 31 = .ok (.if_icmp .lt 13, 3) := by decide +kernel
theorem dX5_shape_34 : decode cX5_shape 34 = .ok (.new 37, 3) := by decide +kernel
theorem dX5_shape_37 : decode cX5_shape 37 = .ok (.dup, 1) := by decide +kernel
theorem dX5_shape_38 : decode cX5_shape 38 = .ok (.ldc 224, 2) := by decide +kernel
theorem dX5_shape_40 : decode cX5_shape 40 = .ok (.invokespecial 41, 3) := by decide +kernel
theorem dX5_shape_43 : decode cX5_shape 43 = .ok (.athrow, 1) := by decide +kernel
theorem dX5_shape_44 : decode cX5_shape 44 = .ok (.aload_n 0, 1) := by decide +kernel
theorem dX5_shape_45 : decode cX5_shape 45 = .ok (.getfield 10, 3) := by decide +kernel
theorem dX5_shape_48 : decode cX5_shape 48 = .ok (.iload_n 1, 1) := by decide +kernel
theorem dX5_shape_49 : decode cX5_shape 49 = .ok (.iload_n 2, 1) := by decide +kernel
theorem dX5_shape_50 : decode cX5_shape 50 = .ok (.invokevirtual 226, 3) := by decide +kernel
theorem dX5_shape_53 : decode cX5_shape 53 = .ok (.ireturn, 1) := by decide +kernel
theorem dX5_row_0 : decode cX5_row 0 = .ok (.aload_n 0, 1) := by decide +kernel
theorem dX5_row_1 : decode cX5_row 1 = .ok (.getfield 10, 3) := by decide +kernel
theorem dX5_row_4 : decode cX5_row 4 = .ok (.getfield 96, 3) := by decide +kernel
theorem dX5_row_7 : decode cX5_row 7 = .ok (.iload_n 1, 1) := by decide +kernel
theorem dX5_row_8 : decode cX5_row 8 = .ok (.invokevirtual 124, 3) := by decide +kernel
theorem dX5_row_11 : decode cX5_row 11 = .ok (.ifCond .ne 13, 3) := by decide +kernel
theorem dX5_row_14 : decode cX5_row 14 = .ok (.new 119, 3) := by decide +kernel
theorem dX5_row_17 : decode cX5_row 17 = .ok (.dup, 1) := by decide +kernel
theorem dX5_row_18 : decode cX5_row 18 = .ok (.ldc 143, 2) := by decide +kernel
theorem dX5_row_20 : decode cX5_row 20 = .ok (.invokespecial 123, 3) := by decide +kernel
theorem dX5_row_23 : decode cX5_row 23 = .ok (.athrow, 1) := by decide +kernel
theorem dX5_row_24 : decode cX5_row 24 = .ok (.iload_n 2, 1) := by decide +kernel
theorem dX5_row_25 : decode cX5_row 25 = .ok (.ifCond .lt 9, 3) := by decide +kernel
theorem dX5_row_28 : decode cX5_row 28 = .ok (.iload_n 2, 1) := by decide +kernel
theorem dX5_row_29 : decode cX5_row 29 = .ok (.bipush 6, 2) := by decide +kernel
theorem dX5_row_31 : decode cX5_row 31 = .ok (.if_icmp .lt 13, 3) := by decide +kernel
theorem dX5_row_34 : decode cX5_row 34 = .ok (.new 37, 3) := by decide +kernel
theorem dX5_row_37 : decode cX5_row 37 = .ok (.dup, 1) := by decide +kernel
theorem dX5_row_38 : decode cX5_row 38 = .ok (.ldc 224, 2) := by decide +kernel
theorem dX5_row_40 : decode cX5_row 40 = .ok (.invokespecial 41, 3) := by decide +kernel
theorem dX5_row_43 : decode cX5_row 43 = .ok (.athrow, 1) := by decide +kernel
theorem dX5_row_44 : decode cX5_row 44 = .ok (.aload_n 0, 1) := by decide +kernel
theorem dX5_row_45 : decode cX5_row 45 = .ok (.getfield 10, 3) := by decide +kernel
theorem dX5_row_48 : decode cX5_row 48 = .ok (.iload_n 1, 1) := by decide +kernel
theorem dX5_row_49 : decode cX5_row 49 = .ok (.iload_n 2, 1) := by decide +kernel
theorem dX5_row_50 : decode cX5_row 50 = .ok (.invokevirtual 229, 3) := by decide +kernel
theorem dX5_row_53 : decode cX5_row 53 = .ok (.ireturn, 1) := by decide +kernel
theorem dX5_count_0 : decode cX5_count 0 = .ok (.iload_n 1, 1) := by decide +kernel
theorem dX5_count_1 : decode cX5_count 1 = .ok (.ifCond .lt 9, 3) := by decide +kernel
theorem dX5_count_4 : decode cX5_count 4 = .ok (.iload_n 1, 1) := by decide +kernel
theorem dX5_count_5 : decode cX5_count 5 = .ok (.bipush 10, 2) := by decide +kernel
theorem dX5_count_7 : decode cX5_count 7 = .ok (.if_icmp .lt 13, 3) := by decide +kernel
theorem dX5_count_10 : decode cX5_count 10 = .ok (.new 37, 3) := by decide +kernel
theorem dX5_count_13 : decode cX5_count 13 = .ok (.dup, 1) := by decide +kernel
theorem dX5_count_14 : decode cX5_count 14 = .ok (.ldc 224, 2) := by decide +kernel
theorem dX5_count_16 : decode cX5_count 16 = .ok (.invokespecial 41, 3) := by decide +kernel
theorem dX5_count_19 : decode cX5_count 19 = .ok (.athrow, 1) := by decide +kernel
theorem dX5_count_20 : decode cX5_count 20 = .ok (.aload_n 0, 1) := by decide +kernel
theorem dX5_count_21 : decode cX5_count 21 = .ok (.iload_n 1, 1) := by decide +kernel
theorem dX5_count_22 : decode cX5_count 22 = .ok (.invokevirtual 232, 3) := by decide +kernel
theorem dX5_count_25 : decode cX5_count 25 = .ok (.ireturn, 1) := by decide +kernel
theorem dX5_lost_0 : decode cX5_lost 0 = .ok (.aload_n 0, 1) := by decide +kernel
theorem dX5_lost_1 : decode cX5_lost 1 = .ok (.getfield 10, 3) := by decide +kernel
theorem dX5_lost_4 : decode cX5_lost 4 = .ok (.getfield 96, 3) := by decide +kernel
theorem dX5_lost_7 : decode cX5_lost 7 = .ok (.iload_n 1, 1) := by decide +kernel
theorem dX5_lost_8 : decode cX5_lost 8 = .ok (.invokevirtual 124, 3) := by decide +kernel
theorem dX5_lost_11 : decode cX5_lost 11 = .ok (.ifCond .eq 17, 3) := by decide +kernel
theorem dX5_lost_14 : decode cX5_lost 14 = .ok (.aload_n 0, 1) := by decide +kernel
theorem dX5_lost_15 : decode cX5_lost 15 = .ok (.getfield 10, 3) := by decide +kernel
theorem dX5_lost_18 : decode cX5_lost 18 = .ok (.getfield 44, 3) := by decide +kernel
theorem dX5_lost_21 : decode cX5_lost 21 = .ok (.iload_n 2, 1) := by decide +kernel
theorem dX5_lost_22 : decode cX5_lost 22 = .ok (.invokevirtual 116, 3) := by decide +kernel
theorem dX5_lost_25 : decode cX5_lost 25 = .ok (.ifCond .ne 13, 3) := by decide +kernel
theorem dX5_lost_28 : decode cX5_lost 28 = .ok (.new 119, 3) := by decide +kernel
theorem dX5_lost_31 : decode cX5_lost 31 = .ok (.dup, 1) := by decide +kernel
theorem dX5_lost_32 : decode cX5_lost 32 = .ok (.ldc 127, 2) := by decide +kernel
theorem dX5_lost_34 : decode cX5_lost 34 = .ok (.invokespecial 123, 3) := by decide +kernel
theorem dX5_lost_37 : decode cX5_lost 37 = .ok (.athrow, 1) := by decide +kernel
theorem dX5_lost_38 : decode cX5_lost 38 = .ok (.aload_n 0, 1) := by decide +kernel
theorem dX5_lost_39 : decode cX5_lost 39 = .ok (.getfield 10, 3) := by decide +kernel
theorem dX5_lost_42 : decode cX5_lost 42 = .ok (.iload_n 1, 1) := by decide +kernel
theorem dX5_lost_43 : decode cX5_lost 43 = .ok (.iload_n 2, 1) := by decide +kernel
theorem dX5_lost_44 : decode cX5_lost 44 = .ok (.invokevirtual 235, 3) := by decide +kernel
theorem dX5_lost_47 : decode cX5_lost 47 = .ok (.ireturn, 1) := by decide +kernel
theorem dX5_against_0 : decode cX5_against 0 = .ok (.aload_n 0, 1) := by decide +kernel
theorem dX5_against_1 : decode cX5_against 1 = .ok (.getfield 10, 3) := by decide +kernel
theorem dX5_against_4 : decode cX5_against 4 = .ok (.getfield 96, 3) := by decide +kernel
theorem dX5_against_7 : decode cX5_against 7 = .ok (.iload_n 1, 1) := by decide +kernel
theorem dX5_against_8 : decode cX5_against 8 = .ok (.invokevirtual 124, 3) := by decide +kernel
theorem dX5_against_11 : decode cX5_against 11 = .ok (.ifCond .eq 17, 3) := by decide +kernel
theorem dX5_against_14 : decode cX5_against 14 = .ok (.aload_n 0, 1) := by decide +kernel
theorem dX5_against_15 : decode cX5_against 15 = .ok (.getfield 10, 3) := by decide +kernel
theorem dX5_against_18 : decode cX5_against 18 = .ok (.getfield 44, 3) := by decide +kernel
theorem dX5_against_21 : decode cX5_against 21 = .ok (.iload_n 2, 1) := by decide +kernel
theorem dX5_against_22 : decode cX5_against 22 = .ok (.invokevirtual 116, 3) := by decide +kernel
theorem dX5_against_25 : decode cX5_against 25 = .ok (.ifCond .ne 13, 3) := by decide +kernel
theorem dX5_against_28 : decode cX5_against 28 = .ok (.new 119, 3) := by decide +kernel
theorem dX5_against_31 : decode cX5_against 31 = .ok (.dup, 1) := by decide +kernel
theorem dX5_against_32 : decode cX5_against 32 = .ok (.ldc 127, 2) := by decide +kernel
theorem dX5_against_34 : decode cX5_against 34 = .ok (.invokespecial 123, 3) := by decide +kernel
theorem dX5_against_37 : decode cX5_against 37 = .ok (.athrow, 1) := by decide +kernel
theorem dX5_against_38 : decode cX5_against 38 = .ok (.iload_n 3, 1) := by decide +kernel
theorem dX5_against_39 : decode cX5_against 39 = .ok (.invokestatic 30, 3) := by decide +kernel
theorem dX5_against_42 : decode cX5_against 42 = .ok (.ifCond .ne 13, 3) := by decide +kernel
theorem dX5_against_45 : decode cX5_against 45 = .ok (.new 37, 3) := by decide +kernel
theorem dX5_against_48 : decode cX5_against 48 = .ok (.dup, 1) := by decide +kernel
theorem dX5_against_49 : decode cX5_against 49 = .ok (.ldc 206, 2) := by decide +kernel
theorem dX5_against_51 : decode cX5_against 51 = .ok (.invokespecial 41, 3) := by decide +kernel
theorem dX5_against_54 : decode cX5_against 54 = .ok (.athrow, 1) := by decide +kernel
theorem dX5_against_55 : decode cX5_against 55 = .ok (.aload_n 0, 1) := by decide +kernel
theorem dX5_against_56 : decode cX5_against 56 = .ok (.getfield 10, 3) := by decide +kernel
theorem dX5_against_59 : decode cX5_against 59 = .ok (.iload_n 1, 1) := by decide +kernel
theorem dX5_against_60 : decode cX5_against 60 = .ok (.iload_n 2, 1) := by decide +kernel
theorem dX5_against_61 : decode cX5_against 61 = .ok (.iload_n 3, 1) := by decide +kernel
theorem dX5_against_62 : decode cX5_against 62 = .ok (.invokevirtual 134, 3) := by decide +kernel
theorem dX5_against_65 : decode cX5_against 65 = .ok (.ireturn, 1) := by decide +kernel
theorem dX5_toGo_0 : decode cX5_toGo 0 = .ok (.aload_n 0, 1) := by decide +kernel
theorem dX5_toGo_1 : decode cX5_toGo 1 = .ok (.getfield 10, 3) := by decide +kernel
theorem dX5_toGo_4 : decode cX5_toGo 4 = .ok (.invokevirtual 238, 3) := by decide +kernel
theorem dX5_toGo_7 : decode cX5_toGo 7 = .ok (.ireturn, 1) := by decide +kernel
theorem dX5_find_0 : decode cX5_find 0 = .ok (.aload_n 0, 1) := by decide +kernel
theorem dX5_find_1 : decode cX5_find 1 = .ok (.getfield 10, 3) := by decide +kernel
theorem dX5_find_4 : decode cX5_find 4 = .ok (.getfield 44, 3) := by decide +kernel
theorem dX5_find_7 : decode cX5_find 7 = .ok (.iload_n 1, 1) := by decide +kernel
theorem dX5_find_8 : decode cX5_find 8 = .ok (.invokevirtual 116, 3) := by decide +kernel
theorem dX5_find_11 : decode cX5_find 11 = .ok (.ifCond .ne 13, 3) := by decide +kernel
theorem dX5_find_14 : decode cX5_find 14 = .ok (.new 119, 3) := by decide +kernel
theorem dX5_find_17 : decode cX5_find 17 = .ok (.dup, 1) := by decide +kernel
theorem dX5_find_18 : decode cX5_find 18 = .ok (.ldc 121, 2) := by decide +kernel
theorem dX5_find_20 : decode cX5_find 20 = .ok (.invokespecial 123, 3) := by decide +kernel
theorem dX5_find_23 : decode cX5_find 23 = .ok (.athrow, 1) := by decide +kernel
theorem dX5_find_24 : decode cX5_find 24 = .ok (.iload_n 2, 1) := by decide +kernel
theorem dX5_find_25 : decode cX5_find 25 = .ok (.invokestatic 30, 3) := by decide +kernel
theorem dX5_find_28 : decode cX5_find 28 = .ok (.ifCond .eq 10, 3) := by decide +kernel
theorem dX5_find_31 : decode cX5_find 31 = .ok (.iload_n 3, 1) := by decide +kernel
theorem dX5_find_32 : decode cX5_find 32 = .ok (.invokestatic 129, 3) := by decide +kernel
theorem dX5_find_35 : decode cX5_find 35 = .ok (.ifCond .ne 13, 3) := by decide +kernel
theorem dX5_find_38 : decode cX5_find 38 = .ok (.new 37, 3) := by decide +kernel
theorem dX5_find_41 : decode cX5_find 41 = .ok (.dup, 1) := by decide +kernel
theorem dX5_find_42 : decode cX5_find 42 = .ok (.ldc 132, 2) := by decide +kernel
theorem dX5_find_44 : decode cX5_find 44 = .ok (.invokespecial 41, 3) := by decide +kernel
theorem dX5_find_47 : decode cX5_find 47 = .ok (.athrow, 1) := by decide +kernel
theorem dX5_find_48 : decode cX5_find 48 = .ok (.aload_n 0, 1) := by decide +kernel
theorem dX5_find_49 : decode cX5_find 49 = .ok (.getfield 10, 3) := by decide +kernel
theorem dX5_find_52 : decode cX5_find 52 = .ok (.iload_n 1, 1) := by decide +kernel
theorem dX5_find_53 : decode cX5_find 53 = .ok (.iload_n 2, 1) := by decide +kernel
theorem dX5_find_54 : decode cX5_find 54 = .ok (.iload_n 3, 1) := by decide +kernel
theorem dX5_find_55 : decode cX5_find 55 = .ok (.invokevirtual 241, 3) := by decide +kernel
theorem dX5_find_58 : decode cX5_find 58 = .ok (.ireturn, 1) := by decide +kernel
theorem dX5_freshShare_0 : decode cX5_freshShare 0 = .ok (.aload_n 0, 1) := by decide +kernel
theorem dX5_freshShare_1 : decode cX5_freshShare 1 = .ok (.getfield 10, 3) := by decide +kernel
theorem dX5_freshShare_4 : decode cX5_freshShare 4 = .ok (.getfield 96, 3) := by decide +kernel
theorem dX5_freshShare_7 : decode cX5_freshShare 7 = .ok (.invokevirtual 244, 3) := by decide +kernel
theorem dX5_freshShare_10 : decode cX5_freshShare 10 = .ok (.istore_n 1, 1) := by decide +kernel
theorem dX5_freshShare_11 : decode cX5_freshShare 11 = .ok (.iload_n 1, 1) := by decide +kernel
theorem dX5_freshShare_12 : decode cX5_freshShare 12 = .ok (.ifCond .ne 5, 3) := by decide +kernel
theorem dX5_freshShare_15 : decode cX5_freshShare 15 = .ok (.dconst 1, 1) := by decide +kernel
theorem dX5_freshShare_16 : decode cX5_freshShare 16 = .ok (.dreturn, 1) := by decide +kernel
theorem dX5_freshShare_17 : decode cX5_freshShare 17 = .ok (.iload_n 1, 1) := by decide +kernel
theorem dX5_freshShare_18 : decode cX5_freshShare 18 = .ok (.aload_n 0, 1) := by decide +kernel
theorem dX5_freshShare_19 : decode cX5_freshShare 19 = .ok (.getfield 10, 3) := by decide +kernel
theorem dX5_freshShare_22 : decode cX5_freshShare 22 = .ok (.invokevirtual 245, 3) := by decide +kernel
theorem dX5_freshShare_25 : decode cX5_freshShare 25 = .ok (.isub, 1) := by decide +kernel
theorem dX5_freshShare_26 : decode cX5_freshShare 26 = .ok (.i2d, 1) := by decide +kernel
theorem dX5_freshShare_27 : decode cX5_freshShare 27 = .ok (.iload_n 1, 1) := by decide +kernel
theorem dX5_freshShare_28 : decode cX5_freshShare 28 = .ok (.i2d, 1) := by decide +kernel
theorem dX5_freshShare_29 : decode cX5_freshShare 29 = .ok (.ddiv, 1) := by decide +kernel
theorem dX5_freshShare_30 : decode cX5_freshShare 30 = .ok (.dreturn, 1) := by decide +kernel
theorem dX5_digest_0 : decode cX5_digest 0 = .ok (.ldc2_w 248, 3) := by decide +kernel
theorem dX5_digest_3 : decode cX5_digest 3 = .ok (.lstore_n 1, 1) := by decide +kernel
theorem dX5_digest_4 : decode cX5_digest 4 = .ok (.iconst 0, 1) := by decide +kernel
theorem dX5_digest_5 : decode cX5_digest 5 = .ok (.istore_n 3, 1) := by decide +kernel
theorem dX5_digest_6 : decode cX5_digest 6 = .ok (.iload_n 3, 1) := by decide +kernel
theorem dX5_digest_7 : decode cX5_digest 7 = .ok (.bipush 10, 2) := by decide +kernel
theorem dX5_digest_9 : decode cX5_digest 9 = .ok (.if_icmp .ge 20, 3) := by decide +kernel
theorem dX5_digest_12 : decode cX5_digest 12 = .ok (.lload_n 1, 1) := by decide +kernel
theorem dX5_digest_13 : decode cX5_digest 13 = .ok (.aload_n 0, 1) := by decide +kernel
theorem dX5_digest_14 : decode cX5_digest 14 = .ok (.iload_n 3, 1) := by decide +kernel
theorem dX5_digest_15 : decode cX5_digest 15 = .ok (.invokevirtual 232, 3) := by decide +kernel
theorem dX5_digest_18 : decode cX5_digest 18 = .ok (.i2l, 1) := by decide +kernel
theorem dX5_digest_19 : decode cX5_digest 19 = .ok (.invokestatic 250, 3) := by decide +kernel
theorem dX5_digest_22 : decode cX5_digest 22 = .ok (.lstore_n 1, 1) := by decide +kernel
theorem dX5_digest_23 : decode cX5_digest 23 = .ok (.iinc 3 1, 3) := by decide +kernel
theorem dX5_digest_26 : decode cX5_digest 26 = .ok (.goto (-20), 3) := by decide +kernel
theorem dX5_digest_29 : decode cX5_digest 29 = .ok (.aload_n 0, 1) := by decide +kernel
theorem dX5_digest_30 : decode cX5_digest 30 = .ok (.lload_n 1, 1) := by decide +kernel
theorem dX5_digest_31 : decode cX5_digest 31 = .ok (.invokevirtual 254, 3) := by decide +kernel
theorem dX5_digest_34 : decode cX5_digest 34 = .ok (.lstore_n 1, 1) := by decide +kernel
theorem dX5_digest_35 : decode cX5_digest 35 = .ok (.iconst 0, 1) := by decide +kernel
theorem dX5_digest_36 : decode cX5_digest 36 = .ok (.istore_n 3, 1) := by decide +kernel
theorem dX5_digest_37 : decode cX5_digest 37 = .ok (.iload_n 3, 1) := by decide +kernel
theorem dX5_digest_38 : decode cX5_digest 38 = .ok (.aload_n 0, 1) := by decide +kernel
theorem dX5_digest_39 : decode cX5_digest 39 = .ok (.getfield 10, 3) := by decide +kernel
theorem dX5_digest_42 : decode cX5_digest 42 = .ok (.getfield 96, 3) := by decide +kernel
theorem dX5_digest_45 : decode cX5_digest 45 = .ok (.invokevirtual 244, 3) := by decide +kernel
theorem dX5_digest_48 : decode cX5_digest 48 = .ok (.if_icmp .ge 16, 3) := by decide +kernel
theorem dX5_digest_51 : decode cX5_digest 51 = .ok (.aload_n 0, 1) := by decide +kernel
theorem dX5_digest_52 : decode cX5_digest 52 = .ok (.lload_n 1, 1) := by decide +kernel
theorem dX5_digest_53 : decode cX5_digest 53 = .ok (.iload_n 3, 1) := by decide +kernel
theorem dX5_digest_54 : decode cX5_digest 54 = .ok (.invokevirtual 258, 3) := by decide +kernel
theorem dX5_digest_57 : decode cX5_digest 57 = .ok (.lstore_n 1, 1) := by decide +kernel
theorem dX5_digest_58 : decode cX5_digest 58 = .ok (.iinc 3 1, 3) := by decide +kernel
theorem dX5_digest_61 : decode cX5_digest 61 = .ok (.goto (-24), 3) := by decide +kernel
theorem dX5_digest_64 : decode cX5_digest 64 = .ok (.iconst 0, 1) := by decide +kernel
theorem dX5_digest_65 : decode cX5_digest 65 = .ok (.istore_n 3, 1) := by decide +kernel
theorem dX5_digest_66 : decode cX5_digest 66 = .ok (.iload_n 3, 1) := by decide +kernel
theorem dX5_digest_67 : decode cX5_digest 67 = .ok (.iconst 4, 1) := by decide +kernel
theorem dX5_digest_68 : decode cX5_digest 68 = .ok (.if_icmp .ge 23, 3) := by decide +kernel
theorem dX5_digest_71 : decode cX5_digest 71 = .ok (.lload_n 1, 1) := by decide +kernel
theorem dX5_digest_72 : decode cX5_digest 72 = .ok (.aload_n 0, 1) := by decide +kernel
theorem dX5_digest_73 : decode cX5_digest 73 = .ok (.getfield 10, 3) := by decide +kernel
theorem dX5_digest_76 : decode cX5_digest 76 = .ok (.iload_n 3, 1) := by decide +kernel
theorem dX5_digest_77 : decode cX5_digest 77 = .ok (.invokevirtual 213, 3) := by decide +kernel
theorem dX5_digest_80 : decode cX5_digest 80 = .ok (.i2l, 1) := by decide +kernel
theorem dX5_digest_81 : decode cX5_digest 81 = .ok (.invokestatic 250, 3) := by decide +kernel
theorem dX5_digest_84 : decode cX5_digest 84 = .ok (.lstore_n 1, 1) := by decide +kernel
theorem dX5_digest_85 : decode cX5_digest 85 = .ok (.iinc 3 1, 3) := by decide +kernel
theorem dX5_digest_88 : decode cX5_digest 88 = .ok (.goto (-22), 3) := by decide +kernel
theorem dX5_digest_91 : decode cX5_digest 91 = .ok (.lload_n 1, 1) := by decide +kernel
theorem dX5_digest_92 : decode cX5_digest 92 = .ok (.aload_n 0, 1) := by decide +kernel
theorem dX5_digest_93 : decode cX5_digest 93 = .ok (.getfield 10, 3) := by decide +kernel
theorem dX5_digest_96 : decode cX5_digest 96 = .ok (.invokevirtual 238, 3) := by decide +kernel
theorem dX5_digest_99 : decode cX5_digest 99 = .ok (.i2l, 1) := by decide +kernel
theorem dX5_digest_100 : decode cX5_digest 100 = .ok (.invokestatic 250, 3) := by decide +kernel
theorem dX5_digest_103 : decode cX5_digest 103 = .ok (.lstore_n 1, 1) := by decide +kernel
theorem dX5_digest_104 : decode cX5_digest 104 = .ok (.lload_n 1, 1) := by decide +kernel
theorem dX5_digest_105 : decode cX5_digest 105 = .ok (.aload_n 0, 1) := by decide +kernel
theorem dX5_digest_106 : decode cX5_digest 106 = .ok (.getfield 10, 3) := by decide +kernel
theorem dX5_digest_109 : decode cX5_digest 109 = .ok (.aload_n 0, 1) := by decide +kernel
theorem dX5_digest_110 : decode cX5_digest 110 = .ok (.getfield 10, 3) := by decide +kernel
theorem dX5_digest_113 : decode cX5_digest 113 = .ok (.getfield 44, 3) := by decide +kernel
theorem dX5_digest_116 : decode cX5_digest 116 = .ok (.invokevirtual 108, 3) := by decide +kernel
theorem dX5_digest_119 : decode cX5_digest 119 = .ok (.iconst 0, 1) := by decide +kernel
theorem dX5_digest_120 : decode cX5_digest 120 = .ok (.iconst 5, 1) := by decide +kernel
theorem dX5_digest_121 : decode cX5_digest 121 = .ok (.invokevirtual 241, 3) := by decide +kernel
theorem dX5_digest_124 : decode cX5_digest 124 = .ok (.i2l, 1) := by decide +kernel
theorem dX5_digest_125 : decode cX5_digest 125 = .ok (.invokestatic 250, 3) := by decide +kernel
theorem dX5_digest_128 : decode cX5_digest 128 = .ok (.lstore_n 1, 1) := by decide +kernel
theorem dX5_digest_129 : decode cX5_digest 129 = .ok (.lload_n 1, 1) := by decide +kernel
theorem dX5_digest_130 : decode cX5_digest 130 = .ok (.aload_n 0, 1) := by decide +kernel
theorem dX5_digest_131 : decode cX5_digest 131 = .ok (.invokevirtual 262, 3) := by decide +kernel
theorem dX5_digest_134 : decode cX5_digest 134 = .ok (.invokestatic 266, 3) := by decide +kernel
theorem dX5_digest_137 : decode cX5_digest 137 = .ok (.invokestatic 250, 3) := by decide +kernel
theorem dX5_digest_140 : decode cX5_digest 140 = .ok (.lstore_n 1, 1) := by decide +kernel
theorem dX5_digest_141 : decode cX5_digest 141 = .ok (.aload_n 0, 1) := by decide +kernel
theorem dX5_digest_142 : decode cX5_digest 142 = .ok (.lload_n 1, 1) := by decide +kernel
theorem dX5_digest_143 : decode cX5_digest 143 = .ok (.invokevirtual 270, 3) := by decide +kernel
theorem dX5_digest_146 : decode cX5_digest 146 = .ok (.lreturn, 1) := by decide +kernel
theorem dX5_counted_0 : decode cX5_counted 0 = .ok (.iload_n 1, 1) := by decide +kernel
theorem dX5_counted_1 : decode cX5_counted 1 = .ok (.tableswitch 154 0 8 #[51, 62, 73, 84, 92, 103, 114, 125, 146], 51) := by decide +kernel
theorem dX5_counted_52 : decode cX5_counted 52 = .ok (.aload_n 0, 1) := by decide +kernel
theorem dX5_counted_53 : decode cX5_counted 53 = .ok (.getfield 10, 3) := by decide +kernel
theorem dX5_counted_56 : decode cX5_counted 56 = .ok (.getfield 44, 3) := by decide +kernel
theorem dX5_counted_59 : decode cX5_counted 59 = .ok (.invokevirtual 273, 3) := by decide +kernel
theorem dX5_counted_62 : decode cX5_counted 62 = .ok (.ireturn, 1) := by decide +kernel
theorem dX5_counted_63 : decode cX5_counted 63 = .ok (.aload_n 0, 1) := by decide +kernel
theorem dX5_counted_64 : decode cX5_counted 64 = .ok (.getfield 10, 3) := by decide +kernel
theorem dX5_counted_67 : decode cX5_counted 67 = .ok (.getfield 44, 3) := by decide +kernel
theorem dX5_counted_70 : decode cX5_counted 70 = .ok (.invokevirtual 274, 3) := by decide +kernel
theorem dX5_counted_73 : decode cX5_counted 73 = .ok (.ireturn, 1) := by decide +kernel
theorem dX5_counted_74 : decode cX5_counted 74 = .ok (.aload_n 0, 1) := by decide +kernel
theorem dX5_counted_75 : decode cX5_counted 75 = .ok (.getfield 10, 3) := by decide +kernel
theorem dX5_counted_78 : decode cX5_counted 78 = .ok (.getfield 96, 3) := by decide +kernel
theorem dX5_counted_81 : decode cX5_counted 81 = .ok (.invokevirtual 244, 3) := by decide +kernel
theorem dX5_counted_84 : decode cX5_counted 84 = .ok (.ireturn, 1) := by decide +kernel
theorem dX5_counted_85 : decode cX5_counted 85 = .ok (.aload_n 0, 1) := by decide +kernel
theorem dX5_counted_86 : decode cX5_counted 86 = .ok (.getfield 10, 3) := by decide +kernel
theorem dX5_counted_89 : decode cX5_counted 89 = .ok (.invokevirtual 245, 3) := by decide +kernel
theorem dX5_counted_92 : decode cX5_counted 92 = .ok (.ireturn, 1) := by decide +kernel
theorem dX5_counted_93 : decode cX5_counted 93 = .ok (.aload_n 0, 1) := by decide +kernel
theorem dX5_counted_94 : decode cX5_counted 94 = .ok (.getfield 10, 3) := by decide +kernel
theorem dX5_counted_97 : decode cX5_counted 97 = .ok (.getfield 96, 3) := by decide +kernel
theorem dX5_counted_100 : decode cX5_counted 100 = .ok (.invokevirtual 277, 3) := by decide +kernel
theorem dX5_counted_103 : decode cX5_counted 103 = .ok (.ireturn, 1) := by decide +kernel
theorem dX5_counted_104 : decode cX5_counted 104 = .ok (.aload_n 0, 1) := by decide +kernel
theorem dX5_counted_105 : decode cX5_counted 105 = .ok (.getfield 10, 3) := by decide +kernel
theorem dX5_counted_108 : decode cX5_counted 108 = .ok (.getfield 96, 3) := by decide +kernel
theorem dX5_counted_111 : decode cX5_counted 111 = .ok (.invokevirtual 280, 3) := by decide +kernel
theorem dX5_counted_114 : decode cX5_counted 114 = .ok (.ireturn, 1) := by decide +kernel
theorem dX5_counted_115 : decode cX5_counted 115 = .ok (.aload_n 0, 1) := by decide +kernel
theorem dX5_counted_116 : decode cX5_counted 116 = .ok (.getfield 10, 3) := by decide +kernel
theorem dX5_counted_119 : decode cX5_counted 119 = .ok (.getfield 96, 3) := by decide +kernel
theorem dX5_counted_122 : decode cX5_counted 122 = .ok (.invokevirtual 283, 3) := by decide +kernel
theorem dX5_counted_125 : decode cX5_counted 125 = .ok (.ireturn, 1) := by decide +kernel
theorem dX5_counted_126 : decode cX5_counted 126 = .ok (.aload_n 0, 1) := by decide +kernel
theorem dX5_counted_127 : decode cX5_counted 127 = .ok (.getfield 10, 3) := by decide +kernel
theorem dX5_counted_130 : decode cX5_counted 130 = .ok (.getfield 44, 3) := by decide +kernel
theorem dX5_counted_133 : decode cX5_counted 133 = .ok (.aload_n 0, 1) := by decide +kernel
theorem dX5_counted_134 : decode cX5_counted 134 = .ok (.getfield 10, 3) := by decide +kernel
theorem dX5_counted_137 : decode cX5_counted 137 = .ok (.getfield 44, 3) := by decide +kernel
theorem dX5_counted_140 : decode cX5_counted 140 = .ok (.invokevirtual 108, 3) := by decide +kernel
theorem dX5_counted_143 : decode cX5_counted 143 = .ok (.invokevirtual 286, 3) := by decide +kernel
theorem dX5_counted_146 : decode cX5_counted 146 = .ok (.ireturn, 1) := by decide +kernel
theorem dX5_counted_147 : decode cX5_counted 147 = .ok (.aload_n 0, 1) := by decide +kernel
theorem dX5_counted_148 : decode cX5_counted 148 = .ok (.getfield 10, 3) := by decide +kernel
theorem dX5_counted_151 : decode cX5_counted 151 = .ok (.invokevirtual 161, 3) := by decide +kernel
theorem dX5_counted_154 : decode cX5_counted 154 = .ok (.ireturn, 1) := by decide +kernel
theorem dX5_counted_155 : decode cX5_counted 155 = .ok (.aload_n 0, 1) := by decide +kernel
theorem dX5_counted_156 : decode cX5_counted 156 = .ok (.getfield 19, 3) := by decide +kernel
theorem dX5_counted_159 : decode cX5_counted 159 = .ok (.invokevirtual 197, 3) := by decide +kernel
theorem dX5_counted_162 : decode cX5_counted 162 = .ok (.ireturn, 1) := by decide +kernel
theorem dX5_carriesOut_0 : decode cX5_carriesOut 0 = .ok (.aload_n 0, 1) := by decide +kernel
theorem dX5_carriesOut_1 : decode cX5_carriesOut 1 = .ok (.getfield 26, 3) := by decide +kernel
theorem dX5_carriesOut_4 : decode cX5_carriesOut 4 = .ok (.iload_n 1, 1) := by decide +kernel
theorem dX5_carriesOut_5 : decode cX5_carriesOut 5 = .ok (.invokevirtual 289, 3) := by decide +kernel
theorem dX5_carriesOut_8 : decode cX5_carriesOut 8 = .ok (.lookupswitch 93 #[(43, 44), (45, 75), (62, 82), (110, 88)], 44) := by decide +kernel
theorem dX5_carriesOut_52 : decode cX5_carriesOut 52 = .ok (.aload_n 0, 1) := by decide +kernel
theorem dX5_carriesOut_53 : decode cX5_carriesOut 53 = .ok (.getfield 26, 3) := by decide +kernel
theorem dX5_carriesOut_56 : decode cX5_carriesOut 56 = .ok (.iload_n 1, 1) := by decide +kernel
theorem dX5_carriesOut_57 : decode cX5_carriesOut 57 = .ok (.iconst 2, 1) := by decide +kernel
theorem dX5_carriesOut_58 : decode cX5_carriesOut 58 = .ok (.iadd, 1) := by decide +kernel
theorem dX5_carriesOut_59 : decode cX5_carriesOut 59 = .ok (.invokevirtual 289, 3) := by decide +kernel
theorem dX5_carriesOut_62 : decode cX5_carriesOut 62 = .ok (.bipush 61, 2) := by decide +kernel
theorem dX5_carriesOut_64 : decode cX5_carriesOut 64 = .ok (.if_icmp .ne 12, 3) := by decide +kernel
theorem dX5_carriesOut_67 : decode cX5_carriesOut 67 = .ok (.aload_n 0, 1) := by decide +kernel
theorem dX5_carriesOut_68 : decode cX5_carriesOut 68 = .ok (.iload_n 1, 1) := by decide +kernel
theorem dX5_carriesOut_69 : decode cX5_carriesOut 69 = .ok (.iload_n 2, 1) := by decide +kernel
theorem dX5_carriesOut_70 : decode cX5_carriesOut 70 = .ok (.invokevirtual 292, 3) := by decide +kernel
theorem dX5_carriesOut_73 : decode cX5_carriesOut 73 = .ok (.goto 9, 3) := by decide +kernel
theorem dX5_carriesOut_76 : decode cX5_carriesOut 76 = .ok (.aload_n 0, 1) := by decide +kernel
theorem dX5_carriesOut_77 : decode cX5_carriesOut 77 = .ok (.iload_n 1, 1) := by decide +kernel
theorem dX5_carriesOut_78 : decode cX5_carriesOut 78 = .ok (.iload_n 2, 1) := by decide +kernel
theorem dX5_carriesOut_79 : decode cX5_carriesOut 79 = .ok (.invokevirtual 295, 3) := by decide +kernel
theorem dX5_carriesOut_82 : decode cX5_carriesOut 82 = .ok (.ireturn, 1) := by decide +kernel
theorem dX5_carriesOut_83 : decode cX5_carriesOut 83 = .ok (.aload_n 0, 1) := by decide +kernel
theorem dX5_carriesOut_84 : decode cX5_carriesOut 84 = .ok (.iload_n 1, 1) := by decide +kernel
theorem dX5_carriesOut_85 : decode cX5_carriesOut 85 = .ok (.iload_n 2, 1) := by decide +kernel
theorem dX5_carriesOut_86 : decode cX5_carriesOut 86 = .ok (.invokevirtual 298, 3) := by decide +kernel
theorem dX5_carriesOut_89 : decode cX5_carriesOut 89 = .ok (.ireturn, 1) := by decide +kernel
theorem dX5_carriesOut_90 : decode cX5_carriesOut 90 = .ok (.aload_n 0, 1) := by decide +kernel
theorem dX5_carriesOut_91 : decode cX5_carriesOut 91 = .ok (.iload_n 1, 1) := by decide +kernel
theorem dX5_carriesOut_92 : decode cX5_carriesOut 92 = .ok (.invokevirtual 301, 3) := by decide +kernel
theorem dX5_carriesOut_95 : decode cX5_carriesOut 95 = .ok (.ireturn, 1) := by decide +kernel
theorem dX5_carriesOut_96 : decode cX5_carriesOut 96 = .ok (.aload_n 0, 1) := by decide +kernel
theorem dX5_carriesOut_97 : decode cX5_carriesOut 97 = .ok (.invokevirtual 304, 3) := by decide +kernel
theorem dX5_carriesOut_100 : decode cX5_carriesOut 100 = .ok (.ireturn, 1) := by decide +kernel
theorem dX5_carriesOut_101 : decode cX5_carriesOut 101 = .ok (.aload_n 0, 1) := by decide +kernel
theorem dX5_carriesOut_102 : decode cX5_carriesOut 102 = .ok (.getfield 10, 3) := by decide +kernel
theorem dX5_carriesOut_105 : decode cX5_carriesOut 105 = .ok (.aload_n 0, 1) := by decide +kernel
theorem dX5_carriesOut_106 : decode cX5_carriesOut 106 = .ok (.getfield 26, 3) := by decide +kernel
theorem dX5_carriesOut_109 : decode cX5_carriesOut 109 = .ok (.iload_n 1, 1) := by decide +kernel
theorem dX5_carriesOut_110 : decode cX5_carriesOut 110 = .ok (.iconst 1, 1) := by decide +kernel
theorem dX5_carriesOut_111 : decode cX5_carriesOut 111 = .ok (.iadd, 1) := by decide +kernel
theorem dX5_carriesOut_112 : decode cX5_carriesOut 112 = .ok (.iload_n 2, 1) := by decide +kernel
theorem dX5_carriesOut_113 : decode cX5_carriesOut 113 = .ok (.invokevirtual 307, 3) := by decide +kernel
theorem dX5_carriesOut_116 : decode cX5_carriesOut 116 = .ok (.invokevirtual 150, 3) := by decide +kernel
theorem dX5_carriesOut_119 : decode cX5_carriesOut 119 = .ok (.pop, 1) := by decide +kernel
theorem dX5_carriesOut_120 : decode cX5_carriesOut 120 = .ok (.iconst 1, 1) := by decide +kernel
theorem dX5_carriesOut_121 : decode cX5_carriesOut 121 = .ok (.ireturn, 1) := by decide +kernel
theorem dX5_addsNumber_0 : decode cX5_addsNumber 0 = .ok (.aload_n 0, 1) := by decide +kernel
theorem dX5_addsNumber_1 : decode cX5_addsNumber 1 = .ok (.getfield 26, 3) := by decide +kernel
theorem dX5_addsNumber_4 : decode cX5_addsNumber 4 = .ok (.iload_n 1, 1) := by decide +kernel
theorem dX5_addsNumber_5 : decode cX5_addsNumber 5 = .ok (.iconst 1, 1) := by decide +kernel
theorem dX5_addsNumber_6 : decode cX5_addsNumber 6 = .ok (.iadd, 1) := by decide +kernel
theorem dX5_addsNumber_7 : decode cX5_addsNumber 7 = .ok (.invokevirtual 310, 3) := by decide +kernel
theorem dX5_addsNumber_10 : decode cX5_addsNumber 10 = .ok (.istore_n 3, 1) := by decide +kernel
theorem dX5_addsNumber_11 : decode cX5_addsNumber 11 = .ok (.aload_n 0, 1) := by decide +kernel
theorem dX5_addsNumber_12 : decode cX5_addsNumber 12 = .ok (.getfield 10, 3) := by decide +kernel
theorem dX5_addsNumber_15 : decode cX5_addsNumber 15 = .ok (.getfield 44, 3) := by decide +kernel
theorem dX5_addsNumber_18 : decode cX5_addsNumber 18 = .ok (.iload_n 3, 1) := by decide +kernel
theorem dX5_addsNumber_19 : decode cX5_addsNumber 19 = .ok (.invokevirtual 48, 3) := by decide +kernel
theorem dX5_addsNumber_22 : decode cX5_addsNumber 22 = .ok (.ifCond .ne 5, 3) := by decide +kernel
theorem dX5_addsNumber_25 : decode cX5_addsNumber 25 = .ok (.iconst 0, 1) := by decide +kernel
theorem dX5_addsNumber_26 : decode cX5_addsNumber 26 = .ok (.ireturn, 1) := by decide +kernel
theorem dX5_addsNumber_27 : decode cX5_addsNumber 27 = .ok (.aload_n 0, 1) := by decide +kernel
theorem dX5_addsNumber_28 : decode cX5_addsNumber 28 = .ok (.getfield 10, 3) := by decide +kernel
theorem dX5_addsNumber_31 : decode cX5_addsNumber 31 = .ok (.getfield 44, 3) := by decide +kernel
theorem dX5_addsNumber_34 : decode cX5_addsNumber 34 = .ok (.iload_n 3, 1) := by decide +kernel
theorem dX5_addsNumber_35 : decode cX5_addsNumber 35 = .ok (.aload_n 0, 1) := by decide +kernel
theorem dX5_addsNumber_36 : decode cX5_addsNumber 36 = .ok (.getfield 26, 3) := by decide +kernel
theorem dX5_addsNumber_39 : decode cX5_addsNumber 39 = .ok (.iload_n 1, 1) := by decide +kernel
theorem dX5_addsNumber_40 : decode cX5_addsNumber 40 = .ok (.iconst 3, 1) := by decide +kernel
theorem dX5_addsNumber_41 : decode cX5_addsNumber 41 = .ok (.iadd, 1) := by decide +kernel
theorem dX5_addsNumber_42 : decode cX5_addsNumber 42 = .ok (.iload_n 2, 1) := by decide +kernel
theorem dX5_addsNumber_43 : decode cX5_addsNumber 43 = .ok (.invokevirtual 307, 3) := by decide +kernel
theorem dX5_addsNumber_46 : decode cX5_addsNumber 46 = .ok (.invokevirtual 62, 3) := by decide +kernel
theorem dX5_addsNumber_49 : decode cX5_addsNumber 49 = .ok (.pop, 1) := by decide +kernel
theorem dX5_addsNumber_50 : decode cX5_addsNumber 50 = .ok (.iconst 1, 1) := by decide +kernel
theorem dX5_addsNumber_51 : decode cX5_addsNumber 51 = .ok (.ireturn, 1) := by decide +kernel
theorem dX5_addsFrom_0 : decode cX5_addsFrom 0 = .ok (.aload_n 0, 1) := by decide +kernel
theorem dX5_addsFrom_1 : decode cX5_addsFrom 1 = .ok (.getfield 26, 3) := by decide +kernel
theorem dX5_addsFrom_4 : decode cX5_addsFrom 4 = .ok (.iload_n 1, 1) := by decide +kernel
theorem dX5_addsFrom_5 : decode cX5_addsFrom 5 = .ok (.iconst 1, 1) := by decide +kernel
theorem dX5_addsFrom_6 : decode cX5_addsFrom 6 = .ok (.iadd, 1) := by decide +kernel
theorem dX5_addsFrom_7 : decode cX5_addsFrom 7 = .ok (.invokevirtual 310, 3) := by decide +kernel
theorem dX5_addsFrom_10 : decode cX5_addsFrom 10 = .ok (.istore_n 3, 1) := by decide +kernel
theorem dX5_addsFrom_11 : decode cX5_addsFrom 11 = .ok (.aload_n 0, 1) := by decide +kernel
theorem dX5_addsFrom_12 : decode cX5_addsFrom 12 = .ok (.getfield 26, 3) := by decide +kernel
theorem dX5_addsFrom_15 : decode cX5_addsFrom 15 = .ok (.iload_n 1, 1) := by decide +kernel
theorem dX5_addsFrom_16 : decode cX5_addsFrom 16 = .ok (.iconst 3, 1) := by decide +kernel
theorem dX5_addsFrom_17 : decode cX5_addsFrom 17 = .ok (.iadd, 1) := by decide +kernel
theorem dX5_addsFrom_18 : decode cX5_addsFrom 18 = .ok (.invokevirtual 310, 3) := by decide +kernel
theorem dX5_addsFrom_21 : decode cX5_addsFrom 21 = .ok (.istore 4, 2) := by decide +kernel
theorem dX5_addsFrom_23 : decode cX5_addsFrom 23 = .ok (.iload_n 2, 1) := by decide +kernel
theorem dX5_addsFrom_24 : decode cX5_addsFrom 24 = .ok (.iload_n 1, 1) := by decide +kernel
theorem dX5_addsFrom_25 : decode cX5_addsFrom 25 = .ok (.iconst 4, 1) := by decide +kernel
theorem dX5_addsFrom_26 : decode cX5_addsFrom 26 = .ok (.iadd, 1) := by decide +kernel
theorem dX5_addsFrom_27 : decode cX5_addsFrom 27 = .ok (.if_icmp .le 16, 3) := by decide +kernel
theorem dX5_addsFrom_30 : decode cX5_addsFrom 30 = .ok (.aload_n 0, 1) := by decide +kernel
theorem dX5_addsFrom_31 : decode cX5_addsFrom 31 = .ok (.getfield 26, 3) := by decide +kernel
theorem dX5_addsFrom_34 : decode cX5_addsFrom 34 = .ok (.iload_n 1, 1) := by decide +kernel
theorem dX5_addsFrom_35 : decode cX5_addsFrom 35 = .ok (.iconst 5, 1) := by decide +kernel
theorem dX5_addsFrom_36 : decode cX5_addsFrom 36 = .ok (.iadd, 1) := by decide +kernel
theorem dX5_addsFrom_37 : decode cX5_addsFrom 37 = .ok (.invokevirtual 310, 3) := by decide +kernel
theorem dX5_addsFrom_40 : decode cX5_addsFrom 40 = .ok (.goto 4, 3) := by decide +kernel
theorem dX5_addsFrom_43 : decode cX5_addsFrom 43 = .ok (.iconst (-1), 1) := by decide +kernel
theorem dX5_addsFrom_44 : decode cX5_addsFrom 44 = .ok (.istore 5, 2) := by decide +kernel
theorem dX5_addsFrom_46 : decode cX5_addsFrom 46 = .ok (.aload_n 0, 1) := by decide +kernel
theorem dX5_addsFrom_47 : decode cX5_addsFrom 47 = .ok (.getfield 10, 3) := by decide +kernel
theorem dX5_addsFrom_50 : decode cX5_addsFrom 50 = .ok (.getfield 44, 3) := by decide +kernel
theorem dX5_addsFrom_53 : decode cX5_addsFrom 53 = .ok (.iload_n 3, 1) := by decide +kernel
theorem dX5_addsFrom_54 : decode cX5_addsFrom 54 = .ok (.iload 4, 2) := by decide +kernel
theorem dX5_addsFrom_56 : decode cX5_addsFrom 56 = .ok (.iload 5, 2) := by decide +kernel
theorem dX5_addsFrom_58 : decode cX5_addsFrom 58 = .ok (.invokevirtual 71, 3) := by decide +kernel
theorem dX5_addsFrom_61 : decode cX5_addsFrom 61 = .ok (.ifCond .ne 5, 3) := by decide +kernel
theorem dX5_addsFrom_64 : decode cX5_addsFrom 64 = .ok (.iconst 0, 1) := by decide +kernel
theorem dX5_addsFrom_65 : decode cX5_addsFrom 65 = .ok (.ireturn, 1) := by decide +kernel
theorem dX5_addsFrom_66 : decode cX5_addsFrom 66 = .ok (.aload_n 0, 1) := by decide +kernel
theorem dX5_addsFrom_67 : decode cX5_addsFrom 67 = .ok (.getfield 10, 3) := by decide +kernel
theorem dX5_addsFrom_70 : decode cX5_addsFrom 70 = .ok (.getfield 44, 3) := by decide +kernel
theorem dX5_addsFrom_73 : decode cX5_addsFrom 73 = .ok (.iload_n 3, 1) := by decide +kernel
theorem dX5_addsFrom_74 : decode cX5_addsFrom 74 = .ok (.iload 4, 2) := by decide +kernel
theorem dX5_addsFrom_76 : decode cX5_addsFrom 76 = .ok (.iload 5, 2) := by decide +kernel
theorem dX5_addsFrom_78 : decode cX5_addsFrom 78 = .ok (.invokevirtual 77, 3) := by decide +kernel
theorem dX5_addsFrom_81 : decode cX5_addsFrom 81 = .ok (.pop, 1) := by decide +kernel
theorem dX5_addsFrom_82 : decode cX5_addsFrom 82 = .ok (.iconst 1, 1) := by decide +kernel
theorem dX5_addsFrom_83 : decode cX5_addsFrom 83 = .ok (.ireturn, 1) := by decide +kernel
theorem dX5_drops_0 : decode cX5_drops 0 = .ok (.aload_n 0, 1) := by decide +kernel
theorem dX5_drops_1 : decode cX5_drops 1 = .ok (.getfield 26, 3) := by decide +kernel
theorem dX5_drops_4 : decode cX5_drops 4 = .ok (.iload_n 1, 1) := by decide +kernel
theorem dX5_drops_5 : decode cX5_drops 5 = .ok (.iconst 1, 1) := by decide +kernel
theorem dX5_drops_6 : decode cX5_drops 6 = .ok (.iadd, 1) := by decide +kernel
theorem dX5_drops_7 : decode cX5_drops 7 = .ok (.invokevirtual 310, 3) := by decide +kernel
theorem dX5_drops_10 : decode cX5_drops 10 = .ok (.istore_n 3, 1) := by decide +kernel
theorem dX5_drops_11 : decode cX5_drops 11 = .ok (.aload_n 0, 1) := by decide +kernel
theorem dX5_drops_12 : decode cX5_drops 12 = .ok (.getfield 10, 3) := by decide +kernel
theorem dX5_drops_15 : decode cX5_drops 15 = .ok (.getfield 44, 3) := by decide +kernel
theorem dX5_drops_18 : decode cX5_drops 18 = .ok (.iload_n 3, 1) := by decide +kernel
theorem dX5_drops_19 : decode cX5_drops 19 = .ok (.invokevirtual 81, 3) := by decide +kernel
theorem dX5_drops_22 : decode cX5_drops 22 = .ok (.ifCond .ne 5, 3) := by decide +kernel
theorem dX5_drops_25 : decode cX5_drops 25 = .ok (.iconst 0, 1) := by decide +kernel
theorem dX5_drops_26 : decode cX5_drops 26 = .ok (.ireturn, 1) := by decide +kernel
theorem dX5_drops_27 : decode cX5_drops 27 = .ok (.aload_n 0, 1) := by decide +kernel
theorem dX5_drops_28 : decode cX5_drops 28 = .ok (.getfield 10, 3) := by decide +kernel
theorem dX5_drops_31 : decode cX5_drops 31 = .ok (.getfield 44, 3) := by decide +kernel
theorem dX5_drops_34 : decode cX5_drops 34 = .ok (.iload_n 3, 1) := by decide +kernel
theorem dX5_drops_35 : decode cX5_drops 35 = .ok (.aload_n 0, 1) := by decide +kernel
theorem dX5_drops_36 : decode cX5_drops 36 = .ok (.getfield 26, 3) := by decide +kernel
theorem dX5_drops_39 : decode cX5_drops 39 = .ok (.iload_n 1, 1) := by decide +kernel
theorem dX5_drops_40 : decode cX5_drops 40 = .ok (.iconst 3, 1) := by decide +kernel
theorem dX5_drops_41 : decode cX5_drops 41 = .ok (.iadd, 1) := by decide +kernel
theorem dX5_drops_42 : decode cX5_drops 42 = .ok (.iload_n 2, 1) := by decide +kernel
theorem dX5_drops_43 : decode cX5_drops 43 = .ok (.invokevirtual 307, 3) := by decide +kernel
theorem dX5_drops_46 : decode cX5_drops 46 = .ok (.invokevirtual 86, 3) := by decide +kernel
theorem dX5_drops_49 : decode cX5_drops 49 = .ok (.pop, 1) := by decide +kernel
theorem dX5_drops_50 : decode cX5_drops 50 = .ok (.iconst 1, 1) := by decide +kernel
theorem dX5_drops_51 : decode cX5_drops 51 = .ok (.ireturn, 1) := by decide +kernel
theorem dX5_renames_0 : decode cX5_renames 0 = .ok (.aload_n 0, 1) := by decide +kernel
theorem dX5_renames_1 : decode cX5_renames 1 = .ok (.getfield 26, 3) := by decide +kernel
theorem dX5_renames_4 : decode cX5_renames 4 = .ok (.iload_n 1, 1) := by decide +kernel
theorem dX5_renames_5 : decode cX5_renames 5 = .ok (.iconst 1, 1) := by decide +kernel
theorem dX5_renames_6 : decode cX5_renames 6 = .ok (.iadd, 1) := by decide +kernel
theorem dX5_renames_7 : decode cX5_renames 7 = .ok (.invokevirtual 310, 3) := by decide +kernel
theorem dX5_renames_10 : decode cX5_renames 10 = .ok (.istore_n 2, 1) := by decide +kernel
theorem dX5_renames_11 : decode cX5_renames 11 = .ok (.aload_n 0, 1) := by decide +kernel
theorem dX5_renames_12 : decode cX5_renames 12 = .ok (.getfield 26, 3) := by decide +kernel
theorem dX5_renames_15 : decode cX5_renames 15 = .ok (.iload_n 1, 1) := by decide +kernel
theorem dX5_renames_16 : decode cX5_renames 16 = .ok (.iconst 2, 1) := by decide +kernel
theorem dX5_renames_17 : decode cX5_renames 17 = .ok (.iadd, 1) := by decide +kernel
theorem dX5_renames_18 : decode cX5_renames 18 = .ok (.invokevirtual 310, 3) := by decide +kernel
theorem dX5_renames_21 : decode cX5_renames 21 = .ok (.istore_n 3, 1) := by decide +kernel
theorem dX5_renames_22 : decode cX5_renames 22 = .ok (.aload_n 0, 1) := by decide +kernel
theorem dX5_renames_23 : decode cX5_renames 23 = .ok (.getfield 10, 3) := by decide +kernel
theorem dX5_renames_26 : decode cX5_renames 26 = .ok (.getfield 44, 3) := by decide +kernel
theorem dX5_renames_29 : decode cX5_renames 29 = .ok (.iload_n 2, 1) := by decide +kernel
theorem dX5_renames_30 : decode cX5_renames 30 = .ok (.iload_n 3, 1) := by decide +kernel
theorem dX5_renames_31 : decode cX5_renames 31 = .ok (.invokevirtual 89, 3) := by decide +kernel
theorem dX5_renames_34 : decode cX5_renames 34 = .ok (.ifCond .ne 5, 3) := by decide +kernel
theorem dX5_renames_37 : decode cX5_renames 37 = .ok (.iconst 0, 1) := by decide +kernel
theorem dX5_renames_38 : decode cX5_renames 38 = .ok (.ireturn, 1) := by decide +kernel
theorem dX5_renames_39 : decode cX5_renames 39 = .ok (.aload_n 0, 1) := by decide +kernel
theorem dX5_renames_40 : decode cX5_renames 40 = .ok (.getfield 10, 3) := by decide +kernel
theorem dX5_renames_43 : decode cX5_renames 43 = .ok (.getfield 44, 3) := by decide +kernel
theorem dX5_renames_46 : decode cX5_renames 46 = .ok (.iload_n 2, 1) := by decide +kernel
theorem dX5_renames_47 : decode cX5_renames 47 = .ok (.iload_n 3, 1) := by decide +kernel
theorem dX5_renames_48 : decode cX5_renames 48 = .ok (.invokevirtual 93, 3) := by decide +kernel
theorem dX5_renames_51 : decode cX5_renames 51 = .ok (.pop, 1) := by decide +kernel
theorem dX5_renames_52 : decode cX5_renames 52 = .ok (.iconst 1, 1) := by decide +kernel
theorem dX5_renames_53 : decode cX5_renames 53 = .ok (.ireturn, 1) := by decide +kernel
theorem dX5_inserts_0 : decode cX5_inserts 0 = .ok (.aload_n 0, 1) := by decide +kernel
theorem dX5_inserts_1 : decode cX5_inserts 1 = .ok (.getfield 10, 3) := by decide +kernel
theorem dX5_inserts_4 : decode cX5_inserts 4 = .ok (.getfield 96, 3) := by decide +kernel
theorem dX5_inserts_7 : decode cX5_inserts 7 = .ok (.invokevirtual 100, 3) := by decide +kernel
theorem dX5_inserts_10 : decode cX5_inserts 10 = .ok (.ifCond .eq 5, 3) := by decide +kernel
theorem dX5_inserts_13 : decode cX5_inserts 13 = .ok (.iconst 0, 1) := by decide +kernel
theorem dX5_inserts_14 : decode cX5_inserts 14 = .ok (.ireturn, 1) := by decide +kernel
theorem dX5_inserts_15 : decode cX5_inserts 15 = .ok (.aload_n 0, 1) := by decide +kernel
theorem dX5_inserts_16 : decode cX5_inserts 16 = .ok (.getfield 10, 3) := by decide +kernel
theorem dX5_inserts_19 : decode cX5_inserts 19 = .ok (.getfield 96, 3) := by decide +kernel
theorem dX5_inserts_22 : decode cX5_inserts 22 = .ok (.aload_n 0, 1) := by decide +kernel
theorem dX5_inserts_23 : decode cX5_inserts 23 = .ok (.getfield 10, 3) := by decide +kernel
theorem dX5_inserts_26 : decode cX5_inserts 26 = .ok (.getfield 44, 3) := by decide +kernel
theorem dX5_inserts_29 : decode cX5_inserts 29 = .ok (.invokevirtual 108, 3) := by decide +kernel
theorem dX5_inserts_32 : decode cX5_inserts 32 = .ok (.invokevirtual 112, 3) := by decide +kernel
theorem dX5_inserts_35 : decode cX5_inserts 35 = .ok (.pop, 1) := by decide +kernel
theorem dX5_inserts_36 : decode cX5_inserts 36 = .ok (.iconst 1, 1) := by decide +kernel
theorem dX5_inserts_37 : decode cX5_inserts 37 = .ok (.ireturn, 1) := by decide +kernel
theorem dX5_mixedShapes_0 : decode cX5_mixedShapes 0 = .ok (.lload_n 1, 1) := by decide +kernel
theorem dX5_mixedShapes_1 : decode cX5_mixedShapes 1 = .ok (.lstore_n 3, 1) := by decide +kernel
theorem dX5_mixedShapes_2 : decode cX5_mixedShapes 2 = .ok (.iconst 0, 1) := by decide +kernel
theorem dX5_mixedShapes_3 : decode cX5_mixedShapes 3 = .ok (.istore 5, 2) := by decide +kernel
theorem dX5_mixedShapes_5 : decode cX5_mixedShapes 5 = .ok (.iload 5, 2) := by decide +kernel
theorem dX5_mixedShapes_7 : decode cX5_mixedShapes 7 = .ok (.aload_n 0, 1) := by decide +kernel
theorem dX5_mixedShapes_8 : decode cX5_mixedShapes 8 = .ok (.getfield 10, 3) := by decide +kernel
theorem dX5_mixedShapes_11 : decode cX5_mixedShapes 11 = .ok (.getfield 44, 3) := by decide +kernel
theorem dX5_mixedShapes_14 : decode cX5_mixedShapes 14 = .ok (.invokevirtual 273, 3) := by decide +kernel
theorem dX5_mixedShapes_17 : decode cX5_mixedShapes 17 = .ok (.if_icmp .ge 105, 3) := by decide +kernel
theorem dX5_mixedShapes_20 : decode cX5_mixedShapes 20 = .ok (.iconst 0, 1) := by decide +kernel
theorem dX5_mixedShapes_21 : decode cX5_mixedShapes 21 = .ok (.istore 6, 2) := by decide +kernel
theorem dX5_mixedShapes_23 : decode cX5_mixedShapes 23 = .ok (.iload 6, 2) := by decide +kernel
theorem dX5_mixedShapes_25 : decode cX5_mixedShapes 25 = .ok (.bipush 6, 2) := by decide +kernel
theorem dX5_mixedShapes_27 : decode cX5_mixedShapes 27 = .ok (.if_icmp .ge 26, 3) := by decide +kernel
theorem dX5_mixedShapes_30 : decode cX5_mixedShapes 30 = .ok (.lload_n 3, 1) := by decide +kernel
theorem dX5_mixedShapes_31 : decode cX5_mixedShapes 31 = .ok (.aload_n 0, 1) := by decide +kernel
theorem dX5_mixedShapes_32 : decode cX5_mixedShapes 32 = .ok (.getfield 10, 3) := by decide +kernel
theorem dX5_mixedShapes_35 : decode cX5_mixedShapes 35 = .ok (.iload 5, 2) := by decide +kernel
theorem dX5_mixedShapes_37 : decode cX5_mixedShapes 37 = .ok (.iload 6, 2) := by decide +kernel
theorem dX5_mixedShapes_39 : decode cX5_mixedShapes 39 = .ok (.invokevirtual 226, 3) := by decide +kernel
theorem dX5_mixedShapes_42 : decode cX5_mixedShapes 42 = .ok (.i2l, 1) := by decide +kernel
theorem dX5_mixedShapes_43 : decode cX5_mixedShapes 43 = .ok (.invokestatic 250, 3) := by decide +kernel
theorem dX5_mixedShapes_46 : decode cX5_mixedShapes 46 = .ok (.lstore_n 3, 1) := by decide +kernel
theorem dX5_mixedShapes_47 : decode cX5_mixedShapes 47 = .ok (.iinc 6 1, 3) := by decide +kernel
theorem dX5_mixedShapes_50 : decode cX5_mixedShapes 50 = .ok (.goto (-27), 3) := by decide +kernel
theorem dX5_mixedShapes_53 : decode cX5_mixedShapes 53 = .ok (.iconst 0, 1) := by decide +kernel
theorem dX5_mixedShapes_54 : decode cX5_mixedShapes 54 = .ok (.istore 6, 2) := by decide +kernel
theorem dX5_mixedShapes_56 : decode cX5_mixedShapes 56 = .ok (.iload 6, 2) := by decide +kernel
theorem dX5_mixedShapes_58 : decode cX5_mixedShapes 58 = .ok (.aload_n 0, 1) := by decide +kernel
theorem dX5_mixedShapes_59 : decode cX5_mixedShapes 59 = .ok (.getfield 10, 3) := by decide +kernel
theorem dX5_mixedShapes_62 : decode cX5_mixedShapes 62 = .ok (.getfield 44, 3) := by decide +kernel
theorem dX5_mixedShapes_65 : decode cX5_mixedShapes 65 = .ok (.iload 5, 2) := by decide +kernel
theorem dX5_mixedShapes_67 : decode cX5_mixedShapes 67 = .ok (.invokevirtual 286, 3) := by decide +kernel
theorem dX5_mixedShapes_70 : decode cX5_mixedShapes 70 = .ok (.if_icmp .ge 46, 3) := by decide +kernel
theorem dX5_mixedShapes_73 : decode cX5_mixedShapes 73 = .ok (.iconst 0, 1) := by decide +kernel
theorem dX5_mixedShapes_74 : decode cX5_mixedShapes 74 = .ok (.istore 7, 2) := by decide +kernel
theorem dX5_mixedShapes_76 : decode cX5_mixedShapes 76 = .ok (.iload 7, 2) := by decide +kernel
theorem dX5_mixedShapes_78 : decode cX5_mixedShapes 78 = .ok (.iconst 3, 1) := by decide +kernel
theorem dX5_mixedShapes_79 : decode cX5_mixedShapes 79 = .ok (.if_icmp .ge 31, 3) := by decide +kernel
theorem dX5_mixedShapes_82 : decode cX5_mixedShapes 82 = .ok (.lload_n 3, 1) := by decide +kernel
theorem dX5_mixedShapes_83 : decode cX5_mixedShapes 83 = .ok (.aload_n 0, 1) := by decide +kernel
theorem dX5_mixedShapes_84 : decode cX5_mixedShapes 84 = .ok (.getfield 10, 3) := by decide +kernel
theorem dX5_mixedShapes_87 : decode cX5_mixedShapes 87 = .ok (.getfield 44, 3) := by decide +kernel
theorem dX5_mixedShapes_90 : decode cX5_mixedShapes 90 = .ok (.iload 5, 2) := by decide +kernel
theorem dX5_mixedShapes_92 : decode cX5_mixedShapes 92 = .ok (.iload 6, 2) := by decide +kernel
theorem dX5_mixedShapes_94 : decode cX5_mixedShapes 94 = .ok (.iload 7, 2) := by decide +kernel
theorem dX5_mixedShapes_96 : decode cX5_mixedShapes 96 = .ok (.invokevirtual 221, 3) := by decide +kernel
theorem dX5_mixedShapes_99 : decode cX5_mixedShapes 99 = .ok (.i2l, 1) := by decide +kernel
theorem dX5_mixedShapes_100 : decode cX5_mixedShapes 100 = .ok (.invokestatic 250, 3) := by decide +kernel
theorem dX5_mixedShapes_103 : decode cX5_mixedShapes 103 = .ok (.lstore_n 3, 1) := by decide +kernel
theorem dX5_mixedShapes_104 : decode cX5_mixedShapes 104 = .ok (.iinc 7 1, 3) := by decide +kernel
theorem dX5_mixedShapes_107 : decode cX5_mixedShapes 107 = .ok (.goto (-31), 3) := by decide +kernel
theorem dX5_mixedShapes_110 : decode cX5_mixedShapes 110 = .ok (.iinc 6 1, 3) := by decide +kernel
theorem dX5_mixedShapes_113 : decode cX5_mixedShapes 113 = .ok (.goto (-57), 3) := by decide +kernel
theorem dX5_mixedShapes_116 : decode cX5_mixedShapes 116 = .ok (.iinc 5 1, 3) := by decide +kernel
theorem dX5_mixedShapes_119 : decode cX5_mixedShapes 119 = .ok (.goto (-114), 3) := by decide +kernel
theorem dX5_mixedShapes_122 : decode cX5_mixedShapes 122 = .ok (.lload_n 3, 1) := by decide +kernel
theorem dX5_mixedShapes_123 : decode cX5_mixedShapes 123 = .ok (.lreturn, 1) := by decide +kernel
theorem dX5_mixedRow_0 : decode cX5_mixedRow 0 = .ok (.lload_n 1, 1) := by decide +kernel
theorem dX5_mixedRow_1 : decode cX5_mixedRow 1 = .ok (.lstore 4, 2) := by decide +kernel
theorem dX5_mixedRow_3 : decode cX5_mixedRow 3 = .ok (.iconst 0, 1) := by decide +kernel
theorem dX5_mixedRow_4 : decode cX5_mixedRow 4 = .ok (.istore 6, 2) := by decide +kernel
theorem dX5_mixedRow_6 : decode cX5_mixedRow 6 = .ok (.iload 6, 2) := by decide +kernel
theorem dX5_mixedRow_8 : decode cX5_mixedRow 8 = .ok (.bipush 6, 2) := by decide +kernel
theorem dX5_mixedRow_10 : decode cX5_mixedRow 10 = .ok (.if_icmp .ge 27, 3) := by decide +kernel
theorem dX5_mixedRow_13 : decode cX5_mixedRow 13 = .ok (.lload 4, 2) := by decide +kernel
theorem dX5_mixedRow_15 : decode cX5_mixedRow 15 = .ok (.aload_n 0, 1) := by decide +kernel
theorem dX5_mixedRow_16 : decode cX5_mixedRow 16 = .ok (.getfield 10, 3) := by decide +kernel
theorem dX5_mixedRow_19 : decode cX5_mixedRow 19 = .ok (.iload_n 3, 1) := by decide +kernel
theorem dX5_mixedRow_20 : decode cX5_mixedRow 20 = .ok (.iload 6, 2) := by decide +kernel
theorem dX5_mixedRow_22 : decode cX5_mixedRow 22 = .ok (.invokevirtual 229, 3) := by decide +kernel
theorem dX5_mixedRow_25 : decode cX5_mixedRow 25 = .ok (.i2l, 1) := by decide +kernel
theorem dX5_mixedRow_26 : decode cX5_mixedRow 26 = .ok (.invokestatic 250, 3) := by decide +kernel
theorem dX5_mixedRow_29 : decode cX5_mixedRow 29 = .ok (.lstore 4, 2) := by decide +kernel
theorem dX5_mixedRow_31 : decode cX5_mixedRow 31 = .ok (.iinc 6 1, 3) := by decide +kernel
theorem dX5_mixedRow_34 : decode cX5_mixedRow 34 = .ok (.goto (-28), 3) := by decide +kernel
theorem dX5_mixedRow_37 : decode cX5_mixedRow 37 = .ok (.aload_n 0, 1) := by decide +kernel
theorem dX5_mixedRow_38 : decode cX5_mixedRow 38 = .ok (.getfield 10, 3) := by decide +kernel
theorem dX5_mixedRow_41 : decode cX5_mixedRow 41 = .ok (.getfield 44, 3) := by decide +kernel
theorem dX5_mixedRow_44 : decode cX5_mixedRow 44 = .ok (.invokevirtual 274, 3) := by decide +kernel
theorem dX5_mixedRow_47 : decode cX5_mixedRow 47 = .ok (.istore 6, 2) := by decide +kernel
theorem dX5_mixedRow_49 : decode cX5_mixedRow 49 = .ok (.iload 6, 2) := by decide +kernel
theorem dX5_mixedRow_51 : decode cX5_mixedRow 51 = .ok (.aload_n 0, 1) := by decide +kernel
theorem dX5_mixedRow_52 : decode cX5_mixedRow 52 = .ok (.getfield 10, 3) := by decide +kernel
theorem dX5_mixedRow_55 : decode cX5_mixedRow 55 = .ok (.getfield 44, 3) := by decide +kernel
theorem dX5_mixedRow_58 : decode cX5_mixedRow 58 = .ok (.invokevirtual 273, 3) := by decide +kernel
theorem dX5_mixedRow_61 : decode cX5_mixedRow 61 = .ok (.if_icmp .ge 92, 3) := by decide +kernel
theorem dX5_mixedRow_64 : decode cX5_mixedRow 64 = .ok (.aload_n 0, 1) := by decide +kernel
theorem dX5_mixedRow_65 : decode cX5_mixedRow 65 = .ok (.getfield 10, 3) := by decide +kernel
theorem dX5_mixedRow_68 : decode cX5_mixedRow 68 = .ok (.iload_n 3, 1) := by decide +kernel
theorem dX5_mixedRow_69 : decode cX5_mixedRow 69 = .ok (.iload 6, 2) := by decide +kernel
theorem dX5_mixedRow_71 : decode cX5_mixedRow 71 = .ok (.invokevirtual 313, 3) := by decide +kernel
theorem dX5_mixedRow_74 : decode cX5_mixedRow 74 = .ok (.astore 7, 2) := by decide +kernel
theorem dX5_mixedRow_76 : decode cX5_mixedRow 76 = .ok (.iconst 0, 1) := by decide +kernel
theorem dX5_mixedRow_77 : decode cX5_mixedRow 77 = .ok (.istore 8, 2) := by decide +kernel
theorem dX5_mixedRow_79 : decode cX5_mixedRow 79 = .ok (.iload 8, 2) := by decide +kernel
theorem dX5_mixedRow_81 : decode cX5_mixedRow 81 = .ok (.aload_n 0, 1) := by decide +kernel
theorem dX5_mixedRow_82 : decode cX5_mixedRow 82 = .ok (.getfield 10, 3) := by decide +kernel
theorem dX5_mixedRow_85 : decode cX5_mixedRow 85 = .ok (.getfield 44, 3) := by decide +kernel
theorem dX5_mixedRow_88 : decode cX5_mixedRow 88 = .ok (.iload 6, 2) := by decide +kernel
theorem dX5_mixedRow_90 : decode cX5_mixedRow 90 = .ok (.invokevirtual 286, 3) := by decide +kernel
theorem dX5_mixedRow_93 : decode cX5_mixedRow 93 = .ok (.if_icmp .ge 36, 3) := by decide +kernel
theorem dX5_mixedRow_96 : decode cX5_mixedRow 96 = .ok (.lload 4, 2) := by decide +kernel
theorem dX5_mixedRow_98 : decode cX5_mixedRow 98 = .ok (.aload 7, 2) := by decide +kernel
theorem dX5_mixedRow_100 : decode cX5_mixedRow 100 = .ok (.aload_n 0, 1) := by decide +kernel
theorem dX5_mixedRow_101 : decode cX5_mixedRow 101 = .ok (.getfield 10, 3) := by decide +kernel
theorem dX5_mixedRow_104 : decode cX5_mixedRow 104 = .ok (.getfield 44, 3) := by decide +kernel
theorem dX5_mixedRow_107 : decode cX5_mixedRow 107 = .ok (.iload 6, 2) := by decide +kernel
theorem dX5_mixedRow_109 : decode cX5_mixedRow 109 = .ok (.iload 8, 2) := by decide +kernel
theorem dX5_mixedRow_111 : decode cX5_mixedRow 111 = .ok (.invokevirtual 317, 3) := by decide +kernel
theorem dX5_mixedRow_114 : decode cX5_mixedRow 114 = .ok (.invokestatic 320, 3) := by decide +kernel
theorem dX5_mixedRow_117 : decode cX5_mixedRow 117 = .ok (.i2l, 1) := by decide +kernel
theorem dX5_mixedRow_118 : decode cX5_mixedRow 118 = .ok (.invokestatic 250, 3) := by decide +kernel
theorem dX5_mixedRow_121 : decode cX5_mixedRow 121 = .ok (.lstore 4, 2) := by decide +kernel
theorem dX5_mixedRow_123 : decode cX5_mixedRow 123 = .ok (.iinc 8 1, 3) := by decide +kernel
theorem dX5_mixedRow_126 : decode cX5_mixedRow 126 = .ok (.goto (-47), 3) := by decide +kernel
theorem dX5_mixedRow_129 : decode cX5_mixedRow 129 = .ok (.lload 4, 2) := by decide +kernel
theorem dX5_mixedRow_131 : decode cX5_mixedRow 131 = .ok (.aload_n 0, 1) := by decide +kernel
theorem dX5_mixedRow_132 : decode cX5_mixedRow 132 = .ok (.getfield 10, 3) := by decide +kernel
theorem dX5_mixedRow_135 : decode cX5_mixedRow 135 = .ok (.iload_n 3, 1) := by decide +kernel
theorem dX5_mixedRow_136 : decode cX5_mixedRow 136 = .ok (.iload 6, 2) := by decide +kernel
theorem dX5_mixedRow_138 : decode cX5_mixedRow 138 = .ok (.invokevirtual 235, 3) := by decide +kernel
theorem dX5_mixedRow_141 : decode cX5_mixedRow 141 = .ok (.i2l, 1) := by decide +kernel
theorem dX5_mixedRow_142 : decode cX5_mixedRow 142 = .ok (.invokestatic 250, 3) := by decide +kernel
theorem dX5_mixedRow_145 : decode cX5_mixedRow 145 = .ok (.lstore 4, 2) := by decide +kernel
theorem dX5_mixedRow_147 : decode cX5_mixedRow 147 = .ok (.iinc 6 1, 3) := by decide +kernel
theorem dX5_mixedRow_150 : decode cX5_mixedRow 150 = .ok (.goto (-101), 3) := by decide +kernel
theorem dX5_mixedRow_153 : decode cX5_mixedRow 153 = .ok (.lload 4, 2) := by decide +kernel
theorem dX5_mixedRow_155 : decode cX5_mixedRow 155 = .ok (.lreturn, 1) := by decide +kernel
theorem dX5_mixedText_0 : decode cX5_mixedText 0 = .ok (.lload_n 1, 1) := by decide +kernel
theorem dX5_mixedText_1 : decode cX5_mixedText 1 = .ok (.aload_n 0, 1) := by decide +kernel
theorem dX5_mixedText_2 : decode cX5_mixedText 2 = .ok (.getfield 26, 3) := by decide +kernel
theorem dX5_mixedText_5 : decode cX5_mixedText 5 = .ok (.invokevirtual 188, 3) := by decide +kernel
theorem dX5_mixedText_8 : decode cX5_mixedText 8 = .ok (.i2l, 1) := by decide +kernel
theorem dX5_mixedText_9 : decode cX5_mixedText 9 = .ok (.invokestatic 250, 3) := by decide +kernel
theorem dX5_mixedText_12 : decode cX5_mixedText 12 = .ok (.lstore_n 3, 1) := by decide +kernel
theorem dX5_mixedText_13 : decode cX5_mixedText 13 = .ok (.iconst 0, 1) := by decide +kernel
theorem dX5_mixedText_14 : decode cX5_mixedText 14 = .ok (.istore 5, 2) := by decide +kernel
theorem dX5_mixedText_16 : decode cX5_mixedText 16 = .ok (.iload 5, 2) := by decide +kernel
theorem dX5_mixedText_18 : decode cX5_mixedText 18 = .ok (.aload_n 0, 1) := by decide +kernel
theorem dX5_mixedText_19 : decode cX5_mixedText 19 = .ok (.getfield 26, 3) := by decide +kernel
theorem dX5_mixedText_22 : decode cX5_mixedText 22 = .ok (.invokevirtual 188, 3) := by decide +kernel
theorem dX5_mixedText_25 : decode cX5_mixedText 25 = .ok (.if_icmp .ge 24, 3) := by decide +kernel
theorem dX5_mixedText_28 : decode cX5_mixedText 28 = .ok (.lload_n 3, 1) := by decide +kernel
theorem dX5_mixedText_29 : decode cX5_mixedText 29 = .ok (.aload_n 0, 1) := by decide +kernel
theorem dX5_mixedText_30 : decode cX5_mixedText 30 = .ok (.getfield 26, 3) := by decide +kernel
theorem dX5_mixedText_33 : decode cX5_mixedText 33 = .ok (.iload 5, 2) := by decide +kernel
theorem dX5_mixedText_35 : decode cX5_mixedText 35 = .ok (.invokevirtual 289, 3) := by decide +kernel
theorem dX5_mixedText_38 : decode cX5_mixedText 38 = .ok (.i2l, 1) := by decide +kernel
theorem dX5_mixedText_39 : decode cX5_mixedText 39 = .ok (.invokestatic 250, 3) := by decide +kernel
theorem dX5_mixedText_42 : decode cX5_mixedText 42 = .ok (.lstore_n 3, 1) := by decide +kernel
theorem dX5_mixedText_43 : decode cX5_mixedText 43 = .ok (.iinc 5 1, 3) := by decide +kernel
theorem dX5_mixedText_46 : decode cX5_mixedText 46 = .ok (.goto (-30), 3) := by decide +kernel
theorem dX5_mixedText_49 : decode cX5_mixedText 49 = .ok (.lload_n 3, 1) := by decide +kernel
theorem dX5_mixedText_50 : decode cX5_mixedText 50 = .ok (.lreturn, 1) := by decide +kernel
theorem dX5_mixed_0 : decode cX5_mixed 0 = .ok (.ldc2_w 324, 3) := by decide +kernel
theorem dX5_mixed_3 : decode cX5_mixed 3 = .ok (.lload_n 0, 1) := by decide +kernel
theorem dX5_mixed_4 : decode cX5_mixed 4 = .ok (.lmul, 1) := by decide +kernel
theorem dX5_mixed_5 : decode cX5_mixed 5 = .ok (.lload_n 2, 1) := by decide +kernel
theorem dX5_mixed_6 : decode cX5_mixed 6 = .ok (.ladd, 1) := by decide +kernel
theorem dX5_mixed_7 : decode cX5_mixed 7 = .ok (.lreturn, 1) := by decide +kernel
theorem dX5_bitsOfShare_0 : decode cX5_bitsOfShare 0 = .ok (.dload_n 0, 1) := by decide +kernel
theorem dX5_bitsOfShare_1 : decode cX5_bitsOfShare 1 = .ok (.dconst 0, 1) := by decide +kernel
theorem dX5_bitsOfShare_2 : decode cX5_bitsOfShare 2 = .ok (.dcmp .g, 1) := by decide +kernel
theorem dX5_bitsOfShare_3 : decode cX5_bitsOfShare 3 = .ok (.ifCond .gt 5, 3) := by decide +kernel
theorem dX5_bitsOfShare_6 : decode cX5_bitsOfShare 6 = .ok (.lconst 0, 1) := by decide +kernel
theorem dX5_bitsOfShare_7 : decode cX5_bitsOfShare 7 = .ok (.lreturn, 1) := by decide +kernel
theorem dX5_bitsOfShare_8 : decode cX5_bitsOfShare 8 = .ok (.dload_n 0, 1) := by decide +kernel
theorem dX5_bitsOfShare_9 : decode cX5_bitsOfShare 9 = .ok (.dstore_n 2, 1) := by decide +kernel
theorem dX5_bitsOfShare_10 : decode cX5_bitsOfShare 10 = .ok (.ldc2_w 326, 3) := by decide +kernel
theorem dX5_bitsOfShare_13 : decode cX5_bitsOfShare 13 = .ok (.lstore 4, 2) := by decide +kernel
theorem dX5_bitsOfShare_15 : decode cX5_bitsOfShare 15 = .ok (.iconst 0, 1) := by decide +kernel
theorem dX5_bitsOfShare_16 : decode cX5_bitsOfShare 16 = .ok (.istore 6, 2) := by decide +kernel
theorem dX5_bitsOfShare_18 : decode cX5_bitsOfShare 18 = .ok (.iload 6, 2) := by decide +kernel
theorem dX5_bitsOfShare_20 : decode cX5_bitsOfShare 20 = .ok (.sipush 1000, 3) := by decide +kernel
theorem dX5_bitsOfShare_23 : decode cX5_bitsOfShare 23 = .ok (.if_icmp .ge 27, 3) := by decide +kernel
theorem dX5_bitsOfShare_26 : decode cX5_bitsOfShare 26 = .ok (.dload_n 2, 1) := by decide +kernel
theorem dX5_bitsOfShare_27 : decode cX5_bitsOfShare 27 = .ok (.dconst 1, 1) := by decide +kernel
theorem dX5_bitsOfShare_28 : decode cX5_bitsOfShare 28 = .ok (.dcmp .g, 1) := by decide +kernel
theorem dX5_bitsOfShare_29 : decode cX5_bitsOfShare 29 = .ok (.ifCond .ge 21, 3) := by decide +kernel
theorem dX5_bitsOfShare_32 : decode cX5_bitsOfShare 32 = .ok (.dload_n 2, 1) := by decide +kernel
theorem dX5_bitsOfShare_33 : decode cX5_bitsOfShare 33 = .ok (.ldc2_w 328, 3) := by decide +kernel
theorem dX5_bitsOfShare_36 : decode cX5_bitsOfShare 36 = .ok (.dmul, 1) := by decide +kernel
theorem dX5_bitsOfShare_37 : decode cX5_bitsOfShare 37 = .ok (.dstore_n 2, 1) := by decide +kernel
theorem dX5_bitsOfShare_38 : decode cX5_bitsOfShare 38 = .ok (.lload 4, 2) := by decide +kernel
theorem dX5_bitsOfShare_40 : decode cX5_bitsOfShare 40 = .ok (.lconst 1, 1) := by decide +kernel
theorem dX5_bitsOfShare_41 : decode cX5_bitsOfShare 41 = .ok (.lsub, 1) := by decide +kernel
theorem dX5_bitsOfShare_42 : decode cX5_bitsOfShare 42 = .ok (.lstore 4, 2) := by decide +kernel
theorem dX5_bitsOfShare_44 : decode cX5_bitsOfShare 44 = .ok (.iinc 6 1, 3) := by decide +kernel
theorem dX5_bitsOfShare_47 : decode cX5_bitsOfShare 47 = .ok (.goto (-29), 3) := by decide +kernel
theorem dX5_bitsOfShare_50 : decode cX5_bitsOfShare 50 = .ok (.lload 4, 2) := by decide +kernel
theorem dX5_bitsOfShare_52 : decode cX5_bitsOfShare 52 = .ok (.bipush 52, 2) := by decide +kernel
theorem dX5_bitsOfShare_54 : decode cX5_bitsOfShare 54 = .ok (.lshl, 1) := by decide +kernel
theorem dX5_bitsOfShare_55 : decode cX5_bitsOfShare 55 = .ok (.dload_n 2, 1) := by decide +kernel
theorem dX5_bitsOfShare_56 : decode cX5_bitsOfShare 56 = .ok (.dconst 1, 1) := by decide +kernel
theorem dX5_bitsOfShare_57 : decode cX5_bitsOfShare 57 = .ok (.dsub, 1) := by decide +kernel
theorem dX5_bitsOfShare_58 : decode cX5_bitsOfShare 58 = .ok (.ldc2_w 330, 3) := by decide +kernel
theorem dX5_bitsOfShare_61 : decode cX5_bitsOfShare 61 = .ok (.dmul, 1) := by decide +kernel
theorem dX5_bitsOfShare_62 : decode cX5_bitsOfShare 62 = .ok (.d2l, 1) := by decide +kernel
theorem dX5_bitsOfShare_63 : decode cX5_bitsOfShare 63 = .ok (.ladd, 1) := by decide +kernel
theorem dX5_bitsOfShare_64 : decode cX5_bitsOfShare 64 = .ok (.lreturn, 1) := by decide +kernel
theorem dX5_isLetter_0 : decode cX5_isLetter 0 = .ok (.iload_n 0, 1) := by decide +kernel
theorem dX5_isLetter_1 : decode cX5_isLetter 1 = .ok (.ifCond .lt 13, 3) := by decide +kernel
theorem dX5_isLetter_4 : decode cX5_isLetter 4 = .ok (.iload_n 0, 1) := by decide +kernel
theorem dX5_isLetter_5 : decode cX5_isLetter 5 = .ok (.bipush 8, 2) := by decide +kernel
theorem dX5_isLetter_7 : decode cX5_isLetter 7 = .ok (.if_icmp .ge 7, 3) := by decide +kernel
theorem dX5_isLetter_10 : decode cX5_isLetter 10 = .ok (.iconst 1, 1) := by decide +kernel
theorem dX5_isLetter_11 : decode cX5_isLetter 11 = .ok (.goto 4, 3) := by decide +kernel
theorem dX5_isLetter_14 : decode cX5_isLetter 14 = .ok (.iconst 0, 1) := by decide +kernel
theorem dX5_isLetter_15 : decode cX5_isLetter 15 = .ok (.ireturn, 1) := by decide +kernel
theorem dX5_isLetterOrNone_0 : decode cX5_isLetterOrNone 0 = .ok (.iload_n 0, 1) := by decide +kernel
theorem dX5_isLetterOrNone_1 : decode cX5_isLetterOrNone 1 = .ok (.iconst (-1), 1) := by decide +kernel
theorem dX5_isLetterOrNone_2 : decode cX5_isLetterOrNone 2 = .ok (.if_icmp .eq 10, 3) := by decide +kernel
theorem dX5_isLetterOrNone_5 : decode cX5_isLetterOrNone 5 = .ok (.iload_n 0, 1) := by decide +kernel
theorem dX5_isLetterOrNone_6 : decode cX5_isLetterOrNone 6 = .ok (.invokestatic 30, 3) := by decide +kernel
theorem dX5_isLetterOrNone_9 : decode cX5_isLetterOrNone 9 = .ok (.ifCond .eq 7, 3) := by decide +kernel
theorem dX5_isLetterOrNone_12 : decode cX5_isLetterOrNone 12 = .ok (.iconst 1, 1) := by decide +kernel
theorem dX5_isLetterOrNone_13 : decode cX5_isLetterOrNone 13 = .ok (.goto 4, 3) := by decide +kernel
theorem dX5_isLetterOrNone_16 : decode cX5_isLetterOrNone 16 = .ok (.iconst 0, 1) := by decide +kernel
theorem dX5_isLetterOrNone_17 : decode cX5_isLetterOrNone 17 = .ok (.ireturn, 1) := by decide +kernel
theorem dX5_isNumber_0 : decode cX5_isNumber 0 = .ok (.iload_n 0, 1) := by decide +kernel
theorem dX5_isNumber_1 : decode cX5_isNumber 1 = .ok (.ifCond .lt 13, 3) := by decide +kernel
theorem dX5_isNumber_4 : decode cX5_isNumber 4 = .ok (.iload_n 0, 1) := by decide +kernel
theorem dX5_isNumber_5 : decode cX5_isNumber 5 = .ok (.bipush 99, 2) := by decide +kernel
theorem dX5_isNumber_7 : decode cX5_isNumber 7 = .ok (.if_icmp .gt 7, 3) := by decide +kernel
theorem dX5_isNumber_10 : decode cX5_isNumber 10 = .ok (.iconst 1, 1) := by decide +kernel
theorem dX5_isNumber_11 : decode cX5_isNumber 11 = .ok (.goto 4, 3) := by decide +kernel
theorem dX5_isNumber_14 : decode cX5_isNumber 14 = .ok (.iconst 0, 1) := by decide +kernel
theorem dX5_isNumber_15 : decode cX5_isNumber 15 = .ok (.ireturn, 1) := by decide +kernel
theorem dX5_isValue_0 : decode cX5_isValue 0 = .ok (.iload_n 0, 1) := by decide +kernel
theorem dX5_isValue_1 : decode cX5_isValue 1 = .ok (.ifCond .lt 14, 3) := by decide +kernel
theorem dX5_isValue_4 : decode cX5_isValue 4 = .ok (.iload_n 0, 1) := by decide +kernel
theorem dX5_isValue_5 : decode cX5_isValue 5 = .ok (.ldc_w 332, 3) := by decide +kernel
theorem dX5_isValue_8 : decode cX5_isValue 8 = .ok (.if_icmp .gt 7, 3) := by decide +kernel
theorem dX5_isValue_11 : decode cX5_isValue 11 = .ok (.iconst 1, 1) := by decide +kernel
theorem dX5_isValue_12 : decode cX5_isValue 12 = .ok (.goto 4, 3) := by decide +kernel
theorem dX5_isValue_15 : decode cX5_isValue 15 = .ok (.iconst 0, 1) := by decide +kernel
theorem dX5_isValue_16 : decode cX5_isValue 16 = .ok (.ireturn, 1) := by decide +kernel
theorem dX5_isReader_0 : decode cX5_isReader 0 = .ok (.iload_n 0, 1) := by decide +kernel
theorem dX5_isReader_1 : decode cX5_isReader 1 = .ok (.ifCond .lt 12, 3) := by decide +kernel
theorem dX5_isReader_4 : decode cX5_isReader 4 = .ok (.iload_n 0, 1) := by decide +kernel
theorem dX5_isReader_5 : decode cX5_isReader 5 = .ok (.iconst 4, 1) := by decide +kernel
theorem dX5_isReader_6 : decode cX5_isReader 6 = .ok (.if_icmp .ge 7, 3) := by decide +kernel
theorem dX5_isReader_9 : decode cX5_isReader 9 = .ok (.iconst 1, 1) := by decide +kernel
theorem dX5_isReader_10 : decode cX5_isReader 10 = .ok (.goto 4, 3) := by decide +kernel
theorem dX5_isReader_13 : decode cX5_isReader 13 = .ok (.iconst 0, 1) := by decide +kernel
theorem dX5_isReader_14 : decode cX5_isReader 14 = .ok (.ireturn, 1) := by decide +kernel
theorem dX5_at_0 : decode cX5_at 0 = .ok (.iload_n 1, 1) := by decide +kernel
theorem dX5_at_1 : decode cX5_at 1 = .ok (.ifCond .lt 15, 3) := by decide +kernel
theorem dX5_at_4 : decode cX5_at 4 = .ok (.iload_n 1, 1) := by decide +kernel
theorem dX5_at_5 : decode cX5_at 5 = .ok (.aload_n 0, 1) := by decide +kernel
theorem dX5_at_6 : decode cX5_at 6 = .ok (.arraylength, 1) := by decide +kernel
theorem dX5_at_7 : decode cX5_at 7 = .ok (.if_icmp .ge 9, 3) := by decide +kernel
theorem dX5_at_10 : decode cX5_at 10 = .ok (.aload_n 0, 1) := by decide +kernel
theorem dX5_at_11 : decode cX5_at 11 = .ok (.iload_n 1, 1) := by decide +kernel
theorem dX5_at_12 : decode cX5_at 12 = .ok (.iaload, 1) := by decide +kernel
theorem dX5_at_13 : decode cX5_at 13 = .ok (.goto 4, 3) := by decide +kernel
theorem dX5_at_16 : decode cX5_at 16 = .ok (.iconst (-1), 1) := by decide +kernel
theorem dX5_at_17 : decode cX5_at 17 = .ok (.ireturn, 1) := by decide +kernel
theorem dX5_put_0 : decode cX5_put 0 = .ok (.iload_n 1, 1) := by decide +kernel
theorem dX5_put_1 : decode cX5_put 1 = .ok (.ifCond .lt 13, 3) := by decide +kernel
theorem dX5_put_4 : decode cX5_put 4 = .ok (.iload_n 1, 1) := by decide +kernel
theorem dX5_put_5 : decode cX5_put 5 = .ok (.aload_n 0, 1) := by decide +kernel
theorem dX5_put_6 : decode cX5_put 6 = .ok (.arraylength, 1) := by decide +kernel
theorem dX5_put_7 : decode cX5_put 7 = .ok (.if_icmp .ge 7, 3) := by decide +kernel
theorem dX5_put_10 : decode cX5_put 10 = .ok (.aload_n 0, 1) := by decide +kernel
theorem dX5_put_11 : decode cX5_put 11 = .ok (.iload_n 1, 1) := by decide +kernel
theorem dX5_put_12 : decode cX5_put 12 = .ok (.iload_n 2, 1) := by decide +kernel
theorem dX5_put_13 : decode cX5_put 13 = .ok (.iastore, 1) := by decide +kernel
theorem dX5_put_14 : decode cX5_put 14 = .ok (.return_, 1) := by decide +kernel
theorem dX5_copyAll_0 : decode cX5_copyAll 0 = .ok (.aload_n 0, 1) := by decide +kernel
theorem dX5_copyAll_1 : decode cX5_copyAll 1 = .ok (.iconst 0, 1) := by decide +kernel
theorem dX5_copyAll_2 : decode cX5_copyAll 2 = .ok (.aload_n 1, 1) := by decide +kernel
theorem dX5_copyAll_3 : decode cX5_copyAll 3 = .ok (.iconst 0, 1) := by decide +kernel
theorem dX5_copyAll_4 : decode cX5_copyAll 4 = .ok (.aload_n 0, 1) := by decide +kernel
theorem dX5_copyAll_5 : decode cX5_copyAll 5 = .ok (.arraylength, 1) := by decide +kernel
theorem dX5_copyAll_6 : decode cX5_copyAll 6 = .ok (.aload_n 1, 1) := by decide +kernel
theorem dX5_copyAll_7 : decode cX5_copyAll 7 = .ok (.arraylength, 1) := by decide +kernel
theorem dX5_copyAll_8 : decode cX5_copyAll 8 = .ok (.invokestatic 333, 3) := by decide +kernel
theorem dX5_copyAll_11 : decode cX5_copyAll 11 = .ok (.invokestatic 338, 3) := by decide +kernel
theorem dX5_copyAll_14 : decode cX5_copyAll 14 = .ok (.return_, 1) := by decide +kernel
theorem dX6_init_0 : decode cX6_init 0 = .ok (.aload_n 0, 1) := by decide +kernel
theorem dX6_init_1 : decode cX6_init 1 = .ok (.invokespecial 1, 3) := by decide +kernel
theorem dX6_init_4 : decode cX6_init 4 = .ok (.aload_n 0, 1) := by decide +kernel
theorem dX6_init_5 : decode cX6_init 5 = .ok (.sipush 370, 3) := by decide +kernel
theorem dX6_init_8 : decode cX6_init 8 = .ok (.newarray .int, 2) := by decide +kernel
theorem dX6_init_10 : decode cX6_init 10 = .ok (.putfield 7, 3) := by decide +kernel
theorem dX6_init_13 : decode cX6_init 13 = .ok (.aload_n 0, 1) := by decide +kernel
theorem dX6_init_14 : decode cX6_init 14 = .ok (.sipush 2220, 3) := by decide +kernel
theorem dX6_init_17 : decode cX6_init 17 = .ok (.newarray .int, 2) := by decide +kernel
theorem dX6_init_19 : decode cX6_init 19 = .ok (.putfield 13, 3) := by decide +kernel
theorem dX6_init_22 : decode cX6_init 22 = .ok (.aload_n 0, 1) := by decide +kernel
theorem dX6_init_23 : decode cX6_init 23 = .ok (.bipush 60, 2) := by decide +kernel
theorem dX6_init_25 : decode cX6_init 25 = .ok (.newarray .int, 2) := by decide +kernel
theorem dX6_init_27 : decode cX6_init 27 = .ok (.putfield 16, 3) := by decide +kernel
theorem dX6_init_30 : decode cX6_init 30 = .ok (.aload_n 0, 1) := by decide +kernel
theorem dX6_init_31 : decode cX6_init 31 = .ok (.bipush 10, 2) := by decide +kernel
theorem dX6_init_33 : decode cX6_init 33 = .ok (.newarray .int, 2) := by decide +kernel
theorem dX6_init_35 : decode cX6_init 35 = .ok (.putfield 19, 3) := by decide +kernel
theorem dX6_init_38 : decode cX6_init 38 = .ok (.aload_n 0, 1) := by decide +kernel
theorem dX6_init_39 : decode cX6_init 39 = .ok (.sipush 256, 3) := by decide +kernel
theorem dX6_init_42 : decode cX6_init 42 = .ok (.newarray .int, 2) := by decide +kernel
theorem dX6_init_44 : decode cX6_init 44 = .ok (.putfield 22, 3) := by decide +kernel
theorem dX6_init_47 : decode cX6_init 47 = .ok (.aload_n 0, 1) := by decide +kernel
theorem dX6_init_48 : decode cX6_init 48 = .ok (.iconst 0, 1) := by decide +kernel
theorem dX6_init_49 : decode cX6_init 49 = .ok (.putfield 25, 3) := by decide +kernel
theorem dX6_init_52 : decode cX6_init 52 = .ok (.aload_n 0, 1) := by decide +kernel
theorem dX6_init_53 : decode cX6_init 53 = .ok (.getfield 7, 3) := by decide +kernel
theorem dX6_init_56 : decode cX6_init 56 = .ok (.iconst 0, 1) := by decide +kernel
theorem dX6_init_57 : decode cX6_init 57 = .ok (.iconst 1, 1) := by decide +kernel
theorem dX6_init_58 : decode cX6_init 58 = .ok (.iastore, 1) := by decide +kernel
theorem dX6_init_59 : decode cX6_init 59 = .ok (.return_, 1) := by decide +kernel
theorem dX6_thrown_0 : decode cX6_thrown 0 = .ok (.aload_n 0, 1) := by decide +kernel
theorem dX6_thrown_1 : decode cX6_thrown 1 = .ok (.getfield 25, 3) := by decide +kernel
theorem dX6_thrown_4 : decode cX6_thrown 4 = .ok (.ireturn, 1) := by decide +kernel
theorem dX6_in_0 : decode cX6_in 0 = .ok (.iload_n 0, 1) := by decide +kernel
theorem dX6_in_1 : decode cX6_in 1 = .ok (.iload_n 1, 1) := by decide +kernel
theorem dX6_in_2 : decode cX6_in 2 = .ok (.if_icmp .lt 12, 3) := by decide +kernel
theorem dX6_in_5 : decode cX6_in 5 = .ok (.iload_n 0, 1) := by decide +kernel
theorem dX6_in_6 : decode cX6_in 6 = .ok (.iload_n 2, 1) := by decide +kernel
theorem dX6_in_7 : decode cX6_in 7 = .ok (.if_icmp .gt 7, 3) := by decide +kernel
theorem dX6_in_10 : decode cX6_in 10 = .ok (.iconst 1, 1) := by decide +kernel
theorem dX6_in_11 : decode cX6_in 11 = .ok (.goto 4, 3) := by decide +kernel
theorem dX6_in_14 : decode cX6_in 14 = .ok (.iconst 0, 1) := by decide +kernel
theorem dX6_in_15 : decode cX6_in 15 = .ok (.ireturn, 1) := by decide +kernel
theorem dX6_fails_0 : decode cX6_fails 0 = .ok (.aload_n 0, 1) := by decide +kernel
theorem dX6_fails_1 : decode cX6_fails 1 = .ok (.iload_n 1, 1) := by decide +kernel
theorem dX6_fails_2 : decode cX6_fails 2 = .ok (.putfield 25, 3) := by decide +kernel
theorem dX6_fails_5 : decode cX6_fails 5 = .ok (.iconst 0, 1) := by decide +kernel
theorem dX6_fails_6 : decode cX6_fails 6 = .ok (.ireturn, 1) := by decide +kernel
theorem dX6_saves_0 : decode cX6_saves 0 = .ok (.aload_n 0, 1) := by decide +kernel
theorem dX6_saves_1 : decode cX6_saves 1 = .ok (.getfield 29, 3) := by decide +kernel
theorem dX6_saves_4 : decode cX6_saves 4 = .ok (.bipush 6, 2) := by decide +kernel
theorem dX6_saves_6 : decode cX6_saves 6 = .ok (.if_icmp .ne 44, 3) := by decide +kernel
theorem dX6_saves_9 : decode cX6_saves 9 = .ok (.iconst 0, 1) := by decide +kernel
theorem dX6_saves_10 : decode cX6_saves 10 = .ok (.istore_n 1, 1) := by decide +kernel
theorem dX6_saves_11 : decode cX6_saves 11 = .ok (.iload_n 1, 1) := by decide +kernel
theorem dX6_saves_12 : decode cX6_saves 12 = .ok (.sipush 1850, 3) := by decide +kernel
theorem dX6_saves_15 : decode cX6_saves 15 = .ok (.if_icmp .ge 25, 3) := by decide +kernel
theorem dX6_saves_18 : decode cX6_saves 18 = .ok (.aload_n 0, 1) := by decide +kernel
theorem dX6_saves_19 : decode cX6_saves 19 = .ok (.getfield 13, 3) := by decide +kernel
theorem dX6_saves_22 : decode cX6_saves 22 = .ok (.iload_n 1, 1) := by decide +kernel
theorem dX6_saves_23 : decode cX6_saves 23 = .ok (.aload_n 0, 1) := by decide +kernel
theorem dX6_saves_24 : decode cX6_saves 24 = .ok (.getfield 13, 3) := by decide +kernel
theorem dX6_saves_27 : decode cX6_saves 27 = .ok (.iload_n 1, 1) := by decide +kernel
theorem dX6_saves_28 : decode cX6_saves 28 = .ok (.sipush 370, 3) := by decide +kernel
theorem dX6_saves_31 : decode cX6_saves 31 = .ok (.iadd, 1) := by decide +kernel
theorem dX6_saves_32 : decode cX6_saves 32 = .ok (.iaload, 1) := by decide +kernel
theorem dX6_saves_33 : decode cX6_saves 33 = .ok (.iastore, 1) := by decide +kernel
theorem dX6_saves_34 : decode cX6_saves 34 = .ok (.iinc 1 1, 3) := by decide +kernel
theorem dX6_saves_37 : decode cX6_saves 37 = .ok (.goto (-26), 3) := by decide +kernel
theorem dX6_saves_40 : decode cX6_saves 40 = .ok (.aload_n 0, 1) := by decide +kernel
theorem dX6_saves_41 : decode cX6_saves 41 = .ok (.dup, 1) := by decide +kernel
theorem dX6_saves_42 : decode cX6_saves 42 = .ok (.getfield 29, 3) := by decide +kernel
theorem dX6_saves_45 : decode cX6_saves 45 = .ok (.iconst 1, 1) := by decide +kernel
theorem dX6_saves_46 : decode cX6_saves 46 = .ok (.isub, 1) := by decide +kernel
theorem dX6_saves_47 : decode cX6_saves 47 = .ok (.putfield 29, 3) := by decide +kernel
theorem dX6_saves_50 : decode cX6_saves 50 = .ok (.iconst 0, 1) := by decide +kernel
theorem dX6_saves_51 : decode cX6_saves 51 = .ok (.istore_n 1, 1) := by decide +kernel
theorem dX6_saves_52 : decode cX6_saves 52 = .ok (.iload_n 1, 1) := by decide +kernel
theorem dX6_saves_53 : decode cX6_saves 53 = .ok (.sipush 370, 3) := by decide +kernel
theorem dX6_saves_56 : decode cX6_saves 56 = .ok (.if_icmp .ge 30, 3) := by decide +kernel
theorem dX6_saves_59 : decode cX6_saves 59 = .ok (.aload_n 0, 1) := by decide +kernel
theorem dX6_saves_60 : decode cX6_saves 60 = .ok (.getfield 13, 3) := by decide +kernel
theorem dX6_saves_63 : decode cX6_saves 63 = .ok (.sipush 370, 3) := by decide +kernel
theorem dX6_saves_66 : decode cX6_saves 66 = .ok (.aload_n 0, 1) := by decide +kernel
theorem dX6_saves_67 : decode cX6_saves 67 = .ok (.getfield 29, 3) := by decide +kernel
theorem dX6_saves_70 : decode cX6_saves 70 = .ok (.imul, 1) := by decide +kernel
theorem dX6_saves_71 : decode cX6_saves 71 = .ok (.iload_n 1, 1) := by decide +kernel
theorem dX6_saves_72 : decode cX6_saves 72 = .ok (.iadd, 1) := by decide +kernel
theorem dX6_saves_73 : decode cX6_saves 73 = .ok (.aload_n 0, 1) := by decide +kernel
theorem dX6_saves_74 : decode cX6_saves 74 = .ok (.getfield 7, 3) := by decide +kernel
theorem dX6_saves_77 : decode cX6_saves 77 = .ok (.iload_n 1, 1) := by decide +kernel
theorem dX6_saves_78 : decode cX6_saves 78 = .ok (.iaload, 1) := by decide +kernel
theorem dX6_saves_79 : decode cX6_saves 79 = .ok (.iastore, 1) := by decide +kernel
theorem dX6_saves_80 : decode cX6_saves 80 = .ok (.iinc 1 1, 3) := by decide +kernel
theorem dX6_saves_83 : decode cX6_saves 83 = .ok (.goto (-31), 3) := by decide +kernel
theorem dX6_saves_86 : decode cX6_saves 86 = .ok (.aload_n 0, 1) := by decide +kernel
theorem dX6_saves_87 : decode cX6_saves 87 = .ok (.dup, 1) := by decide +kernel
theorem dX6_saves_88 : decode cX6_saves 88 = .ok (.getfield 29, 3) := by decide +kernel
theorem dX6_saves_91 : decode cX6_saves 91 = .ok (.iconst 1, 1) := by decide +kernel
theorem dX6_saves_92 : decode cX6_saves 92 = .ok (.iadd, 1) := by decide +kernel
theorem dX6_saves_93 : decode cX6_saves 93 = .ok (.putfield 29, 3) := by decide +kernel
theorem dX6_saves_96 : decode cX6_saves 96 = .ok (.return_, 1) := by decide +kernel
theorem dX6_get_0 : decode cX6_get 0 = .ok (.aload_n 0, 1) := by decide +kernel
theorem dX6_get_1 : decode cX6_get 1 = .ok (.getfield 7, 3) := by decide +kernel
theorem dX6_get_4 : decode cX6_get 4 = .ok (.bipush 10, 2) := by decide +kernel
theorem dX6_get_6 : decode cX6_get 6 = .ok (.bipush 20, 2) := by decide +kernel
theorem dX6_get_8 : decode cX6_get 8 = .ok (.iload_n 1, 1) := by decide +kernel
theorem dX6_get_9 : decode cX6_get 9 = .ok (.imul, 1) := by decide +kernel
theorem dX6_get_10 : decode cX6_get 10 = .ok (.iadd, 1) := by decide +kernel
theorem dX6_get_11 : decode cX6_get 11 = .ok (.iload_n 2, 1) := by decide +kernel
theorem dX6_get_12 : decode cX6_get 12 = .ok (.iadd, 1) := by decide +kernel
theorem dX6_get_13 : decode cX6_get 13 = .ok (.iaload, 1) := by decide +kernel
theorem dX6_get_14 : decode cX6_get 14 = .ok (.ireturn, 1) := by decide +kernel
theorem dX6_lay_0 : decode cX6_lay 0 = .ok (.aload_n 0, 1) := by decide +kernel
theorem dX6_lay_1 : decode cX6_lay 1 = .ok (.getfield 7, 3) := by decide +kernel
theorem dX6_lay_4 : decode cX6_lay 4 = .ok (.bipush 10, 2) := by decide +kernel
theorem dX6_lay_6 : decode cX6_lay 6 = .ok (.bipush 20, 2) := by decide +kernel
theorem dX6_lay_8 : decode cX6_lay 8 = .ok (.iload_n 1, 1) := by decide +kernel
theorem dX6_lay_9 : decode cX6_lay 9 = .ok (.imul, 1) := by decide +kernel
theorem dX6_lay_10 : decode cX6_lay 10 = .ok (.iadd, 1) := by decide +kernel
theorem dX6_lay_11 : decode cX6_lay 11 = .ok (.iload_n 2, 1) := by decide +kernel
theorem dX6_lay_12 : decode cX6_lay 12 = .ok (.iadd, 1) := by decide +kernel
theorem dX6_lay_13 : decode cX6_lay 13 = .ok (.iload_n 3, 1) := by decide +kernel
theorem dX6_lay_14 : decode cX6_lay 14 = .ok (.iastore, 1) := by decide +kernel
theorem dX6_lay_15 : decode cX6_lay 15 = .ok (.return_, 1) := by decide +kernel
theorem dX6_newest_0 : decode cX6_newest 0 = .ok (.aload_n 0, 1) := by decide +kernel
theorem dX6_newest_1 : decode cX6_newest 1 = .ok (.getfield 7, 3) := by decide +kernel
theorem dX6_newest_4 : decode cX6_newest 4 = .ok (.iconst 0, 1) := by decide +kernel
theorem dX6_newest_5 : decode cX6_newest 5 = .ok (.iaload, 1) := by decide +kernel
theorem dX6_newest_6 : decode cX6_newest 6 = .ok (.iconst 1, 1) := by decide +kernel
theorem dX6_newest_7 : decode cX6_newest 7 = .ok (.isub, 1) := by decide +kernel
theorem dX6_newest_8 : decode cX6_newest 8 = .ok (.ireturn, 1) := by decide +kernel
theorem dX6_isLetter_0 : decode cX6_isLetter 0 = .ok (.iload_n 0, 1) := by decide +kernel
theorem dX6_isLetter_1 : decode cX6_isLetter 1 = .ok (.iconst 0, 1) := by decide +kernel
theorem dX6_isLetter_2 : decode cX6_isLetter 2 = .ok (.bipush 7, 2) := by decide +kernel
theorem dX6_isLetter_4 : decode cX6_isLetter 4 = .ok (.invokestatic 32, 3) := by decide +kernel
theorem dX6_isLetter_7 : decode cX6_isLetter 7 = .ok (.ireturn, 1) := by decide +kernel
theorem dX6_isShape_0 : decode cX6_isShape 0 = .ok (.iload_n 1, 1) := by decide +kernel
theorem dX6_isShape_1 : decode cX6_isShape 1 = .ok (.iconst 0, 1) := by decide +kernel
theorem dX6_isShape_2 : decode cX6_isShape 2 = .ok (.aload_n 0, 1) := by decide +kernel
theorem dX6_isShape_3 : decode cX6_isShape 3 = .ok (.getfield 7, 3) := by decide +kernel
theorem dX6_isShape_6 : decode cX6_isShape 6 = .ok (.iconst 0, 1) := by decide +kernel
theorem dX6_isShape_7 : decode cX6_isShape 7 = .ok (.iaload, 1) := by decide +kernel
theorem dX6_isShape_8 : decode cX6_isShape 8 = .ok (.iconst 1, 1) := by decide +kernel
theorem dX6_isShape_9 : decode cX6_isShape 9 = .ok (.isub, 1) := by decide +kernel
theorem dX6_isShape_10 : decode cX6_isShape 10 = .ok (.invokestatic 32, 3) := by decide +kernel
theorem dX6_isShape_13 : decode cX6_isShape 13 = .ok (.ireturn, 1) := by decide +kernel
theorem dX6_isInUse_0 : decode cX6_isInUse 0 = .ok (.iload_n 1, 1) := by decide +kernel
theorem dX6_isInUse_1 : decode cX6_isInUse 1 = .ok (.aload_n 0, 1) := by decide +kernel
theorem dX6_isInUse_2 : decode cX6_isInUse 2 = .ok (.getfield 7, 3) := by decide +kernel
theorem dX6_isInUse_5 : decode cX6_isInUse 5 = .ok (.iconst 1, 1) := by decide +kernel
theorem dX6_isInUse_6 : decode cX6_isInUse 6 = .ok (.iaload, 1) := by decide +kernel
theorem dX6_isInUse_7 : decode cX6_isInUse 7 = .ok (.aload_n 0, 1) := by decide +kernel
theorem dX6_isInUse_8 : decode cX6_isInUse 8 = .ok (.getfield 7, 3) := by decide +kernel
theorem dX6_isInUse_11 : decode cX6_isInUse 11 = .ok (.iconst 0, 1) := by decide +kernel
theorem dX6_isInUse_12 : decode cX6_isInUse 12 = .ok (.iaload, 1) := by decide +kernel
theorem dX6_isInUse_13 : decode cX6_isInUse 13 = .ok (.iconst 1, 1) := by decide +kernel
theorem dX6_isInUse_14 : decode cX6_isInUse 14 = .ok (.isub, 1) := by decide +kernel
theorem dX6_isInUse_15 : decode cX6_isInUse 15 = .ok (.invokestatic 32, 3) := by decide +kernel
theorem dX6_isInUse_18 : decode cX6_isInUse 18 = .ok (.ireturn, 1) := by decide +kernel
theorem dX6_placeOf_0 : decode cX6_placeOf 0 = .ok (.iconst 0, 1) := by decide +kernel
theorem dX6_placeOf_1 : decode cX6_placeOf 1 = .ok (.istore_n 3, 1) := by decide +kernel
theorem dX6_placeOf_2 : decode cX6_placeOf 2 = .ok (.iload_n 3, 1) := by decide +kernel
theorem dX6_placeOf_3 : decode cX6_placeOf 3 = .ok (.aload_n 0, 1) := by decide +kernel
theorem dX6_placeOf_4 : decode cX6_placeOf 4 = .ok (.iload_n 1, 1) := by decide +kernel
theorem dX6_placeOf_5 : decode cX6_placeOf 5 = .ok (.iconst 0, 1) := by decide +kernel
theorem dX6_placeOf_6 : decode cX6_placeOf 6 = .ok (.invokevirtual 36, 3) := by decide +kernel
theorem dX6_placeOf_9 : decode cX6_placeOf 9 = .ok (.if_icmp .ge 24, 3) := by decide +kernel
theorem dX6_placeOf_12 : decode cX6_placeOf 12 = .ok (.aload_n 0, 1) := by decide +kernel
theorem dX6_placeOf_13 : decode cX6_placeOf 13 = .ok (.iload_n 1, 1) := by decide +kernel
theorem dX6_placeOf_14 : decode cX6_placeOf 14 = .ok (.bipush 9, 2) := by decide +kernel
theorem dX6_placeOf_16 : decode cX6_placeOf 16 = .ok (.iload_n 3, 1) := by decide +kernel
theorem dX6_placeOf_17 : decode cX6_placeOf 17 = .ok (.iadd, 1) := by decide +kernel
theorem dX6_placeOf_18 : decode cX6_placeOf 18 = .ok (.invokevirtual 36, 3) := by decide +kernel
theorem dX6_placeOf_21 : decode cX6_placeOf 21 = .ok (.iload_n 2, 1) := by decide +kernel
theorem dX6_placeOf_22 : decode cX6_placeOf 22 = .ok (.if_icmp .ne 5, 3) := by decide +kernel
theorem dX6_placeOf_25 : decode cX6_placeOf 25 = .ok (.iload_n 3, 1) := by decide +kernel
theorem dX6_placeOf_26 : decode cX6_placeOf 26 = .ok (.ireturn, 1) := by decide +kernel
theorem dX6_placeOf_27 : decode cX6_placeOf 27 = .ok (.iinc 3 1, 3) := by decide +kernel
theorem dX6_placeOf_30 : decode cX6_placeOf 30 = .ok (.goto (-28), 3) := by decide +kernel
theorem dX6_placeOf_33 : decode cX6_placeOf 33 = .ok (.iconst (-1), 1) := by decide +kernel
theorem dX6_placeOf_34 : decode cX6_placeOf 34 = .ok (.ireturn, 1) := by decide +kernel
theorem dX6_placeOfColumn_0 : decode cX6_placeOfColumn 0 = .ok (.iconst 0, 1) := by decide +kernel
theorem dX6_placeOfColumn_1 : decode cX6_placeOfColumn 1 = .ok (.istore_n 3, 1) := by decide +kernel
theorem dX6_placeOfColumn_2 : decode cX6_placeOfColumn 2 = .ok (.iload_n 3, 1) := by decide +kernel
theorem dX6_placeOfColumn_3 : decode cX6_placeOfColumn 3 = .ok (.aload_n 0, 1) := by decide +kernel
theorem dX6_placeOfColumn_4 : decode cX6_placeOfColumn 4 = .ok (.iload_n 1, 1) := by decide +kernel
theorem dX6_placeOfColumn_5 : decode cX6_placeOfColumn 5 = .ok (.iconst 0, 1) := by decide +kernel
theorem dX6_placeOfColumn_6 : decode cX6_placeOfColumn 6 = .ok (.invokevirtual 36, 3) := by decide +kernel
theorem dX6_placeOfColumn_9 : decode cX6_placeOfColumn 9 = .ok (.if_icmp .ge 23, 3) := by decide +kernel
theorem dX6_placeOfColumn_12 : decode cX6_placeOfColumn 12 = .ok (.aload_n 0, 1) := by decide +kernel
theorem dX6_placeOfColumn_13 : decode cX6_placeOfColumn 13 = .ok (.iload_n 1, 1) := by decide +kernel
theorem dX6_placeOfColumn_14 : decode cX6_placeOfColumn 14 = .ok (.iconst 1, 1) := by decide +kernel
theorem dX6_placeOfColumn_15 : decode cX6_placeOfColumn 15 = .ok (.iload_n 3, 1) := by decide +kernel
theorem dX6_placeOfColumn_16 : decode cX6_placeOfColumn 16 = .ok (.iadd, 1) := by decide +kernel
theorem dX6_placeOfColumn_17 : decode cX6_placeOfColumn 17 = .ok (.invokevirtual 36, 3) := by decide +kernel
theorem dX6_placeOfColumn_20 : decode cX6_placeOfColumn 20 = .ok (.iload_n 2, 1) := by decide +kernel
theorem dX6_placeOfColumn_21 : decode cX6_placeOfColumn 21 = .ok (.if_icmp .ne 5, 3) := by decide +kernel
theorem dX6_placeOfColumn_24 : decode cX6_placeOfColumn 24 = .ok (.iload_n 3, 1) := by decide +kernel
theorem dX6_placeOfColumn_25 : decode cX6_placeOfColumn 25 = .ok (.ireturn, 1) := by decide +kernel
theorem dX6_placeOfColumn_26 : decode cX6_placeOfColumn 26 = .ok (.iinc 3 1, 3) := by decide +kernel
theorem dX6_placeOfColumn_29 : decode cX6_placeOfColumn 29 = .ok (.goto (-27), 3) := by decide +kernel
theorem dX6_placeOfColumn_32 : decode cX6_placeOfColumn 32 = .ok (.iconst (-1), 1) := by decide +kernel
theorem dX6_placeOfColumn_33 : decode cX6_placeOfColumn 33 = .ok (.ireturn, 1) := by decide +kernel
theorem dX6_comes_0 : decode cX6_comes 0 = .ok (.aload_n 0, 1) := by decide +kernel
theorem dX6_comes_1 : decode cX6_comes 1 = .ok (.getfield 7, 3) := by decide +kernel
theorem dX6_comes_4 : decode cX6_comes 4 = .ok (.iconst 0, 1) := by decide +kernel
theorem dX6_comes_5 : decode cX6_comes 5 = .ok (.iaload, 1) := by decide +kernel
theorem dX6_comes_6 : decode cX6_comes 6 = .ok (.istore 4, 2) := by decide +kernel
theorem dX6_comes_8 : decode cX6_comes 8 = .ok (.iconst 0, 1) := by decide +kernel
theorem dX6_comes_9 : decode cX6_comes 9 = .ok (.istore 5, 2) := by decide +kernel
theorem dX6_comes_11 : decode cX6_comes 11 = .ok (.iload 5, 2) := by decide +kernel
theorem dX6_comes_13 : decode cX6_comes 13 = .ok (.bipush 20, 2) := by decide +kernel
theorem dX6_comes_15 : decode cX6_comes 15 = .ok (.if_icmp .ge 27, 3) := by decide +kernel
theorem dX6_comes_18 : decode cX6_comes 18 = .ok (.aload_n 0, 1) := by decide +kernel
theorem dX6_comes_19 : decode cX6_comes 19 = .ok (.iload 4, 2) := by decide +kernel
theorem dX6_comes_21 : decode cX6_comes 21 = .ok (.iload 5, 2) := by decide +kernel
theorem dX6_comes_23 : decode cX6_comes 23 = .ok (.aload_n 0, 1) := by decide +kernel
theorem dX6_comes_24 : decode cX6_comes 24 = .ok (.iload 4, 2) := by decide +kernel
theorem dX6_comes_26 : decode cX6_comes 26 = .ok (.iconst 1, 1) := by decide +kernel
theorem dX6_comes_27 : decode cX6_comes 27 = .ok (.isub, 1) := by decide +kernel
theorem dX6_comes_28 : decode cX6_comes 28 = .ok (.iload 5, 2) := by decide +kernel
theorem dX6_comes_30 : decode cX6_comes 30 = .ok (.invokevirtual 36, 3) := by decide +kernel
theorem dX6_comes_33 : decode cX6_comes 33 = .ok (.invokevirtual 40, 3) := by decide +kernel
theorem dX6_comes_36 : decode cX6_comes 36 = .ok (.iinc 5 1, 3) := by decide +kernel
theorem dX6_comes_39 : decode cX6_comes 39 = .ok (.goto (-28), 3) := by decide +kernel
theorem dX6_comes_42 : decode cX6_comes 42 = .ok (.aload_n 0, 1) := by decide +kernel
theorem dX6_comes_43 : decode cX6_comes 43 = .ok (.iload 4, 2) := by decide +kernel
theorem dX6_comes_45 : decode cX6_comes 45 = .ok (.bipush 17, 2) := by decide +kernel
theorem dX6_comes_47 : decode cX6_comes 47 = .ok (.iload_n 1, 1) := by decide +kernel
theorem dX6_comes_48 : decode cX6_comes 48 = .ok (.invokevirtual 40, 3) := by decide +kernel
theorem dX6_comes_51 : decode cX6_comes 51 = .ok (.aload_n 0, 1) := by decide +kernel
theorem dX6_comes_52 : decode cX6_comes 52 = .ok (.iload 4, 2) := by decide +kernel
theorem dX6_comes_54 : decode cX6_comes 54 = .ok (.bipush 18, 2) := by decide +kernel
theorem dX6_comes_56 : decode cX6_comes 56 = .ok (.iload_n 2, 1) := by decide +kernel
theorem dX6_comes_57 : decode cX6_comes 57 = .ok (.invokevirtual 40, 3) := by decide +kernel
theorem dX6_comes_60 : decode cX6_comes 60 = .ok (.aload_n 0, 1) := by decide +kernel
theorem dX6_comes_61 : decode cX6_comes 61 = .ok (.iload 4, 2) := by decide +kernel
theorem dX6_comes_63 : decode cX6_comes 63 = .ok (.bipush 19, 2) := by decide +kernel
theorem dX6_comes_65 : decode cX6_comes 65 = .ok (.iload_n 3, 1) := by decide +kernel
theorem dX6_comes_66 : decode cX6_comes 66 = .ok (.invokevirtual 40, 3) := by decide +kernel
theorem dX6_comes_69 : decode cX6_comes 69 = .ok (.aload_n 0, 1) := by decide +kernel
theorem dX6_comes_70 : decode cX6_comes 70 = .ok (.getfield 7, 3) := by decide +kernel
theorem dX6_comes_73 : decode cX6_comes 73 = .ok (.iconst 0, 1) := by decide +kernel
theorem dX6_comes_74 : decode cX6_comes 74 = .ok (.dup2, 1) := by decide +kernel
theorem dX6_comes_75 : decode cX6_comes 75 = .ok (.iaload, 1) := by decide +kernel
theorem dX6_comes_76 : decode cX6_comes 76 = .ok (.iconst 1, 1) := by decide +kernel
theorem dX6_comes_77 : decode cX6_comes 77 = .ok (.iadd, 1) := by decide +kernel
theorem dX6_comes_78 : decode cX6_comes 78 = .ok (.iastore, 1) := by decide +kernel
theorem dX6_comes_79 : decode cX6_comes 79 = .ok (.return_, 1) := by decide +kernel
theorem dX6_getsColumn_0 : decode cX6_getsColumn 0 = .ok (.aload_n 0, 1) := by decide +kernel
theorem dX6_getsColumn_1 : decode cX6_getsColumn 1 = .ok (.aload_n 0, 1) := by decide +kernel
theorem dX6_getsColumn_2 : decode cX6_getsColumn 2 = .ok (.invokevirtual 44, 3) := by decide +kernel
theorem dX6_getsColumn_5 : decode cX6_getsColumn 5 = .ok (.iconst 0, 1) := by decide +kernel
theorem dX6_getsColumn_6 : decode cX6_getsColumn 6 = .ok (.invokevirtual 36, 3) := by decide +kernel
theorem dX6_getsColumn_9 : decode cX6_getsColumn 9 = .ok (.istore_n 2, 1) := by decide +kernel
theorem dX6_getsColumn_10 : decode cX6_getsColumn 10 = .ok (.aload_n 0, 1) := by decide +kernel
theorem dX6_getsColumn_11 : decode cX6_getsColumn 11 = .ok (.aload_n 0, 1) := by decide +kernel
theorem dX6_getsColumn_12 : decode cX6_getsColumn 12 = .ok (.invokevirtual 44, 3) := by decide +kernel
theorem dX6_getsColumn_15 : decode cX6_getsColumn 15 = .ok (.iconst 1, 1) := by decide +kernel
theorem dX6_getsColumn_16 : decode cX6_getsColumn 16 = .ok (.iload_n 2, 1) := by decide +kernel
theorem dX6_getsColumn_17 : decode cX6_getsColumn 17 = .ok (.iadd, 1) := by decide +kernel
theorem dX6_getsColumn_18 : decode cX6_getsColumn 18 = .ok (.aload_n 0, 1) := by decide +kernel
theorem dX6_getsColumn_19 : decode cX6_getsColumn 19 = .ok (.invokevirtual 44, 3) := by decide +kernel
theorem dX6_getsColumn_22 : decode cX6_getsColumn 22 = .ok (.invokevirtual 40, 3) := by decide +kernel
theorem dX6_getsColumn_25 : decode cX6_getsColumn 25 = .ok (.aload_n 0, 1) := by decide +kernel
theorem dX6_getsColumn_26 : decode cX6_getsColumn 26 = .ok (.aload_n 0, 1) := by decide +kernel
theorem dX6_getsColumn_27 : decode cX6_getsColumn 27 = .ok (.invokevirtual 44, 3) := by decide +kernel
theorem dX6_getsColumn_30 : decode cX6_getsColumn 30 = .ok (.bipush 9, 2) := by decide +kernel
theorem dX6_getsColumn_32 : decode cX6_getsColumn 32 = .ok (.iload_n 2, 1) := by decide +kernel
theorem dX6_getsColumn_33 : decode cX6_getsColumn 33 = .ok (.iadd, 1) := by decide +kernel
theorem dX6_getsColumn_34 : decode cX6_getsColumn 34 = .ok (.iload_n 1, 1) := by decide +kernel
theorem dX6_getsColumn_35 : decode cX6_getsColumn 35 = .ok (.invokevirtual 40, 3) := by decide +kernel
theorem dX6_getsColumn_38 : decode cX6_getsColumn 38 = .ok (.aload_n 0, 1) := by decide +kernel
theorem dX6_getsColumn_39 : decode cX6_getsColumn 39 = .ok (.aload_n 0, 1) := by decide +kernel
theorem dX6_getsColumn_40 : decode cX6_getsColumn 40 = .ok (.invokevirtual 44, 3) := by decide +kernel
theorem dX6_getsColumn_43 : decode cX6_getsColumn 43 = .ok (.iconst 0, 1) := by decide +kernel
theorem dX6_getsColumn_44 : decode cX6_getsColumn 44 = .ok (.iload_n 2, 1) := by decide +kernel
theorem dX6_getsColumn_45 : decode cX6_getsColumn 45 = .ok (.iconst 1, 1) := by decide +kernel
theorem dX6_getsColumn_46 : decode cX6_getsColumn 46 = .ok (.iadd, 1) := by decide +kernel
theorem dX6_getsColumn_47 : decode cX6_getsColumn 47 = .ok (.invokevirtual 40, 3) := by decide +kernel
theorem dX6_getsColumn_50 : decode cX6_getsColumn 50 = .ok (.return_, 1) := by decide +kernel
theorem dX6_has_0 : decode cX6_has 0 = .ok (.aload_n 0, 1) := by decide +kernel
theorem dX6_has_1 : decode cX6_has 1 = .ok (.aload_n 0, 1) := by decide +kernel
theorem dX6_has_2 : decode cX6_has 2 = .ok (.invokevirtual 44, 3) := by decide +kernel
theorem dX6_has_5 : decode cX6_has 5 = .ok (.iload_n 1, 1) := by decide +kernel
theorem dX6_has_6 : decode cX6_has 6 = .ok (.invokevirtual 48, 3) := by decide +kernel
theorem dX6_has_9 : decode cX6_has 9 = .ok (.iconst (-1), 1) := by decide +kernel
theorem dX6_has_10 : decode cX6_has 10 = .ok (.if_icmp .eq 7, 3) := by decide +kernel
theorem dX6_has_13 : decode cX6_has 13 = .ok (.iconst 1, 1) := by decide +kernel
theorem dX6_has_14 : decode cX6_has 14 = .ok (.goto 4, 3) := by decide +kernel
theorem dX6_has_17 : decode cX6_has 17 = .ok (.iconst 0, 1) := by decide +kernel
theorem dX6_has_18 : decode cX6_has 18 = .ok (.ireturn, 1) := by decide +kernel
theorem dX6_isFull_0 : decode cX6_isFull 0 = .ok (.aload_n 0, 1) := by decide +kernel
theorem dX6_isFull_1 : decode cX6_isFull 1 = .ok (.getfield 7, 3) := by decide +kernel
theorem dX6_isFull_4 : decode cX6_isFull 4 = .ok (.iconst 0, 1) := by decide +kernel
theorem dX6_isFull_5 : decode cX6_isFull 5 = .ok (.iaload, 1) := by decide +kernel
theorem dX6_isFull_6 : decode cX6_isFull 6 = .ok (.bipush 12, 2) := by decide +kernel
theorem dX6_isFull_8 : decode cX6_isFull 8 = .ok (.if_icmp .ne 7, 3) := by decide +kernel
theorem dX6_isFull_11 : decode cX6_isFull 11 = .ok (.iconst 1, 1) := by decide +kernel
theorem dX6_isFull_12 : decode cX6_isFull 12 = .ok (.goto 4, 3) := by decide +kernel
theorem dX6_isFull_15 : decode cX6_isFull 15 = .ok (.iconst 0, 1) := by decide +kernel
theorem dX6_isFull_16 : decode cX6_isFull 16 = .ok (.ireturn, 1) := by decide +kernel
theorem dX6_refusesNumber_0 : decode cX6_refusesNumber 0 = .ok (.iload_n 1, 1) := by decide +kernel
theorem dX6_refusesNumber_1 : decode cX6_refusesNumber 1 = .ok (.invokestatic 51, 3) := by decide +kernel
theorem dX6_refusesNumber_4 : decode cX6_refusesNumber 4 = .ok (.ifCond .eq 13, 3) := by decide +kernel
theorem dX6_refusesNumber_7 : decode cX6_refusesNumber 7 = .ok (.iload_n 2, 1) := by decide +kernel
theorem dX6_refusesNumber_8 : decode cX6_refusesNumber 8 = .ok (.iconst 0, 1) := by decide +kernel
theorem dX6_refusesNumber_9 : decode cX6_refusesNumber 9 = .ok (.bipush 99, 2) := by decide +kernel
theorem dX6_refusesNumber_11 : decode cX6_refusesNumber 11 = .ok (.invokestatic 32, 3) := by decide +kernel
theorem dX6_refusesNumber_14 : decode cX6_refusesNumber 14 = .ok (.ifCond .ne 5, 3) := by decide +kernel
theorem dX6_refusesNumber_17 : decode cX6_refusesNumber 17 = .ok (.iconst 1, 1) := by decide +kernel
theorem dX6_refusesNumber_18 : decode cX6_refusesNumber 18 = .ok (.ireturn, 1) := by decide +kernel
theorem dX6_refusesNumber_19 : decode cX6_refusesNumber 19 = .ok (.aload_n 0, 1) := by decide +kernel
theorem dX6_refusesNumber_20 : decode cX6_refusesNumber 20 = .ok (.iload_n 1, 1) := by decide +kernel
theorem dX6_refusesNumber_21 : decode cX6_refusesNumber 21 = .ok (.invokevirtual 55, 3) := by decide +kernel
theorem dX6_refusesNumber_24 : decode cX6_refusesNumber 24 = .ok (.ifCond .ne 10, 3) := by decide +kernel
theorem dX6_refusesNumber_27 : decode cX6_refusesNumber 27 = .ok (.aload_n 0, 1) := by decide +kernel
theorem dX6_refusesNumber_28 : decode cX6_refusesNumber 28 = .ok (.invokevirtual 58, 3) := by decide +kernel
theorem dX6_refusesNumber_31 : decode cX6_refusesNumber 31 = .ok (.ifCond .eq 7, 3) := by decide +kernel
theorem dX6_refusesNumber_34 : decode cX6_refusesNumber 34 = .ok (.iconst 2, 1) := by decide +kernel
theorem dX6_refusesNumber_35 : decode cX6_refusesNumber 35 = .ok (.goto 4, 3) := by decide +kernel
theorem dX6_refusesNumber_38 : decode cX6_refusesNumber 38 = .ok (.iconst 0, 1) := by decide +kernel
theorem dX6_refusesNumber_39 : decode cX6_refusesNumber 39 = .ok (.ireturn, 1) := by decide +kernel
theorem dX6_refusesCopy_0 : decode cX6_refusesCopy 0 = .ok (.iload_n 1, 1) := by decide +kernel
theorem dX6_refusesCopy_1 : decode cX6_refusesCopy 1 = .ok (.invokestatic 51, 3) := by decide +kernel
theorem dX6_refusesCopy_4 : decode cX6_refusesCopy 4 = .ok (.ifCond .eq 20, 3) := by decide +kernel
theorem dX6_refusesCopy_7 : decode cX6_refusesCopy 7 = .ok (.iload_n 2, 1) := by decide +kernel
theorem dX6_refusesCopy_8 : decode cX6_refusesCopy 8 = .ok (.invokestatic 51, 3) := by decide +kernel
theorem dX6_refusesCopy_11 : decode cX6_refusesCopy 11 = .ok (.ifCond .eq 13, 3) := by decide +kernel
theorem dX6_refusesCopy_14 : decode cX6_refusesCopy 14 = .ok (.iload_n 3, 1) := by decide +kernel
theorem dX6_refusesCopy_15 : decode cX6_refusesCopy 15 = .ok (.iconst (-1), 1) := by decide +kernel
theorem dX6_refusesCopy_16 : decode cX6_refusesCopy 16 = .ok (.bipush 7, 2) := by decide +kernel
theorem dX6_refusesCopy_18 : decode cX6_refusesCopy 18 = .ok (.invokestatic 32, 3) := by decide +kernel
theorem dX6_refusesCopy_21 : decode cX6_refusesCopy 21 = .ok (.ifCond .ne 5, 3) := by decide +kernel
theorem dX6_refusesCopy_24 : decode cX6_refusesCopy 24 = .ok (.iconst 1, 1) := by decide +kernel
theorem dX6_refusesCopy_25 : decode cX6_refusesCopy 25 = .ok (.ireturn, 1) := by decide +kernel
theorem dX6_refusesCopy_26 : decode cX6_refusesCopy 26 = .ok (.aload_n 0, 1) := by decide +kernel
theorem dX6_refusesCopy_27 : decode cX6_refusesCopy 27 = .ok (.iload_n 1, 1) := by decide +kernel
theorem dX6_refusesCopy_28 : decode cX6_refusesCopy 28 = .ok (.invokevirtual 55, 3) := by decide +kernel
theorem dX6_refusesCopy_31 : decode cX6_refusesCopy 31 = .ok (.ifCond .ne 31, 3) := by decide +kernel
theorem dX6_refusesCopy_34 : decode cX6_refusesCopy 34 = .ok (.aload_n 0, 1) := by decide +kernel
theorem dX6_refusesCopy_35 : decode cX6_refusesCopy 35 = .ok (.iload_n 2, 1) := by decide +kernel
theorem dX6_refusesCopy_36 : decode cX6_refusesCopy 36 = .ok (.invokevirtual 55, 3) := by decide +kernel
theorem dX6_refusesCopy_39 : decode cX6_refusesCopy 39 = .ok (.ifCond .eq 23, 3) := by decide +kernel
theorem dX6_refusesCopy_42 : decode cX6_refusesCopy 42 = .ok (.iload_n 3, 1) := by decide +kernel
theorem dX6_refusesCopy_43 : decode cX6_refusesCopy 43 = .ok (.iconst (-1), 1) := by decide +kernel
theorem dX6_refusesCopy_44 : decode cX6_refusesCopy 44 = .ok (.if_icmp .eq 11, 3) := by decide +kernel
theorem dX6_refusesCopy_47 : decode cX6_refusesCopy 47 = .ok (.aload_n 0, 1) := by decide +kernel
theorem dX6_refusesCopy_48 : decode cX6_refusesCopy 48 = .ok (.iload_n 3, 1) := by decide +kernel
theorem dX6_refusesCopy_49 : decode cX6_refusesCopy 49 = .ok (.invokevirtual 55, 3) := by decide +kernel
theorem dX6_refusesCopy_52 : decode cX6_refusesCopy 52 = .ok (.ifCond .eq 10, 3) := by decide +kernel
theorem dX6_refusesCopy_55 : decode cX6_refusesCopy 55 = .ok (.aload_n 0, 1) := by decide +kernel
theorem dX6_refusesCopy_56 : decode cX6_refusesCopy 56 = .ok (.invokevirtual 58, 3) := by decide +kernel
theorem dX6_refusesCopy_59 : decode cX6_refusesCopy 59 = .ok (.ifCond .eq 7, 3) := by decide +kernel
theorem dX6_refusesCopy_62 : decode cX6_refusesCopy 62 = .ok (.iconst 2, 1) := by decide +kernel
theorem dX6_refusesCopy_63 : decode cX6_refusesCopy 63 = .ok (.goto 4, 3) := by decide +kernel
theorem dX6_refusesCopy_66 : decode cX6_refusesCopy 66 = .ok (.iconst 0, 1) := by decide +kernel
theorem dX6_refusesCopy_67 : decode cX6_refusesCopy 67 = .ok (.ireturn, 1) := by decide +kernel
theorem dX6_refusesDrop_0 : decode cX6_refusesDrop 0 = .ok (.iload_n 1, 1) := by decide +kernel
theorem dX6_refusesDrop_1 : decode cX6_refusesDrop 1 = .ok (.invokestatic 51, 3) := by decide +kernel
theorem dX6_refusesDrop_4 : decode cX6_refusesDrop 4 = .ok (.ifCond .eq 13, 3) := by decide +kernel
theorem dX6_refusesDrop_7 : decode cX6_refusesDrop 7 = .ok (.iload_n 2, 1) := by decide +kernel
theorem dX6_refusesDrop_8 : decode cX6_refusesDrop 8 = .ok (.iconst 0, 1) := by decide +kernel
theorem dX6_refusesDrop_9 : decode cX6_refusesDrop 9 = .ok (.bipush 99, 2) := by decide +kernel
theorem dX6_refusesDrop_11 : decode cX6_refusesDrop 11 = .ok (.invokestatic 32, 3) := by decide +kernel
theorem dX6_refusesDrop_14 : decode cX6_refusesDrop 14 = .ok (.ifCond .ne 5, 3) := by decide +kernel
theorem dX6_refusesDrop_17 : decode cX6_refusesDrop 17 = .ok (.iconst 1, 1) := by decide +kernel
theorem dX6_refusesDrop_18 : decode cX6_refusesDrop 18 = .ok (.ireturn, 1) := by decide +kernel
theorem dX6_refusesDrop_19 : decode cX6_refusesDrop 19 = .ok (.aload_n 0, 1) := by decide +kernel
theorem dX6_refusesDrop_20 : decode cX6_refusesDrop 20 = .ok (.iload_n 1, 1) := by decide +kernel
theorem dX6_refusesDrop_21 : decode cX6_refusesDrop 21 = .ok (.invokevirtual 55, 3) := by decide +kernel
theorem dX6_refusesDrop_24 : decode cX6_refusesDrop 24 = .ok (.ifCond .eq 10, 3) := by decide +kernel
theorem dX6_refusesDrop_27 : decode cX6_refusesDrop 27 = .ok (.aload_n 0, 1) := by decide +kernel
theorem dX6_refusesDrop_28 : decode cX6_refusesDrop 28 = .ok (.invokevirtual 58, 3) := by decide +kernel
theorem dX6_refusesDrop_31 : decode cX6_refusesDrop 31 = .ok (.ifCond .eq 7, 3) := by decide +kernel
theorem dX6_refusesDrop_34 : decode cX6_refusesDrop 34 = .ok (.iconst 2, 1) := by decide +kernel
theorem dX6_refusesDrop_35 : decode cX6_refusesDrop 35 = .ok (.goto 4, 3) := by decide +kernel
theorem dX6_refusesDrop_38 : decode cX6_refusesDrop 38 = .ok (.iconst 0, 1) := by decide +kernel
theorem dX6_refusesDrop_39 : decode cX6_refusesDrop 39 = .ok (.ireturn, 1) := by decide +kernel
theorem dX6_refusesRename_0 : decode cX6_refusesRename 0 = .ok (.iload_n 1, 1) := by decide +kernel
theorem dX6_refusesRename_1 : decode cX6_refusesRename 1 = .ok (.invokestatic 51, 3) := by decide +kernel
theorem dX6_refusesRename_4 : decode cX6_refusesRename 4 = .ok (.ifCond .eq 10, 3) := by decide +kernel
theorem dX6_refusesRename_7 : decode cX6_refusesRename 7 = .ok (.iload_n 2, 1) := by decide +kernel
theorem dX6_refusesRename_8 : decode cX6_refusesRename 8 = .ok (.invokestatic 51, 3) := by decide +kernel
theorem dX6_refusesRename_11 : decode cX6_refusesRename 11 = .ok (.ifCond .ne 5, 3) := by decide +kernel
theorem dX6_refusesRename_14 : decode cX6_refusesRename 14 = .ok (.iconst 1, 1) := by decide +kernel
theorem dX6_refusesRename_15 : decode cX6_refusesRename 15 = .ok (.ireturn, 1) := by decide +kernel
theorem dX6_refusesRename_16 : decode cX6_refusesRename 16 = .ok (.aload_n 0, 1) := by decide +kernel
theorem dX6_refusesRename_17 : decode cX6_refusesRename 17 = .ok (.iload_n 1, 1) := by decide +kernel
theorem dX6_refusesRename_18 : decode cX6_refusesRename 18 = .ok (.invokevirtual 55, 3) := by decide +kernel
theorem dX6_refusesRename_21 : decode cX6_refusesRename 21 = .ok (.ifCond .eq 18, 3) := by decide +kernel
theorem dX6_refusesRename_24 : decode cX6_refusesRename 24 = .ok (.aload_n 0, 1) := by decide +kernel
theorem dX6_refusesRename_25 : decode cX6_refusesRename 25 = .ok (.iload_n 2, 1) := by decide +kernel
theorem dX6_refusesRename_26 : decode cX6_refusesRename 26 = .ok (.invokevirtual 55, 3) := by decide +kernel
theorem dX6_refusesRename_29 : decode cX6_refusesRename 29 = .ok (.ifCond .ne 10, 3) := by decide +kernel
theorem dX6_refusesRename_32 : decode cX6_refusesRename 32 = .ok (.aload_n 0, 1) := by decide +kernel
theorem dX6_refusesRename_33 : decode cX6_refusesRename 33 = .ok (.invokevirtual 58, 3) := by decide +kernel
theorem dX6_refusesRename_36 : decode cX6_refusesRename 36 = .ok (.ifCond .eq 7, 3) := by decide +kernel
theorem dX6_refusesRename_39 : decode cX6_refusesRename 39 = .ok (.iconst 2, 1) := by decide +kernel
theorem dX6_refusesRename_40 : decode cX6_refusesRename 40 = .ok (.goto 4, 3) := by decide +kernel
theorem dX6_refusesRename_43 : decode cX6_refusesRename 43 = .ok (.iconst 0, 1) := by decide +kernel
theorem dX6_refusesRename_44 : decode cX6_refusesRename 44 = .ok (.ireturn, 1) := by decide +kernel
theorem dX6_addsNumber_0 : decode cX6_addsNumber 0 = .ok (.aload_n 0, 1) := by decide +kernel
theorem dX6_addsNumber_1 : decode cX6_addsNumber 1 = .ok (.iconst 1, 1) := by decide +kernel
theorem dX6_addsNumber_2 : decode cX6_addsNumber 2 = .ok (.iload_n 2, 1) := by decide +kernel
theorem dX6_addsNumber_3 : decode cX6_addsNumber 3 = .ok (.iconst 0, 1) := by decide +kernel
theorem dX6_addsNumber_4 : decode cX6_addsNumber 4 = .ok (.invokevirtual 62, 3) := by decide +kernel
theorem dX6_addsNumber_7 : decode cX6_addsNumber 7 = .ok (.aload_n 0, 1) := by decide +kernel
theorem dX6_addsNumber_8 : decode cX6_addsNumber 8 = .ok (.iload_n 1, 1) := by decide +kernel
theorem dX6_addsNumber_9 : decode cX6_addsNumber 9 = .ok (.invokevirtual 65, 3) := by decide +kernel
theorem dX6_addsNumber_12 : decode cX6_addsNumber 12 = .ok (.return_, 1) := by decide +kernel
theorem dX6_addsCopy_0 : decode cX6_addsCopy 0 = .ok (.aload_n 0, 1) := by decide +kernel
theorem dX6_addsCopy_1 : decode cX6_addsCopy 1 = .ok (.aload_n 0, 1) := by decide +kernel
theorem dX6_addsCopy_2 : decode cX6_addsCopy 2 = .ok (.invokevirtual 44, 3) := by decide +kernel
theorem dX6_addsCopy_5 : decode cX6_addsCopy 5 = .ok (.iload_n 2, 1) := by decide +kernel
theorem dX6_addsCopy_6 : decode cX6_addsCopy 6 = .ok (.invokevirtual 48, 3) := by decide +kernel
theorem dX6_addsCopy_9 : decode cX6_addsCopy 9 = .ok (.istore 4, 2) := by decide +kernel
theorem dX6_addsCopy_11 : decode cX6_addsCopy 11 = .ok (.iload_n 3, 1) := by decide +kernel
theorem dX6_addsCopy_12 : decode cX6_addsCopy 12 = .ok (.iconst (-1), 1) := by decide +kernel
theorem dX6_addsCopy_13 : decode cX6_addsCopy 13 = .ok (.if_icmp .ne 7, 3) := by decide +kernel
theorem dX6_addsCopy_16 : decode cX6_addsCopy 16 = .ok (.iconst 0, 1) := by decide +kernel
theorem dX6_addsCopy_17 : decode cX6_addsCopy 17 = .ok (.goto 12, 3) := by decide +kernel
theorem dX6_addsCopy_20 : decode cX6_addsCopy 20 = .ok (.aload_n 0, 1) := by decide +kernel
theorem dX6_addsCopy_21 : decode cX6_addsCopy 21 = .ok (.aload_n 0, 1) := by decide +kernel
theorem dX6_addsCopy_22 : decode cX6_addsCopy 22 = .ok (.invokevirtual 44, 3) := by decide +kernel
theorem dX6_addsCopy_25 : decode cX6_addsCopy 25 = .ok (.iload_n 3, 1) := by decide +kernel
theorem dX6_addsCopy_26 : decode cX6_addsCopy 26 = .ok (.invokevirtual 48, 3) := by decide +kernel
theorem dX6_addsCopy_29 : decode cX6_addsCopy 29 = .ok (.istore 5, 2) := by decide +kernel
theorem dX6_addsCopy_31 : decode cX6_addsCopy 31 = .ok (.aload_n 0, 1) := by decide +kernel
theorem dX6_addsCopy_32 : decode cX6_addsCopy 32 = .ok (.iload_n 3, 1) := by decide +kernel
theorem dX6_addsCopy_33 : decode cX6_addsCopy 33 = .ok (.iconst (-1), 1) := by decide +kernel
theorem dX6_addsCopy_34 : decode cX6_addsCopy 34 = .ok (.if_icmp .ne 7, 3) := by decide +kernel
theorem dX6_addsCopy_37 : decode cX6_addsCopy 37 = .ok (.iconst 2, 1) := by decide +kernel
theorem dX6_addsCopy_38 : decode cX6_addsCopy 38 = .ok (.goto 4, 3) := by decide +kernel
theorem dX6_addsCopy_41 : decode cX6_addsCopy 41 = .ok (.iconst 3, 1) := by decide +kernel
theorem dX6_addsCopy_42 : decode cX6_addsCopy 42 = .ok (.iload 4, 2) := by decide +kernel
theorem dX6_addsCopy_44 : decode cX6_addsCopy 44 = .ok (.iload 5, 2) := by decide +kernel
theorem dX6_addsCopy_46 : decode cX6_addsCopy 46 = .ok (.invokevirtual 62, 3) := by decide +kernel
theorem dX6_addsCopy_49 : decode cX6_addsCopy 49 = .ok (.aload_n 0, 1) := by decide +kernel
theorem dX6_addsCopy_50 : decode cX6_addsCopy 50 = .ok (.iload_n 1, 1) := by decide +kernel
theorem dX6_addsCopy_51 : decode cX6_addsCopy 51 = .ok (.invokevirtual 65, 3) := by decide +kernel
theorem dX6_addsCopy_54 : decode cX6_addsCopy 54 = .ok (.return_, 1) := by decide +kernel
theorem dX6_drops_0 : decode cX6_drops 0 = .ok (.aload_n 0, 1) := by decide +kernel
theorem dX6_drops_1 : decode cX6_drops 1 = .ok (.aload_n 0, 1) := by decide +kernel
theorem dX6_drops_2 : decode cX6_drops 2 = .ok (.invokevirtual 44, 3) := by decide +kernel
theorem dX6_drops_5 : decode cX6_drops 5 = .ok (.iload_n 1, 1) := by decide +kernel
theorem dX6_drops_6 : decode cX6_drops 6 = .ok (.invokevirtual 48, 3) := by decide +kernel
theorem dX6_drops_9 : decode cX6_drops 9 = .ok (.istore_n 3, 1) := by decide +kernel
theorem dX6_drops_10 : decode cX6_drops 10 = .ok (.aload_n 0, 1) := by decide +kernel
theorem dX6_drops_11 : decode cX6_drops 11 = .ok (.iconst 4, 1) := by decide +kernel
theorem dX6_drops_12 : decode cX6_drops 12 = .ok (.iload_n 3, 1) := by decide +kernel
theorem dX6_drops_13 : decode cX6_drops 13 = .ok (.iload_n 2, 1) := by decide +kernel
theorem dX6_drops_14 : decode cX6_drops 14 = .ok (.invokevirtual 62, 3) := by decide +kernel
theorem dX6_drops_17 : decode cX6_drops 17 = .ok (.aload_n 0, 1) := by decide +kernel
theorem dX6_drops_18 : decode cX6_drops 18 = .ok (.invokevirtual 44, 3) := by decide +kernel
theorem dX6_drops_21 : decode cX6_drops 21 = .ok (.istore 4, 2) := by decide +kernel
theorem dX6_drops_23 : decode cX6_drops 23 = .ok (.aload_n 0, 1) := by decide +kernel
theorem dX6_drops_24 : decode cX6_drops 24 = .ok (.iload 4, 2) := by decide +kernel
theorem dX6_drops_26 : decode cX6_drops 26 = .ok (.iconst 0, 1) := by decide +kernel
theorem dX6_drops_27 : decode cX6_drops 27 = .ok (.invokevirtual 36, 3) := by decide +kernel
theorem dX6_drops_30 : decode cX6_drops 30 = .ok (.iconst 1, 1) := by decide +kernel
theorem dX6_drops_31 : decode cX6_drops 31 = .ok (.isub, 1) := by decide +kernel
theorem dX6_drops_32 : decode cX6_drops 32 = .ok (.istore 5, 2) := by decide +kernel
theorem dX6_drops_34 : decode cX6_drops 34 = .ok (.iload_n 3, 1) := by decide +kernel
theorem dX6_drops_35 : decode cX6_drops 35 = .ok (.istore 6, 2) := by decide +kernel
theorem dX6_drops_37 : decode cX6_drops 37 = .ok (.iload 6, 2) := by decide +kernel
theorem dX6_drops_39 : decode cX6_drops 39 = .ok (.iload 5, 2) := by decide +kernel
theorem dX6_drops_41 : decode cX6_drops 41 = .ok (.if_icmp .ge 55, 3) := by decide +kernel
theorem dX6_drops_44 : decode cX6_drops 44 = .ok (.aload_n 0, 1) := by decide +kernel
theorem dX6_drops_45 : decode cX6_drops 45 = .ok (.iload 4, 2) := by decide +kernel
theorem dX6_drops_47 : decode cX6_drops 47 = .ok (.iconst 1, 1) := by decide +kernel
theorem dX6_drops_48 : decode cX6_drops 48 = .ok (.iload 6, 2) := by decide +kernel
theorem dX6_drops_50 : decode cX6_drops 50 = .ok (.iadd, 1) := by decide +kernel
theorem dX6_drops_51 : decode cX6_drops 51 = .ok (.aload_n 0, 1) := by decide +kernel
theorem dX6_drops_52 : decode cX6_drops 52 = .ok (.iload 4, 2) := by decide +kernel
theorem dX6_drops_54 : decode cX6_drops 54 = .ok (.iconst 1, 1) := by decide +kernel
theorem dX6_drops_55 : decode cX6_drops 55 = .ok (.iload 6, 2) := by decide +kernel
theorem dX6_drops_57 : decode cX6_drops 57 = .ok (.iadd, 1) := by decide +kernel
theorem dX6_drops_58 : decode cX6_drops 58 = .ok (.iconst 1, 1) := by decide +kernel
theorem dX6_drops_59 : decode cX6_drops 59 = .ok (.iadd, 1) := by decide +kernel
theorem dX6_drops_60 : decode cX6_drops 60 = .ok (.invokevirtual 36, 3) := by decide +kernel
theorem dX6_drops_63 : decode cX6_drops 63 = .ok (.invokevirtual 40, 3) := by decide +kernel
theorem dX6_drops_66 : decode cX6_drops 66 = .ok (.aload_n 0, 1) := by decide +kernel
theorem dX6_drops_67 : decode cX6_drops 67 = .ok (.iload 4, 2) := by decide +kernel
theorem dX6_drops_69 : decode cX6_drops 69 = .ok (.bipush 9, 2) := by decide +kernel
theorem dX6_drops_71 : decode cX6_drops 71 = .ok (.iload 6, 2) := by decide +kernel
theorem dX6_drops_73 : decode cX6_drops 73 = .ok (.iadd, 1) := by decide +kernel
theorem dX6_drops_74 : decode cX6_drops 74 = .ok (.aload_n 0, 1) := by decide +kernel
theorem dX6_drops_75 : decode cX6_drops 75 = .ok (.iload 4, 2) := by decide +kernel
theorem dX6_drops_77 : decode cX6_drops 77 = .ok (.bipush 9, 2) := by decide +kernel
theorem dX6_drops_79 : decode cX6_drops 79 = .ok (.iload 6, 2) := by decide +kernel
theorem dX6_drops_81 : decode cX6_drops 81 = .ok (.iadd, 1) := by decide +kernel
theorem dX6_drops_82 : decode cX6_drops 82 = .ok (.iconst 1, 1) := by decide +kernel
theorem dX6_drops_83 : decode cX6_drops 83 = .ok (.iadd, 1) := by decide +kernel
theorem dX6_drops_84 : decode cX6_drops 84 = .ok (.invokevirtual 36, 3) := by decide +kernel
theorem dX6_drops_87 : decode cX6_drops 87 = .ok (.invokevirtual 40, 3) := by decide +kernel
theorem dX6_drops_90 : decode cX6_drops 90 = .ok (.iinc 6 1, 3) := by decide +kernel
theorem dX6_drops_93 : decode cX6_drops 93 = .ok (.goto (-56), 3) := by decide +kernel
theorem dX6_drops_96 : decode cX6_drops 96 = .ok (.aload_n 0, 1) := by decide +kernel
theorem dX6_drops_97 : decode cX6_drops 97 = .ok (.iload 4, 2) := by decide +kernel
theorem dX6_drops_99 : decode cX6_drops 99 = .ok (.iconst 1, 1) := by decide +kernel
theorem dX6_drops_100 : decode cX6_drops 100 = .ok (.iload 5, 2) := by decide +kernel
theorem dX6_drops_102 : decode cX6_drops 102 = .ok (.iadd, 1) := by decide +kernel
theorem dX6_drops_103 : decode cX6_drops 103 = .ok (.iconst 0, 1) := by decide +kernel
theorem dX6_drops_104 : decode cX6_drops 104 = .ok (.invokevirtual 40, 3) := by decide +kernel
theorem dX6_drops_107 : decode cX6_drops 107 = .ok (.aload_n 0, 1) := by decide +kernel
theorem dX6_drops_108 : decode cX6_drops 108 = .ok (.iload 4, 2) := by decide +kernel
theorem dX6_drops_110 : decode cX6_drops 110 = .ok (.bipush 9, 2) := by decide +kernel
theorem dX6_drops_112 : decode cX6_drops 112 = .ok (.iload 5, 2) := by decide +kernel
theorem dX6_drops_114 : decode cX6_drops 114 = .ok (.iadd, 1) := by decide +kernel
theorem dX6_drops_115 : decode cX6_drops 115 = .ok (.iconst 0, 1) := by decide +kernel
theorem dX6_drops_116 : decode cX6_drops 116 = .ok (.invokevirtual 40, 3) := by decide +kernel
theorem dX6_drops_119 : decode cX6_drops 119 = .ok (.aload_n 0, 1) := by decide +kernel
theorem dX6_drops_120 : decode cX6_drops 120 = .ok (.iload 4, 2) := by decide +kernel
theorem dX6_drops_122 : decode cX6_drops 122 = .ok (.iconst 0, 1) := by decide +kernel
theorem dX6_drops_123 : decode cX6_drops 123 = .ok (.iload 5, 2) := by decide +kernel
theorem dX6_drops_125 : decode cX6_drops 125 = .ok (.invokevirtual 40, 3) := by decide +kernel
theorem dX6_drops_128 : decode cX6_drops 128 = .ok (.return_, 1) := by decide +kernel
