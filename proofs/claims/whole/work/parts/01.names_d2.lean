theorem dX2_keep_29 : decode cX2_keep 29 = .ok (.iconst 0, 1) := by decide +kernel
theorem dX2_keep_30 : decode cX2_keep 30 = .ok (.aload_n 0, 1) := by decide +kernel
theorem dX2_keep_31 : decode cX2_keep 31 = .ok (.getfield 15, 3) := by decide +kernel
theorem dX2_keep_34 : decode cX2_keep 34 = .ok (.iconst 0, 1) := by decide +kernel
theorem dX2_keep_35 : decode cX2_keep 35 = .ok (.bipush 12, 2) := by decide +kernel
theorem dX2_keep_37 : decode cX2_keep 37 = .ok (.invokestatic 33, 3) := by decide +kernel
theorem dX2_keep_40 : decode cX2_keep 40 = .ok (.return_, 1) := by decide +kernel
theorem dX3_init_0 : decode cX3_init 0 = .ok (.aload_n 0, 1) := by decide +kernel
theorem dX3_init_1 : decode cX3_init 1 = .ok (.invokespecial 1, 3) := by decide +kernel
theorem dX3_init_4 : decode cX3_init 4 = .ok (.aload_n 0, 1) := by decide +kernel
theorem dX3_init_5 : decode cX3_init 5 = .ok (.new 7, 3) := by decide +kernel
theorem dX3_init_8 : decode cX3_init 8 = .ok (.dup, 1) := by decide +kernel
theorem dX3_init_9 : decode cX3_init 9 = .ok (.invokespecial 9, 3) := by decide +kernel
theorem dX3_init_12 : decode cX3_init 12 = .ok (.putfield 10, 3) := by decide +kernel
theorem dX3_init_15 : decode cX3_init 15 = .ok (.aload_n 0, 1) := by decide +kernel
theorem dX3_init_16 : decode cX3_init 16 = .ok (.new 16, 3) := by decide +kernel
theorem dX3_init_19 : decode cX3_init 19 = .ok (.dup, 1) := by decide +kernel
theorem dX3_init_20 : decode cX3_init 20 = .ok (.aload_n 0, 1) := by decide +kernel
theorem dX3_init_21 : decode cX3_init 21 = .ok (.getfield 10, 3) := by decide +kernel
theorem dX3_init_24 : decode cX3_init 24 = .ok (.invokespecial 18, 3) := by decide +kernel
theorem dX3_init_27 : decode cX3_init 27 = .ok (.putfield 21, 3) := by decide +kernel
theorem dX3_init_30 : decode cX3_init 30 = .ok (.aload_n 0, 1) := by decide +kernel
theorem dX3_init_31 : decode cX3_init 31 = .ok (.new 25, 3) := by decide +kernel
theorem dX3_init_34 : decode cX3_init 34 = .ok (.dup, 1) := by decide +kernel
theorem dX3_init_35 : decode cX3_init 35 = .ok (.invokespecial 27, 3) := by decide +kernel
theorem dX3_init_38 : decode cX3_init 38 = .ok (.putfield 28, 3) := by decide +kernel
theorem dX3_init_41 : decode cX3_init 41 = .ok (.return_, 1) := by decide +kernel
theorem dX3_copy_0 : decode cX3_copy 0 = .ok (.aload_n 0, 1) := by decide +kernel
theorem dX3_copy_1 : decode cX3_copy 1 = .ok (.getfield 10, 3) := by decide +kernel
theorem dX3_copy_4 : decode cX3_copy 4 = .ok (.aload_n 1, 1) := by decide +kernel
theorem dX3_copy_5 : decode cX3_copy 5 = .ok (.getfield 10, 3) := by decide +kernel
theorem dX3_copy_8 : decode cX3_copy 8 = .ok (.invokevirtual 32, 3) := by decide +kernel
theorem dX3_copy_11 : decode cX3_copy 11 = .ok (.aload_n 0, 1) := by decide +kernel
theorem dX3_copy_12 : decode cX3_copy 12 = .ok (.getfield 21, 3) := by decide +kernel
theorem dX3_copy_15 : decode cX3_copy 15 = .ok (.aload_n 1, 1) := by decide +kernel
theorem dX3_copy_16 : decode cX3_copy 16 = .ok (.getfield 21, 3) := by decide +kernel
theorem dX3_copy_19 : decode cX3_copy 19 = .ok (.getfield 35, 3) := by decide +kernel
theorem dX3_copy_22 : decode cX3_copy 22 = .ok (.invokevirtual 39, 3) := by decide +kernel
theorem dX3_copy_25 : decode cX3_copy 25 = .ok (.aload_n 0, 1) := by decide +kernel
theorem dX3_copy_26 : decode cX3_copy 26 = .ok (.getfield 28, 3) := by decide +kernel
theorem dX3_copy_29 : decode cX3_copy 29 = .ok (.aload_n 1, 1) := by decide +kernel
theorem dX3_copy_30 : decode cX3_copy 30 = .ok (.getfield 28, 3) := by decide +kernel
theorem dX3_copy_33 : decode cX3_copy 33 = .ok (.invokevirtual 43, 3) := by decide +kernel
theorem dX3_copy_36 : decode cX3_copy 36 = .ok (.return_, 1) := by decide +kernel
theorem dX4_init_0 : decode cX4_init 0 = .ok (.aload_n 0, 1) := by decide +kernel
theorem dX4_init_1 : decode cX4_init 1 = .ok (.invokespecial 3, 3) := by decide +kernel
theorem dX4_init_4 : decode cX4_init 4 = .ok (.aload_n 0, 1) := by decide +kernel
theorem dX4_init_5 : decode cX4_init 5 = .ok (.bipush 6, 2) := by decide +kernel
theorem dX4_init_7 : decode cX4_init 7 = .ok (.newarray .int, 2) := by decide +kernel
theorem dX4_init_9 : decode cX4_init 9 = .ok (.putfield 9, 3) := by decide +kernel
theorem dX4_init_12 : decode cX4_init 12 = .ok (.aload_n 0, 1) := by decide +kernel
theorem dX4_init_13 : decode cX4_init 13 = .ok (.bipush 6, 2) := by decide +kernel
theorem dX4_init_15 : decode cX4_init 15 = .ok (.newarray .int, 2) := by decide +kernel
theorem dX4_init_17 : decode cX4_init 17 = .ok (.putfield 15, 3) := by decide +kernel
theorem dX4_init_20 : decode cX4_init 20 = .ok (.return_, 1) := by decide +kernel
theorem dX4_note_0 : decode cX4_note 0 = .ok (.aload_n 0, 1) := by decide +kernel
theorem dX4_note_1 : decode cX4_note 1 = .ok (.getfield 18, 3) := by decide +kernel
theorem dX4_note_4 : decode cX4_note 4 = .ok (.ifCond .lt 42, 3) := by decide +kernel
theorem dX4_note_7 : decode cX4_note 7 = .ok (.aload_n 0, 1) := by decide +kernel
theorem dX4_note_8 : decode cX4_note 8 = .ok (.getfield 18, 3) := by decide +kernel
theorem dX4_note_11 : decode cX4_note 11 = .ok (.bipush 6, 2) := by decide +kernel
theorem dX4_note_13 : decode cX4_note 13 = .ok (.if_icmp .ge 33, 3) := by decide +kernel
theorem dX4_note_16 : decode cX4_note 16 = .ok (.aload_n 0, 1) := by decide +kernel
theorem dX4_note_17 : decode cX4_note 17 = .ok (.getfield 9, 3) := by decide +kernel
theorem dX4_note_20 : decode cX4_note 20 = .ok (.aload_n 0, 1) := by decide +kernel
theorem dX4_note_21 : decode cX4_note 21 = .ok (.getfield 18, 3) := by decide +kernel
theorem dX4_note_24 : decode cX4_note 24 = .ok (.iload_n 1, 1) := by decide +kernel
theorem dX4_note_25 : decode cX4_note 25 = .ok (.iastore, 1) := by decide +kernel
theorem dX4_note_26 : decode cX4_note 26 = .ok (.aload_n 0, 1) := by decide +kernel
theorem dX4_note_27 : decode cX4_note 27 = .ok (.getfield 15, 3) := by decide +kernel
theorem dX4_note_30 : decode cX4_note 30 = .ok (.aload_n 0, 1) := by decide +kernel
theorem dX4_note_31 : decode cX4_note 31 = .ok (.getfield 18, 3) := by decide +kernel
theorem dX4_note_34 : decode cX4_note 34 = .ok (.iload_n 2, 1) := by decide +kernel
theorem dX4_note_35 : decode cX4_note 35 = .ok (.iastore, 1) := by decide +kernel
theorem dX4_note_36 : decode cX4_note 36 = .ok (.aload_n 0, 1) := by decide +kernel
theorem dX4_note_37 : decode cX4_note 37 = .ok (.dup, 1) := by decide +kernel
theorem dX4_note_38 : decode cX4_note 38 = .ok (.getfield 18, 3) := by decide +kernel
theorem dX4_note_41 : decode cX4_note 41 = .ok (.iconst 1, 1) := by decide +kernel
theorem dX4_note_42 : decode cX4_note 42 = .ok (.iadd, 1) := by decide +kernel
theorem dX4_note_43 : decode cX4_note 43 = .ok (.putfield 18, 3) := by decide +kernel
theorem dX4_note_46 : decode cX4_note 46 = .ok (.return_, 1) := by decide +kernel
theorem dX4_sortsOf_0 : decode cX4_sortsOf 0 = .ok (.bipush 31, 2) := by decide +kernel
theorem dX4_sortsOf_2 : decode cX4_sortsOf 2 = .ok (.istore_n 2, 1) := by decide +kernel
theorem dX4_sortsOf_3 : decode cX4_sortsOf 3 = .ok (.iconst 0, 1) := by decide +kernel
theorem dX4_sortsOf_4 : decode cX4_sortsOf 4 = .ok (.istore_n 3, 1) := by decide +kernel
theorem dX4_sortsOf_5 : decode cX4_sortsOf 5 = .ok (.iload_n 3, 1) := by decide +kernel
theorem dX4_sortsOf_6 : decode cX4_sortsOf 6 = .ok (.aload_n 0, 1) := by decide +kernel
theorem dX4_sortsOf_7 : decode cX4_sortsOf 7 = .ok (.getfield 18, 3) := by decide +kernel
theorem dX4_sortsOf_10 : decode cX4_sortsOf 10 = .ok (.if_icmp .ge 28, 3) := by decide +kernel
theorem dX4_sortsOf_13 : decode cX4_sortsOf 13 = .ok (.aload_n 0, 1) := by decide +kernel
theorem dX4_sortsOf_14 : decode cX4_sortsOf 14 = .ok (.getfield 9, 3) := by decide +kernel
theorem dX4_sortsOf_17 : decode cX4_sortsOf 17 = .ok (.iload_n 3, 1) := by decide +kernel
theorem dX4_sortsOf_18 : decode cX4_sortsOf 18 = .ok (.iaload, 1) := by decide +kernel
theorem dX4_sortsOf_19 : decode cX4_sortsOf 19 = .ok (.iload_n 1, 1) := by decide +kernel
theorem dX4_sortsOf_20 : decode cX4_sortsOf 20 = .ok (.if_icmp .ne 12, 3) := by decide +kernel
theorem dX4_sortsOf_23 : decode cX4_sortsOf 23 = .ok (.iload_n 2, 1) := by decide +kernel
theorem dX4_sortsOf_24 : decode cX4_sortsOf 24 = .ok (.aload_n 0, 1) := by decide +kernel
theorem dX4_sortsOf_25 : decode cX4_sortsOf 25 = .ok (.getfield 15, 3) := by decide +kernel
theorem dX4_sortsOf_28 : decode cX4_sortsOf 28 = .ok (.iload_n 3, 1) := by decide +kernel
theorem dX4_sortsOf_29 : decode cX4_sortsOf 29 = .ok (.iaload, 1) := by decide +kernel
theorem dX4_sortsOf_30 : decode cX4_sortsOf 30 = .ok (.iand, 1) := by decide +kernel
theorem dX4_sortsOf_31 : decode cX4_sortsOf 31 = .ok (.istore_n 2, 1) := by decide +kernel
theorem dX4_sortsOf_32 : decode cX4_sortsOf 32 = .ok (.iinc 3 1, 3) := by decide +kernel
theorem dX4_sortsOf_35 : decode cX4_sortsOf 35 = .ok (.goto (-30), 3) := by decide +kernel
theorem dX4_sortsOf_38 : decode cX4_sortsOf 38 = .ok (.iload_n 2, 1) := by decide +kernel
theorem dX4_sortsOf_39 : decode cX4_sortsOf 39 = .ok (.ireturn, 1) := by decide +kernel
theorem dX4_copy_0 : decode cX4_copy 0 = .ok (.aload_n 0, 1) := by decide +kernel
theorem dX4_copy_1 : decode cX4_copy 1 = .ok (.aload_n 1, 1) := by decide +kernel
theorem dX4_copy_2 : decode cX4_copy 2 = .ok (.getfield 18, 3) := by decide +kernel
theorem dX4_copy_5 : decode cX4_copy 5 = .ok (.putfield 18, 3) := by decide +kernel
theorem dX4_copy_8 : decode cX4_copy 8 = .ok (.aload_n 1, 1) := by decide +kernel
theorem dX4_copy_9 : decode cX4_copy 9 = .ok (.getfield 9, 3) := by decide +kernel
theorem dX4_copy_12 : decode cX4_copy 12 = .ok (.iconst 0, 1) := by decide +kernel
theorem dX4_copy_13 : decode cX4_copy 13 = .ok (.aload_n 0, 1) := by decide +kernel
theorem dX4_copy_14 : decode cX4_copy 14 = .ok (.getfield 9, 3) := by decide +kernel
theorem dX4_copy_17 : decode cX4_copy 17 = .ok (.iconst 0, 1) := by decide +kernel
theorem dX4_copy_18 : decode cX4_copy 18 = .ok (.bipush 6, 2) := by decide +kernel
theorem dX4_copy_20 : decode cX4_copy 20 = .ok (.invokestatic 22, 3) := by decide +kernel
theorem dX4_copy_23 : decode cX4_copy 23 = .ok (.aload_n 1, 1) := by decide +kernel
theorem dX4_copy_24 : decode cX4_copy 24 = .ok (.getfield 15, 3) := by decide +kernel
theorem dX4_copy_27 : decode cX4_copy 27 = .ok (.iconst 0, 1) := by decide +kernel
theorem dX4_copy_28 : decode cX4_copy 28 = .ok (.aload_n 0, 1) := by decide +kernel
theorem dX4_copy_29 : decode cX4_copy 29 = .ok (.getfield 15, 3) := by decide +kernel
theorem dX4_copy_32 : decode cX4_copy 32 = .ok (.iconst 0, 1) := by decide +kernel
theorem dX4_copy_33 : decode cX4_copy 33 = .ok (.bipush 6, 2) := by decide +kernel
theorem dX4_copy_35 : decode cX4_copy 35 = .ok (.invokestatic 22, 3) := by decide +kernel
theorem dX4_copy_38 : decode cX4_copy 38 = .ok (.return_, 1) := by decide +kernel
theorem dX5_init_0 : decode cX5_init 0 = .ok (.aload_n 0, 1) := by decide +kernel
theorem dX5_init_1 : decode cX5_init 1 = .ok (.invokespecial 3, 3) := by decide +kernel
theorem dX5_init_4 : decode cX5_init 4 = .ok (.return_, 1) := by decide +kernel
theorem dX5_isOf_0 : decode cX5_isOf 0 = .ok (.iload_n 1, 1) := by decide +kernel
theorem dX5_isOf_1 : decode cX5_isOf 1 = .ok (.ifCond .eq 24, 3) := by decide +kernel
theorem dX5_isOf_4 : decode cX5_isOf 4 = .ok (.iload_n 1, 1) := by decide +kernel
theorem dX5_isOf_5 : decode cX5_isOf 5 = .ok (.aload_n 0, 1) := by decide +kernel
theorem dX5_isOf_6 : decode cX5_isOf 6 = .ok (.getfield 9, 3) := by decide +kernel
theorem dX5_isOf_9 : decode cX5_isOf 9 = .ok (.if_icmp .eq 16, 3) := by decide +kernel
theorem dX5_isOf_12 : decode cX5_isOf 12 = .ok (.iload_n 1, 1) := by decide +kernel
theorem dX5_isOf_13 : decode cX5_isOf 13 = .ok (.iconst 1, 1) := by decide +kernel
theorem dX5_isOf_14 : decode cX5_isOf 14 = .ok (.if_icmp .ne 15, 3) := by decide +kernel
theorem dX5_isOf_17 : decode cX5_isOf 17 = .ok (.aload_n 0, 1) := by decide +kernel
theorem dX5_isOf_18 : decode cX5_isOf 18 = .ok (.getfield 9, 3) := by decide +kernel
theorem dX5_isOf_21 : decode cX5_isOf 21 = .ok (.iconst 2, 1) := by decide +kernel
theorem dX5_isOf_22 : decode cX5_isOf 22 = .ok (.if_icmp .ne 7, 3) := by decide +kernel
theorem dX5_isOf_25 : decode cX5_isOf 25 = .ok (.iconst 1, 1) := by decide +kernel
theorem dX5_isOf_26 : decode cX5_isOf 26 = .ok (.goto 4, 3) := by decide +kernel
theorem dX5_isOf_29 : decode cX5_isOf 29 = .ok (.iconst 0, 1) := by decide +kernel
theorem dX5_isOf_30 : decode cX5_isOf 30 = .ok (.ireturn, 1) := by decide +kernel
theorem dX5_copy_0 : decode cX5_copy 0 = .ok (.aload_n 0, 1) := by decide +kernel
theorem dX5_copy_1 : decode cX5_copy 1 = .ok (.aload_n 1, 1) := by decide +kernel
theorem dX5_copy_2 : decode cX5_copy 2 = .ok (.getfield 9, 3) := by decide +kernel
theorem dX5_copy_5 : decode cX5_copy 5 = .ok (.putfield 9, 3) := by decide +kernel
theorem dX5_copy_8 : decode cX5_copy 8 = .ok (.aload_n 0, 1) := by decide +kernel
theorem dX5_copy_9 : decode cX5_copy 9 = .ok (.aload_n 1, 1) := by decide +kernel
theorem dX5_copy_10 : decode cX5_copy 10 = .ok (.getfield 15, 3) := by decide +kernel
theorem dX5_copy_13 : decode cX5_copy 13 = .ok (.putfield 15, 3) := by decide +kernel
theorem dX5_copy_16 : decode cX5_copy 16 = .ok (.aload_n 0, 1) := by decide +kernel
theorem dX5_copy_17 : decode cX5_copy 17 = .ok (.aload_n 1, 1) := by decide +kernel
theorem dX5_copy_18 : decode cX5_copy 18 = .ok (.getfield 18, 3) := by decide +kernel
theorem dX5_copy_21 : decode cX5_copy 21 = .ok (.putfield 18, 3) := by decide +kernel
theorem dX5_copy_24 : decode cX5_copy 24 = .ok (.aload_n 0, 1) := by decide +kernel
theorem dX5_copy_25 : decode cX5_copy 25 = .ok (.aload_n 1, 1) := by decide +kernel
theorem dX5_copy_26 : decode cX5_copy 26 = .ok (.getfield 21, 3) := by decide +kernel
theorem dX5_copy_29 : decode cX5_copy 29 = .ok (.putfield 21, 3) := by decide +kernel
theorem dX5_copy_32 : decode cX5_copy 32 = .ok (.aload_n 0, 1) := by decide +kernel
theorem dX5_copy_33 : decode cX5_copy 33 = .ok (.aload_n 1, 1) := by decide +kernel
theorem dX5_copy_34 : decode cX5_copy 34 = .ok (.getfield 24, 3) := by decide +kernel
theorem dX5_copy_37 : decode cX5_copy 37 = .ok (.putfield 24, 3) := by decide +kernel
theorem dX5_copy_40 : decode cX5_copy 40 = .ok (.aload_n 0, 1) := by decide +kernel
theorem dX5_copy_41 : decode cX5_copy 41 = .ok (.aload_n 1, 1) := by decide +kernel
theorem dX5_copy_42 : decode cX5_copy 42 = .ok (.getfield 27, 3) := by decide +kernel
theorem dX5_copy_45 : decode cX5_copy 45 = .ok (.putfield 27, 3) := by decide +kernel
theorem dX5_copy_48 : decode cX5_copy 48 = .ok (.return_, 1) := by decide +kernel
theorem dX5_read_0 : decode cX5_read 0 = .ok (.iload_n 2, 1) := by decide +kernel
theorem dX5_read_1 : decode cX5_read 1 = .ok (.ifCond .lt 12, 3) := by decide +kernel
theorem dX5_read_4 : decode cX5_read 4 = .ok (.iload_n 2, 1) := by decide +kernel
theorem dX5_read_5 : decode cX5_read 5 = .ok (.bipush 7, 2) := by decide +kernel
theorem dX5_read_7 : decode cX5_read 7 = .ok (.iadd, 1) := by decide +kernel
theorem dX5_read_8 : decode cX5_read 8 = .ok (.bipush 40, 2) := by decide +kernel
theorem dX5_read_10 : decode cX5_read 10 = .ok (.if_icmp .le 4, 3) := by decide +kernel
theorem dX5_read_13 : decode cX5_read 13 = .ok (.return_, 1) := by decide +kernel
theorem dX5_read_14 : decode cX5_read 14 = .ok (.aload_n 0, 1) := by decide +kernel
theorem dX5_read_15 : decode cX5_read 15 = .ok (.ldc 32, 2) := by decide +kernel
theorem dX5_read_17 : decode cX5_read 17 = .ok (.aload_n 1, 1) := by decide +kernel
theorem dX5_read_18 : decode cX5_read 18 = .ok (.getfield 34, 3) := by decide +kernel
theorem dX5_read_21 : decode cX5_read 21 = .ok (.iload_n 2, 1) := by decide +kernel
theorem dX5_read_22 : decode cX5_read 22 = .ok (.iaload, 1) := by decide +kernel
theorem dX5_read_23 : decode cX5_read 23 = .ok (.i2c, 1) := by decide +kernel
theorem dX5_read_24 : decode cX5_read 24 = .ok (.invokevirtual 38, 3) := by decide +kernel
theorem dX5_read_27 : decode cX5_read 27 = .ok (.putfield 9, 3) := by decide +kernel
theorem dX5_read_30 : decode cX5_read 30 = .ok (.aload_n 0, 1) := by decide +kernel
theorem dX5_read_31 : decode cX5_read 31 = .ok (.aload_n 1, 1) := by decide +kernel
theorem dX5_read_32 : decode cX5_read 32 = .ok (.getfield 34, 3) := by decide +kernel
theorem dX5_read_35 : decode cX5_read 35 = .ok (.iload_n 2, 1) := by decide +kernel
theorem dX5_read_36 : decode cX5_read 36 = .ok (.iconst 1, 1) := by decide +kernel
theorem dX5_read_37 : decode cX5_read 37 = .ok (.iadd, 1) := by decide +kernel
theorem dX5_read_38 : decode cX5_read 38 = .ok (.iaload, 1) := by decide +kernel
theorem dX5_read_39 : decode cX5_read 39 = .ok (.bipush 48, 2) := by decide +kernel
theorem dX5_read_41 : decode cX5_read 41 = .ok (.isub, 1) := by decide +kernel
theorem dX5_read_42 : decode cX5_read 42 = .ok (.putfield 15, 3) := by decide +kernel
theorem dX5_read_45 : decode cX5_read 45 = .ok (.aload_n 0, 1) := by decide +kernel
theorem dX5_read_46 : decode cX5_read 46 = .ok (.aload_n 1, 1) := by decide +kernel
theorem dX5_read_47 : decode cX5_read 47 = .ok (.getfield 34, 3) := by decide +kernel
theorem dX5_read_50 : decode cX5_read 50 = .ok (.iload_n 2, 1) := by decide +kernel
theorem dX5_read_51 : decode cX5_read 51 = .ok (.iconst 2, 1) := by decide +kernel
theorem dX5_read_52 : decode cX5_read 52 = .ok (.iadd, 1) := by decide +kernel
theorem dX5_read_53 : decode cX5_read 53 = .ok (.iaload, 1) := by decide +kernel
theorem dX5_read_54 : decode cX5_read 54 = .ok (.bipush 48, 2) := by decide +kernel
theorem dX5_read_56 : decode cX5_read 56 = .ok (.isub, 1) := by decide +kernel
theorem dX5_read_57 : decode cX5_read 57 = .ok (.putfield 18, 3) := by decide +kernel
theorem dX5_read_60 : decode cX5_read 60 = .ok (.aload_n 0, 1) := by decide +kernel
theorem dX5_read_61 : decode cX5_read 61 = .ok (.aload_n 1, 1) := by decide +kernel
theorem dX5_read_62 : decode cX5_read 62 = .ok (.getfield 34, 3) := by decide +kernel
theorem dX5_read_65 : decode cX5_read 65 = .ok (.iload_n 2, 1) := by decide +kernel
theorem dX5_read_66 : decode cX5_read 66 = .ok (.iconst 3, 1) := by decide +kernel
theorem dX5_read_67 : decode cX5_read 67 = .ok (.iadd, 1) := by decide +kernel
theorem dX5_read_68 : decode cX5_read 68 = .ok (.iaload, 1) := by decide +kernel
theorem dX5_read_69 : decode cX5_read 69 = .ok (.bipush 97, 2) := by decide +kernel
theorem dX5_read_71 : decode cX5_read 71 = .ok (.isub, 1) := by decide +kernel
theorem dX5_read_72 : decode cX5_read 72 = .ok (.putfield 21, 3) := by decide +kernel
theorem dX5_read_75 : decode cX5_read 75 = .ok (.aload_n 0, 1) := by decide +kernel
theorem dX5_read_76 : decode cX5_read 76 = .ok (.aload_n 1, 1) := by decide +kernel
theorem dX5_read_77 : decode cX5_read 77 = .ok (.getfield 34, 3) := by decide +kernel
theorem dX5_read_80 : decode cX5_read 80 = .ok (.iload_n 2, 1) := by decide +kernel
theorem dX5_read_81 : decode cX5_read 81 = .ok (.iconst 4, 1) := by decide +kernel
theorem dX5_read_82 : decode cX5_read 82 = .ok (.iadd, 1) := by decide +kernel
theorem dX5_read_83 : decode cX5_read 83 = .ok (.iaload, 1) := by decide +kernel
theorem dX5_read_84 : decode cX5_read 84 = .ok (.bipush 97, 2) := by decide +kernel
theorem dX5_read_86 : decode cX5_read 86 = .ok (.isub, 1) := by decide +kernel
theorem dX5_read_87 : decode cX5_read 87 = .ok (.putfield 24, 3) := by decide +kernel
theorem dX5_read_90 : decode cX5_read 90 = .ok (.aload_n 0, 1) := by decide +kernel
theorem dX5_read_91 : decode cX5_read 91 = .ok (.aload_n 1, 1) := by decide +kernel
theorem dX5_read_92 : decode cX5_read 92 = .ok (.getfield 34, 3) := by decide +kernel
theorem dX5_read_95 : decode cX5_read 95 = .ok (.iload_n 2, 1) := by decide +kernel
theorem dX5_read_96 : decode cX5_read 96 = .ok (.iconst 5, 1) := by decide +kernel
theorem dX5_read_97 : decode cX5_read 97 = .ok (.iadd, 1) := by decide +kernel
theorem dX5_read_98 : decode cX5_read 98 = .ok (.iaload, 1) := by decide +kernel
theorem dX5_read_99 : decode cX5_read 99 = .ok (.bipush 48, 2) := by decide +kernel
theorem dX5_read_101 : decode cX5_read 101 = .ok (.isub, 1) := by decide +kernel
theorem dX5_read_102 : decode cX5_read 102 = .ok (.putfield 27, 3) := by decide +kernel
theorem dX5_read_105 : decode cX5_read 105 = .ok (.return_, 1) := by decide +kernel
theorem dX6_init_0 : decode cX6_init 0 = .ok (.aload_n 0, 1) := by decide +kernel
theorem dX6_init_1 : decode cX6_init 1 = .ok (.invokespecial 3, 3) := by decide +kernel
theorem dX6_init_4 : decode cX6_init 4 = .ok (.aload_n 0, 1) := by decide +kernel
theorem dX6_init_5 : decode cX6_init 5 = .ok (.iconst 5, 1) := by decide +kernel
theorem dX6_init_6 : decode cX6_init 6 = .ok (.anewarray 9, 3) := by decide +kernel
theorem dX6_init_9 : decode cX6_init 9 = .ok (.putfield 11, 3) := by decide +kernel
theorem dX6_init_12 : decode cX6_init 12 = .ok (.iconst 0, 1) := by decide +kernel
theorem dX6_init_13 : decode cX6_init 13 = .ok (.istore_n 1, 1) := by decide +kernel
theorem dX6_init_14 : decode cX6_init 14 = .ok (.iload_n 1, 1) := by decide +kernel
theorem dX6_init_15 : decode cX6_init 15 = .ok (.iconst 5, 1) := by decide +kernel
theorem dX6_init_16 : decode cX6_init 16 = .ok (.if_icmp .ge 22, 3) := by decide +kernel
theorem dX6_init_19 : decode cX6_init 19 = .ok (.aload_n 0, 1) := by decide +kernel
theorem dX6_init_20 : decode cX6_init 20 = .ok (.getfield 11, 3) := by decide +kernel
theorem dX6_init_23 : decode cX6_init 23 = .ok (.iload_n 1, 1) := by decide +kernel
theorem dX6_init_24 : decode cX6_init 24 = .ok (.new 9, 3) := by decide +kernel
theorem dX6_init_27 : decode cX6_init 27 = .ok (.dup, 1) := by decide +kernel
theorem dX6_init_28 : decode cX6_init 28 = .ok (.invokespecial 17, 3) := by decide +kernel
theorem dX6_init_31 : decode cX6_init 31 = .ok (.aastore, 1) := by decide +kernel
theorem dX6_init_32 : decode cX6_init 32 = .ok (.iinc 1 1, 3) := by decide +kernel
theorem dX6_init_35 : decode cX6_init 35 = .ok (.goto (-21), 3) := by decide +kernel
theorem dX6_init_38 : decode cX6_init 38 = .ok (.return_, 1) := by decide +kernel
theorem dX6_has_0 : decode cX6_has 0 = .ok (.iload_n 1, 1) := by decide +kernel
theorem dX6_has_1 : decode cX6_has 1 = .ok (.ifCond .lt 15, 3) := by decide +kernel
theorem dX6_has_4 : decode cX6_has 4 = .ok (.iload_n 1, 1) := by decide +kernel
theorem dX6_has_5 : decode cX6_has 5 = .ok (.aload_n 0, 1) := by decide +kernel
theorem dX6_has_6 : decode cX6_has 6 = .ok (.getfield 18, 3) := by decide +kernel
theorem dX6_has_9 : decode cX6_has 9 = .ok (.if_icmp .ge 7, 3) := by decide +kernel
theorem dX6_has_12 : decode cX6_has 12 = .ok (.iconst 1, 1) := by decide +kernel
theorem dX6_has_13 : decode cX6_has 13 = .ok (.goto 4, 3) := by decide +kernel
theorem dX6_has_16 : decode cX6_has 16 = .ok (.iconst 0, 1) := by decide +kernel
theorem dX6_has_17 : decode cX6_has 17 = .ok (.ireturn, 1) := by decide +kernel
theorem dX6_at_0 : decode cX6_at 0 = .ok (.aload_n 0, 1) := by decide +kernel
theorem dX6_at_1 : decode cX6_at 1 = .ok (.getfield 11, 3) := by decide +kernel
theorem dX6_at_4 : decode cX6_at 4 = .ok (.iload_n 1, 1) := by decide +kernel
theorem dX6_at_5 : decode cX6_at 5 = .ok (.aaload, 1) := by decide +kernel
theorem dX6_at_6 : decode cX6_at 6 = .ok (.areturn, 1) := by decide +kernel
theorem dX6_append_0 : decode cX6_append 0 = .ok (.aload_n 0, 1) := by decide +kernel
theorem dX6_append_1 : decode cX6_append 1 = .ok (.getfield 18, 3) := by decide +kernel
theorem dX6_append_4 : decode cX6_append 4 = .ok (.iconst 5, 1) := by decide +kernel
theorem dX6_append_5 : decode cX6_append 5 = .ok (.if_icmp .lt 4, 3) := by decide +kernel
theorem dX6_append_8 : decode cX6_append 8 = .ok (.return_, 1) := by decide +kernel
theorem dX6_append_9 : decode cX6_append 9 = .ok (.aload_n 0, 1) := by decide +kernel
theorem dX6_append_10 : decode cX6_append 10 = .ok (.getfield 11, 3) := by decide +kernel
theorem dX6_append_13 : decode cX6_append 13 = .ok (.aload_n 0, 1) := by decide +kernel
theorem dX6_append_14 : decode cX6_append 14 = .ok (.getfield 18, 3) := by decide +kernel
theorem dX6_append_17 : decode cX6_append 17 = .ok (.aaload, 1) := by decide +kernel
theorem dX6_append_18 : decode cX6_append 18 = .ok (.astore 4, 2) := by decide +kernel
theorem dX6_append_20 : decode cX6_append 20 = .ok (.aload 4, 2) := by decide +kernel
theorem dX6_append_22 : decode cX6_append 22 = .ok (.iload_n 1, 1) := by decide +kernel
theorem dX6_append_23 : decode cX6_append 23 = .ok (.putfield 22, 3) := by decide +kernel
theorem dX6_append_26 : decode cX6_append 26 = .ok (.aload 4, 2) := by decide +kernel
theorem dX6_append_28 : decode cX6_append 28 = .ok (.iload_n 2, 1) := by decide +kernel
theorem dX6_append_29 : decode cX6_append 29 = .ok (.putfield 25, 3) := by decide +kernel
theorem dX6_append_32 : decode cX6_append 32 = .ok (.aload 4, 2) := by decide +kernel
theorem dX6_append_34 : decode cX6_append 34 = .ok (.iload_n 3, 1) := by decide +kernel
theorem dX6_append_35 : decode cX6_append 35 = .ok (.putfield 28, 3) := by decide +kernel
theorem dX6_append_38 : decode cX6_append 38 = .ok (.aload 4, 2) := by decide +kernel
theorem dX6_append_40 : decode cX6_append 40 = .ok (.iconst 0, 1) := by decide +kernel
theorem dX6_append_41 : decode cX6_append 41 = .ok (.putfield 31, 3) := by decide +kernel
theorem dX6_append_44 : decode cX6_append 44 = .ok (.aload 4, 2) := by decide +kernel
theorem dX6_append_46 : decode cX6_append 46 = .ok (.bipush 11, 2) := by decide +kernel
theorem dX6_append_48 : decode cX6_append 48 = .ok (.putfield 34, 3) := by decide +kernel
theorem dX6_append_51 : decode cX6_append 51 = .ok (.aload 4, 2) := by decide +kernel
theorem dX6_append_53 : decode cX6_append 53 = .ok (.iconst 5, 1) := by decide +kernel
theorem dX6_append_54 : decode cX6_append 54 = .ok (.putfield 37, 3) := by decide +kernel
theorem dX6_append_57 : decode cX6_append 57 = .ok (.aload_n 0, 1) := by decide +kernel
theorem dX6_append_58 : decode cX6_append 58 = .ok (.dup, 1) := by decide +kernel
theorem dX6_append_59 : decode cX6_append 59 = .ok (.getfield 18, 3) := by decide +kernel
theorem dX6_append_62 : decode cX6_append 62 = .ok (.iconst 1, 1) := by decide +kernel
theorem dX6_append_63 : decode cX6_append 63 = .ok (.iadd, 1) := by decide +kernel
theorem dX6_append_64 : decode cX6_append 64 = .ok (.putfield 18, 3) := by decide +kernel
theorem dX6_append_67 : decode cX6_append 67 = .ok (.return_, 1) := by decide +kernel
theorem dX6_read_0 : decode cX6_read 0 = .ok (.aload_n 0, 1) := by decide +kernel
theorem dX6_read_1 : decode cX6_read 1 = .ok (.aload_n 1, 1) := by decide +kernel
theorem dX6_read_2 : decode cX6_read 2 = .ok (.getfield 40, 3) := by decide +kernel
theorem dX6_read_5 : decode cX6_read 5 = .ok (.iconst 1, 1) := by decide +kernel
theorem dX6_read_6 : decode cX6_read 6 = .ok (.iadd, 1) := by decide +kernel
theorem dX6_read_7 : decode cX6_read 7 = .ok (.bipush 7, 2) := by decide +kernel
theorem dX6_read_9 : decode cX6_read 9 = .ok (.idiv, 1) := by decide +kernel
theorem dX6_read_10 : decode cX6_read 10 = .ok (.iconst 5, 1) := by decide +kernel
theorem dX6_read_11 : decode cX6_read 11 = .ok (.invokestatic 45, 3) := by decide +kernel
theorem dX6_read_14 : decode cX6_read 14 = .ok (.putfield 18, 3) := by decide +kernel
theorem dX6_read_17 : decode cX6_read 17 = .ok (.iconst 0, 1) := by decide +kernel
theorem dX6_read_18 : decode cX6_read 18 = .ok (.istore_n 2, 1) := by decide +kernel
theorem dX6_read_19 : decode cX6_read 19 = .ok (.iload_n 2, 1) := by decide +kernel
theorem dX6_read_20 : decode cX6_read 20 = .ok (.aload_n 0, 1) := by decide +kernel
theorem dX6_read_21 : decode cX6_read 21 = .ok (.getfield 18, 3) := by decide +kernel
theorem dX6_read_24 : decode cX6_read 24 = .ok (.if_icmp .ge 23, 3) := by decide +kernel
theorem dX6_read_27 : decode cX6_read 27 = .ok (.aload_n 0, 1) := by decide +kernel
theorem dX6_read_28 : decode cX6_read 28 = .ok (.getfield 11, 3) := by decide +kernel
theorem dX6_read_31 : decode cX6_read 31 = .ok (.iload_n 2, 1) := by decide +kernel
theorem dX6_read_32 : decode cX6_read 32 = .ok (.aaload, 1) := by decide +kernel
theorem dX6_read_33 : decode cX6_read 33 = .ok (.aload_n 1, 1) := by decide +kernel
theorem dX6_read_34 : decode cX6_read 34 = .ok (.iload_n 2, 1) := by decide +kernel
theorem dX6_read_35 : decode cX6_read 35 = .ok (.bipush 7, 2) := by decide +kernel
theorem dX6_read_37 : decode cX6_read 37 = .ok (.imul, 1) := by decide +kernel
theorem dX6_read_38 : decode cX6_read 38 = .ok (.invokevirtual 51, 3) := by decide +kernel
theorem dX6_read_41 : decode cX6_read 41 = .ok (.iinc 2 1, 3) := by decide +kernel
theorem dX6_read_44 : decode cX6_read 44 = .ok (.goto (-25), 3) := by decide +kernel
theorem dX6_read_47 : decode cX6_read 47 = .ok (.return_, 1) := by decide +kernel
theorem dX6_copy_0 : decode cX6_copy 0 = .ok (.aload_n 0, 1) := by decide +kernel
theorem dX6_copy_1 : decode cX6_copy 1 = .ok (.aload_n 1, 1) := by decide +kernel
theorem dX6_copy_2 : decode cX6_copy 2 = .ok (.getfield 18, 3) := by decide +kernel
theorem dX6_copy_5 : decode cX6_copy 5 = .ok (.putfield 18, 3) := by decide +kernel
theorem dX6_copy_8 : decode cX6_copy 8 = .ok (.iconst 0, 1) := by decide +kernel
theorem dX6_copy_9 : decode cX6_copy 9 = .ok (.istore_n 2, 1) := by decide +kernel
theorem dX6_copy_10 : decode cX6_copy 10 = .ok (.iload_n 2, 1) := by decide +kernel
theorem dX6_copy_11 : decode cX6_copy 11 = .ok (.iconst 5, 1) := by decide +kernel
theorem dX6_copy_12 : decode cX6_copy 12 = .ok (.if_icmp .ge 24, 3) := by decide +kernel
theorem dX6_copy_15 : decode cX6_copy 15 = .ok (.aload_n 0, 1) := by decide +kernel
theorem dX6_copy_16 : decode cX6_copy 16 = .ok (.getfield 11, 3) := by decide +kernel
theorem dX6_copy_19 : decode cX6_copy 19 = .ok (.iload_n 2, 1) := by decide +kernel
theorem dX6_copy_20 : decode cX6_copy 20 = .ok (.aaload, 1) := by decide +kernel
theorem dX6_copy_21 : decode cX6_copy 21 = .ok (.aload_n 1, 1) := by decide +kernel
theorem dX6_copy_22 : decode cX6_copy 22 = .ok (.getfield 11, 3) := by decide +kernel
theorem dX6_copy_25 : decode cX6_copy 25 = .ok (.iload_n 2, 1) := by decide +kernel
theorem dX6_copy_26 : decode cX6_copy 26 = .ok (.aaload, 1) := by decide +kernel
theorem dX6_copy_27 : decode cX6_copy 27 = .ok (.invokevirtual 55, 3) := by decide +kernel
theorem dX6_copy_30 : decode cX6_copy 30 = .ok (.iinc 2 1, 3) := by decide +kernel
theorem dX6_copy_33 : decode cX6_copy 33 = .ok (.goto (-23), 3) := by decide +kernel
theorem dX6_copy_36 : decode cX6_copy 36 = .ok (.return_, 1) := by decide +kernel
theorem dX7_init_0 : decode cX7_init 0 = .ok (.aload_n 0, 1) := by decide +kernel
theorem dX7_init_1 : decode cX7_init 1 = .ok (.invokespecial 1, 3) := by decide +kernel
theorem dX7_init_4 : decode cX7_init 4 = .ok (.aload_n 0, 1) := by decide +kernel
theorem dX7_init_5 : decode cX7_init 5 = .ok (.new 7, 3) := by decide +kernel
theorem dX7_init_8 : decode cX7_init 8 = .ok (.dup, 1) := by decide +kernel
theorem dX7_init_9 : decode cX7_init 9 = .ok (.invokespecial 9, 3) := by decide +kernel
theorem dX7_init_12 : decode cX7_init 12 = .ok (.putfield 10, 3) := by decide +kernel
theorem dX7_init_15 : decode cX7_init 15 = .ok (.aload_n 0, 1) := by decide +kernel
theorem dX7_init_16 : decode cX7_init 16 = .ok (.new 16, 3) := by decide +kernel
theorem dX7_init_19 : decode cX7_init 19 = .ok (.dup, 1) := by decide +kernel
theorem dX7_init_20 : decode cX7_init 20 = .ok (.invokespecial 18, 3) := by decide +kernel
theorem dX7_init_23 : decode cX7_init 23 = .ok (.putfield 19, 3) := by decide +kernel
theorem dX7_init_26 : decode cX7_init 26 = .ok (.aload_n 0, 1) := by decide +kernel
theorem dX7_init_27 : decode cX7_init 27 = .ok (.new 16, 3) := by decide +kernel
theorem dX7_init_30 : decode cX7_init 30 = .ok (.dup, 1) := by decide +kernel
theorem dX7_init_31 : decode cX7_init 31 = .ok (.invokespecial 18, 3) := by decide +kernel
theorem dX7_init_34 : decode cX7_init 34 = .ok (.putfield 23, 3) := by decide +kernel
theorem dX7_init_37 : decode cX7_init 37 = .ok (.aload_n 0, 1) := by decide +kernel
theorem dX7_init_38 : decode cX7_init 38 = .ok (.new 26, 3) := by decide +kernel
theorem dX7_init_41 : decode cX7_init 41 = .ok (.dup, 1) := by decide +kernel
theorem dX7_init_42 : decode cX7_init 42 = .ok (.aload_n 0, 1) := by decide +kernel
theorem dX7_init_43 : decode cX7_init 43 = .ok (.getfield 19, 3) := by decide +kernel
theorem dX7_init_46 : decode cX7_init 46 = .ok (.getfield 28, 3) := by decide +kernel
theorem dX7_init_49 : decode cX7_init 49 = .ok (.invokespecial 32, 3) := by decide +kernel
theorem dX7_init_52 : decode cX7_init 52 = .ok (.putfield 35, 3) := by decide +kernel
theorem dX7_init_55 : decode cX7_init 55 = .ok (.aload_n 0, 1) := by decide +kernel
theorem dX7_init_56 : decode cX7_init 56 = .ok (.new 39, 3) := by decide +kernel
theorem dX7_init_59 : decode cX7_init 59 = .ok (.dup, 1) := by decide +kernel
theorem dX7_init_60 : decode cX7_init 60 = .ok (.aload_n 0, 1) := by decide +kernel
theorem dX7_init_61 : decode cX7_init 61 = .ok (.getfield 19, 3) := by decide +kernel
theorem dX7_init_64 : decode cX7_init 64 = .ok (.getfield 28, 3) := by decide +kernel
theorem dX7_init_67 : decode cX7_init 67 = .ok (.aload_n 0, 1) := by decide +kernel
theorem dX7_init_68 : decode cX7_init 68 = .ok (.getfield 35, 3) := by decide +kernel
theorem dX7_init_71 : decode cX7_init 71 = .ok (.invokespecial 41, 3) := by decide +kernel
theorem dX7_init_74 : decode cX7_init 74 = .ok (.putfield 44, 3) := by decide +kernel
theorem dX7_init_77 : decode cX7_init 77 = .ok (.return_, 1) := by decide +kernel
theorem dX7_letter_0 : decode cX7_letter 0 = .ok (.iload_n 1, 1) := by decide +kernel
theorem dX7_letter_1 : decode cX7_letter 1 = .ok (.bipush 32, 2) := by decide +kernel
theorem dX7_letter_3 : decode cX7_letter 3 = .ok (.if_icmp .lt 9, 3) := by decide +kernel
theorem dX7_letter_6 : decode cX7_letter 6 = .ok (.iload_n 1, 1) := by decide +kernel
theorem dX7_letter_7 : decode cX7_letter 7 = .ok (.bipush 126, 2) := by decide +kernel
theorem dX7_letter_9 : decode cX7_letter 9 = .ok (.if_icmp .le 6, 3) := by decide +kernel
theorem dX7_letter_12 : decode cX7_letter 12 = .ok (.bipush (-102), 2) := by decide +kernel
theorem dX7_letter_14 : decode cX7_letter 14 = .ok (.ireturn, 1) := by decide +kernel
theorem dX7_letter_15 : decode cX7_letter 15 = .ok (.aload_n 0, 1) := by decide +kernel
theorem dX7_letter_16 : decode cX7_letter 16 = .ok (.getfield 10, 3) := by decide +kernel
theorem dX7_letter_19 : decode cX7_letter 19 = .ok (.getfield 48, 3) := by decide +kernel
theorem dX7_letter_22 : decode cX7_letter 22 = .ok (.bipush 40, 2) := by decide +kernel
theorem dX7_letter_24 : decode cX7_letter 24 = .ok (.if_icmp .lt 6, 3) := by decide +kernel
theorem dX7_letter_27 : decode cX7_letter 27 = .ok (.bipush (-104), 2) := by decide +kernel
theorem dX7_letter_29 : decode cX7_letter 29 = .ok (.ireturn, 1) := by decide +kernel
theorem dX7_letter_30 : decode cX7_letter 30 = .ok (.aload_n 0, 1) := by decide +kernel
theorem dX7_letter_31 : decode cX7_letter 31 = .ok (.getfield 10, 3) := by decide +kernel
theorem dX7_letter_34 : decode cX7_letter 34 = .ok (.iload_n 1, 1) := by decide +kernel
theorem dX7_letter_35 : decode cX7_letter 35 = .ok (.invokevirtual 52, 3) := by decide +kernel
theorem dX7_letter_38 : decode cX7_letter 38 = .ok (.aload_n 0, 1) := by decide +kernel
theorem dX7_letter_39 : decode cX7_letter 39 = .ok (.getfield 10, 3) := by decide +kernel
theorem dX7_letter_42 : decode cX7_letter 42 = .ok (.getfield 48, 3) := by decide +kernel
theorem dX7_letter_45 : decode cX7_letter 45 = .ok (.ireturn, 1) := by decide +kernel
theorem dX7_blank_0 : decode cX7_blank 0 = .ok (.aload_n 0, 1) := by decide +kernel
theorem dX7_blank_1 : decode cX7_blank 1 = .ok (.getfield 10, 3) := by decide +kernel
theorem dX7_blank_4 : decode cX7_blank 4 = .ok (.getfield 48, 3) := by decide +kernel
theorem dX7_blank_7 : decode cX7_blank 7 = .ok (.istore_n 1, 1) := by decide +kernel
theorem dX7_blank_8 : decode cX7_blank 8 = .ok (.aload_n 0, 1) := by decide +kernel
theorem dX7_blank_9 : decode cX7_blank 9 = .ok (.getfield 10, 3) := by decide +kernel
theorem dX7_blank_12 : decode cX7_blank 12 = .ok (.iconst 0, 1) := by decide +kernel
theorem dX7_blank_13 : decode cX7_blank 13 = .ok (.putfield 48, 3) := by decide +kernel
theorem dX7_blank_16 : decode cX7_blank 16 = .ok (.iload_n 1, 1) := by decide +kernel
theorem dX7_blank_17 : decode cX7_blank 17 = .ok (.ireturn, 1) := by decide +kernel
theorem dX7_fault_0 : decode cX7_fault 0 = .ok (.aload_n 0, 1) := by decide +kernel
theorem dX7_fault_1 : decode cX7_fault 1 = .ok (.getfield 10, 3) := by decide +kernel
theorem dX7_fault_4 : decode cX7_fault 4 = .ok (.invokevirtual 56, 3) := by decide +kernel
theorem dX7_fault_7 : decode cX7_fault 7 = .ok (.ireturn, 1) := by decide +kernel
theorem dX7_house_0 : decode cX7_house 0 = .ok (.aload_n 0, 1) := by decide +kernel
theorem dX7_house_1 : decode cX7_house 1 = .ok (.getfield 10, 3) := by decide +kernel
theorem dX7_house_4 : decode cX7_house 4 = .ok (.invokevirtual 60, 3) := by decide +kernel
theorem dX7_house_7 : decode cX7_house 7 = .ok (.ifCond .ne 6, 3) := by decide +kernel
theorem dX7_house_10 : decode cX7_house 10 = .ok (.bipush (-103), 2) := by decide +kernel
theorem dX7_house_12 : decode cX7_house 12 = .ok (.ireturn, 1) := by decide +kernel
theorem dX7_house_13 : decode cX7_house 13 = .ok (.aload_n 0, 1) := by decide +kernel
theorem dX7_house_14 : decode cX7_house 14 = .ok (.getfield 19, 3) := by decide +kernel
theorem dX7_house_17 : decode cX7_house 17 = .ok (.getfield 28, 3) := by decide +kernel
theorem dX7_house_20 : decode cX7_house 20 = .ok (.aload_n 0, 1) := by decide +kernel
theorem dX7_house_21 : decode cX7_house 21 = .ok (.getfield 10, 3) := by decide +kernel
theorem dX7_house_24 : decode cX7_house 24 = .ok (.invokevirtual 64, 3) := by decide +kernel
theorem dX7_house_27 : decode cX7_house 27 = .ok (.aload_n 0, 1) := by decide +kernel
theorem dX7_house_28 : decode cX7_house 28 = .ok (.getfield 19, 3) := by decide +kernel
theorem dX7_house_31 : decode cX7_house 31 = .ok (.getfield 70, 3) := by decide +kernel
theorem dX7_house_34 : decode cX7_house 34 = .ok (.invokevirtual 73, 3) := by decide +kernel
theorem dX7_house_37 : decode cX7_house 37 = .ok (.aload_n 0, 1) := by decide +kernel
theorem dX7_house_38 : decode cX7_house 38 = .ok (.getfield 19, 3) := by decide +kernel
theorem dX7_house_41 : decode cX7_house 41 = .ok (.getfield 76, 3) := by decide +kernel
theorem dX7_house_44 : decode cX7_house 44 = .ok (.iconst 0, 1) := by decide +kernel
theorem dX7_house_45 : decode cX7_house 45 = .ok (.putfield 80, 3) := by decide +kernel
theorem dX7_house_48 : decode cX7_house 48 = .ok (.aload_n 0, 1) := by decide +kernel
theorem dX7_house_49 : decode cX7_house 49 = .ok (.getfield 10, 3) := by decide +kernel
theorem dX7_house_52 : decode cX7_house 52 = .ok (.iconst 0, 1) := by decide +kernel
theorem dX7_house_53 : decode cX7_house 53 = .ok (.putfield 48, 3) := by decide +kernel
theorem dX7_house_56 : decode cX7_house 56 = .ok (.aload_n 0, 1) := by decide +kernel
theorem dX7_house_57 : decode cX7_house 57 = .ok (.iconst 0, 1) := by decide +kernel
theorem dX7_house_58 : decode cX7_house 58 = .ok (.putfield 85, 3) := by decide +kernel
theorem dX7_house_61 : decode cX7_house 61 = .ok (.aload_n 0, 1) := by decide +kernel
theorem dX7_house_62 : decode cX7_house 62 = .ok (.dup, 1) := by decide +kernel
theorem dX7_house_63 : decode cX7_house 63 = .ok (.getfield 89, 3) := by decide +kernel
theorem dX7_house_66 : decode cX7_house 66 = .ok (.iconst 1, 1) := by decide +kernel
theorem dX7_house_67 : decode cX7_house 67 = .ok (.iadd, 1) := by decide +kernel
theorem dX7_house_68 : decode cX7_house 68 = .ok (.putfield 89, 3) := by decide +kernel
theorem dX7_house_71 : decode cX7_house 71 = .ok (.aload_n 0, 1) := by decide +kernel
theorem dX7_house_72 : decode cX7_house 72 = .ok (.getfield 19, 3) := by decide +kernel
theorem dX7_house_75 : decode cX7_house 75 = .ok (.getfield 28, 3) := by decide +kernel
theorem dX7_house_78 : decode cX7_house 78 = .ok (.getfield 92, 3) := by decide +kernel
theorem dX7_house_81 : decode cX7_house 81 = .ok (.ireturn, 1) := by decide +kernel
theorem dX7_plan_0 : decode cX7_plan 0 = .ok (.aload_n 0, 1) := by decide +kernel
theorem dX7_plan_1 : decode cX7_plan 1 = .ok (.invokevirtual 93, 3) := by decide +kernel
theorem dX7_plan_4 : decode cX7_plan 4 = .ok (.ifCond .eq 23, 3) := by decide +kernel
theorem dX7_plan_7 : decode cX7_plan 7 = .ok (.aload_n 0, 1) := by decide +kernel
theorem dX7_plan_8 : decode cX7_plan 8 = .ok (.getfield 10, 3) := by decide +kernel
theorem dX7_plan_11 : decode cX7_plan 11 = .ok (.aload_n 0, 1) := by decide +kernel
theorem dX7_plan_12 : decode cX7_plan 12 = .ok (.getfield 19, 3) := by decide +kernel
theorem dX7_plan_15 : decode cX7_plan 15 = .ok (.getfield 28, 3) := by decide +kernel
theorem dX7_plan_18 : decode cX7_plan 18 = .ok (.getfield 92, 3) := by decide +kernel
theorem dX7_plan_21 : decode cX7_plan 21 = .ok (.invokevirtual 96, 3) := by decide +kernel
theorem dX7_plan_24 : decode cX7_plan 24 = .ok (.ifCond .ne 6, 3) := by decide +kernel
theorem dX7_plan_27 : decode cX7_plan 27 = .ok (.bipush (-103), 2) := by decide +kernel
theorem dX7_plan_29 : decode cX7_plan 29 = .ok (.ireturn, 1) := by decide +kernel
theorem dX7_plan_30 : decode cX7_plan 30 = .ok (.aload_n 0, 1) := by decide +kernel
theorem dX7_plan_31 : decode cX7_plan 31 = .ok (.getfield 19, 3) := by decide +kernel
theorem dX7_plan_34 : decode cX7_plan 34 = .ok (.getfield 70, 3) := by decide +kernel
theorem dX7_plan_37 : decode cX7_plan 37 = .ok (.aload_n 0, 1) := by decide +kernel
theorem dX7_plan_38 : decode cX7_plan 38 = .ok (.getfield 10, 3) := by decide +kernel
theorem dX7_plan_41 : decode cX7_plan 41 = .ok (.invokevirtual 100, 3) := by decide +kernel
theorem dX7_plan_44 : decode cX7_plan 44 = .ok (.aload_n 0, 1) := by decide +kernel
theorem dX7_plan_45 : decode cX7_plan 45 = .ok (.getfield 10, 3) := by decide +kernel
theorem dX7_plan_48 : decode cX7_plan 48 = .ok (.iconst 0, 1) := by decide +kernel
theorem dX7_plan_49 : decode cX7_plan 49 = .ok (.putfield 48, 3) := by decide +kernel
theorem dX7_plan_52 : decode cX7_plan 52 = .ok (.aload_n 0, 1) := by decide +kernel
theorem dX7_plan_53 : decode cX7_plan 53 = .ok (.getfield 19, 3) := by decide +kernel
theorem dX7_plan_56 : decode cX7_plan 56 = .ok (.getfield 70, 3) := by decide +kernel
theorem dX7_plan_59 : decode cX7_plan 59 = .ok (.invokevirtual 101, 3) := by decide +kernel
theorem dX7_plan_62 : decode cX7_plan 62 = .ok (.ireturn, 1) := by decide +kernel
theorem dX7_title_0 : decode cX7_title 0 = .ok (.aload_n 0, 1) := by decide +kernel
theorem dX7_title_1 : decode cX7_title 1 = .ok (.getfield 19, 3) := by decide +kernel
theorem dX7_title_4 : decode cX7_title 4 = .ok (.getfield 28, 3) := by decide +kernel
theorem dX7_title_7 : decode cX7_title 7 = .ok (.iload_n 1, 1) := by decide +kernel
theorem dX7_title_8 : decode cX7_title 8 = .ok (.invokevirtual 104, 3) := by decide +kernel
theorem dX7_title_11 : decode cX7_title 11 = .ok (.ifCond .ne 6, 3) := by decide +kernel
theorem dX7_title_14 : decode cX7_title 14 = .ok (.bipush (-101), 2) := by decide +kernel
theorem dX7_title_16 : decode cX7_title 16 = .ok (.ireturn, 1) := by decide +kernel
theorem dX7_title_17 : decode cX7_title 17 = .ok (.iload_n 2, 1) := by decide +kernel
theorem dX7_title_18 : decode cX7_title 18 = .ok (.ifCond .lt 9, 3) := by decide +kernel
theorem dX7_title_21 : decode cX7_title 21 = .ok (.iload_n 2, 1) := by decide +kernel
theorem dX7_title_22 : decode cX7_title 22 = .ok (.bipush 9, 2) := by decide +kernel
theorem dX7_title_24 : decode cX7_title 24 = .ok (.if_icmp .lt 6, 3) := by decide +kernel
theorem dX7_title_27 : decode cX7_title 27 = .ok (.bipush (-102), 2) := by decide +kernel
theorem dX7_title_29 : decode cX7_title 29 = .ok (.ireturn, 1) := by decide +kernel
theorem dX7_title_30 : decode cX7_title 30 = .ok (.aload_n 0, 1) := by decide +kernel
theorem dX7_title_31 : decode cX7_title 31 = .ok (.iload_n 1, 1) := by decide +kernel
theorem dX7_title_32 : decode cX7_title 32 = .ok (.iload_n 2, 1) := by decide +kernel
theorem dX7_title_33 : decode cX7_title 33 = .ok (.invokevirtual 107, 3) := by decide +kernel
theorem dX7_title_36 : decode cX7_title 36 = .ok (.ireturn, 1) := by decide +kernel
theorem dX7_as_0 : decode cX7_as 0 = .ok (.aload_n 0, 1) := by decide +kernel
theorem dX7_as_1 : decode cX7_as 1 = .ok (.getfield 19, 3) := by decide +kernel
theorem dX7_as_4 : decode cX7_as 4 = .ok (.getfield 28, 3) := by decide +kernel
theorem dX7_as_7 : decode cX7_as 7 = .ok (.iload_n 1, 1) := by decide +kernel
theorem dX7_as_8 : decode cX7_as 8 = .ok (.invokevirtual 104, 3) := by decide +kernel
theorem dX7_as_11 : decode cX7_as 11 = .ok (.ifCond .ne 6, 3) := by decide +kernel
theorem dX7_as_14 : decode cX7_as 14 = .ok (.bipush (-101), 2) := by decide +kernel
theorem dX7_as_16 : decode cX7_as 16 = .ok (.ireturn, 1) := by decide +kernel
theorem dX7_as_17 : decode cX7_as 17 = .ok (.iload_n 2, 1) := by decide +kernel
theorem dX7_as_18 : decode cX7_as 18 = .ok (.invokestatic 111, 3) := by decide +kernel
theorem dX7_as_21 : decode cX7_as 21 = .ok (.ifCond .ne 6, 3) := by decide +kernel
theorem dX7_as_24 : decode cX7_as 24 = .ok (.bipush (-102), 2) := by decide +kernel
theorem dX7_as_26 : decode cX7_as 26 = .ok (.ireturn, 1) := by decide +kernel
theorem dX7_as_27 : decode cX7_as 27 = .ok (.aload_n 0, 1) := by decide +kernel
theorem dX7_as_28 : decode cX7_as 28 = .ok (.getfield 19, 3) := by decide +kernel
theorem dX7_as_31 : decode cX7_as 31 = .ok (.getfield 28, 3) := by decide +kernel
theorem dX7_as_34 : decode cX7_as 34 = .ok (.iload_n 1, 1) := by decide +kernel
theorem dX7_as_35 : decode cX7_as 35 = .ok (.invokevirtual 114, 3) := by decide +kernel
theorem dX7_as_38 : decode cX7_as 38 = .ok (.iload_n 2, 1) := by decide +kernel
theorem dX7_as_39 : decode cX7_as 39 = .ok (.invokevirtual 118, 3) := by decide +kernel
theorem dX7_as_42 : decode cX7_as 42 = .ok (.ifCond .eq 7, 3) := by decide +kernel
theorem dX7_as_45 : decode cX7_as 45 = .ok (.iload_n 1, 1) := by decide +kernel
theorem dX7_as_46 : decode cX7_as 46 = .ok (.goto 4, 3) := by decide +kernel
theorem dX7_as_49 : decode cX7_as 49 = .ok (.iconst (-1), 1) := by decide +kernel
theorem dX7_as_50 : decode cX7_as 50 = .ok (.ireturn, 1) := by decide +kernel
theorem dX7_night_0 : decode cX7_night 0 = .ok (.aload_n 0, 1) := by decide +kernel
theorem dX7_night_1 : decode cX7_night 1 = .ok (.invokevirtual 93, 3) := by decide +kernel
theorem dX7_night_4 : decode cX7_night 4 = .ok (.ifCond .eq 10, 3) := by decide +kernel
theorem dX7_night_7 : decode cX7_night 7 = .ok (.iload_n 1, 1) := by decide +kernel
theorem dX7_night_8 : decode cX7_night 8 = .ok (.invokestatic 123, 3) := by decide +kernel
theorem dX7_night_11 : decode cX7_night 11 = .ok (.ifCond .ne 6, 3) := by decide +kernel
theorem dX7_night_14 : decode cX7_night 14 = .ok (.bipush (-101), 2) := by decide +kernel
theorem dX7_night_16 : decode cX7_night 16 = .ok (.ireturn, 1) := by decide +kernel
theorem dX7_night_17 : decode cX7_night 17 = .ok (.iload_n 2, 1) := by decide +kernel
theorem dX7_night_18 : decode cX7_night 18 = .ok (.ifCond .lt 8, 3) := by decide +kernel
theorem dX7_night_21 : decode cX7_night 21 = .ok (.iload_n 2, 1) := by decide +kernel
theorem dX7_night_22 : decode cX7_night 22 = .ok (.iconst 3, 1) := by decide +kernel
theorem dX7_night_23 : decode cX7_night 23 = .ok (.if_icmp .lt 6, 3) := by decide +kernel
theorem dX7_night_26 : decode cX7_night 26 = .ok (.bipush (-102), 2) := by decide +kernel
theorem dX7_night_28 : decode cX7_night 28 = .ok (.ireturn, 1) := by decide +kernel
theorem dX7_night_29 : decode cX7_night 29 = .ok (.aload_n 0, 1) := by decide +kernel
theorem dX7_night_30 : decode cX7_night 30 = .ok (.iload_n 1, 1) := by decide +kernel
theorem dX7_night_31 : decode cX7_night 31 = .ok (.iload_n 2, 1) := by decide +kernel
theorem dX7_night_32 : decode cX7_night 32 = .ok (.invokevirtual 126, 3) := by decide +kernel
theorem dX7_night_35 : decode cX7_night 35 = .ok (.ireturn, 1) := by decide +kernel
theorem dX7_play_0 : decode cX7_play 0 = .ok (.aload_n 0, 1) := by decide +kernel
theorem dX7_play_1 : decode cX7_play 1 = .ok (.invokevirtual 93, 3) := by decide +kernel
theorem dX7_play_4 : decode cX7_play 4 = .ok (.ifCond .eq 10, 3) := by decide +kernel
theorem dX7_play_7 : decode cX7_play 7 = .ok (.iload_n 1, 1) := by decide +kernel
theorem dX7_play_8 : decode cX7_play 8 = .ok (.invokestatic 123, 3) := by decide +kernel
theorem dX7_play_11 : decode cX7_play 11 = .ok (.ifCond .ne 6, 3) := by decide +kernel
theorem dX7_play_14 : decode cX7_play 14 = .ok (.bipush (-101), 2) := by decide +kernel
theorem dX7_play_16 : decode cX7_play 16 = .ok (.ireturn, 1) := by decide +kernel
theorem dX7_play_17 : decode cX7_play 17 = .ok (.iload_n 2, 1) := by decide +kernel
theorem dX7_play_18 : decode cX7_play 18 = .ok (.iconst (-1), 1) := by decide +kernel
theorem dX7_play_19 : decode cX7_play 19 = .ok (.if_icmp .eq 20, 3) := by decide +kernel
theorem dX7_play_22 : decode cX7_play 22 = .ok (.aload_n 0, 1) := by decide +kernel
theorem dX7_play_23 : decode cX7_play 23 = .ok (.getfield 19, 3) := by decide +kernel
theorem dX7_play_26 : decode cX7_play 26 = .ok (.getfield 28, 3) := by decide +kernel
theorem dX7_play_29 : decode cX7_play 29 = .ok (.iload_n 2, 1) := by decide +kernel
theorem dX7_play_30 : decode cX7_play 30 = .ok (.invokevirtual 104, 3) := by decide +kernel
theorem dX7_play_33 : decode cX7_play 33 = .ok (.ifCond .ne 6, 3) := by decide +kernel
theorem dX7_play_36 : decode cX7_play 36 = .ok (.bipush (-101), 2) := by decide +kernel
theorem dX7_play_38 : decode cX7_play 38 = .ok (.ireturn, 1) := by decide +kernel
theorem dX7_play_39 : decode cX7_play 39 = .ok (.aload_n 0, 1) := by decide +kernel
theorem dX7_play_40 : decode cX7_play 40 = .ok (.getfield 19, 3) := by decide +kernel
theorem dX7_play_43 : decode cX7_play 43 = .ok (.getfield 70, 3) := by decide +kernel
theorem dX7_play_46 : decode cX7_play 46 = .ok (.getfield 129, 3) := by decide +kernel
theorem dX7_play_49 : decode cX7_play 49 = .ok (.iload_n 1, 1) := by decide +kernel
theorem dX7_play_50 : decode cX7_play 50 = .ok (.iload_n 2, 1) := by decide +kernel
theorem dX7_play_51 : decode cX7_play 51 = .ok (.iastore, 1) := by decide +kernel
theorem dX7_play_52 : decode cX7_play 52 = .ok (.aload_n 0, 1) := by decide +kernel
theorem dX7_play_53 : decode cX7_play 53 = .ok (.getfield 19, 3) := by decide +kernel
theorem dX7_play_56 : decode cX7_play 56 = .ok (.getfield 70, 3) := by decide +kernel
theorem dX7_play_59 : decode cX7_play 59 = .ok (.invokevirtual 133, 3) := by decide +kernel
theorem dX7_play_62 : decode cX7_play 62 = .ok (.aload_n 0, 1) := by decide +kernel
theorem dX7_play_63 : decode cX7_play 63 = .ok (.getfield 19, 3) := by decide +kernel
theorem dX7_play_66 : decode cX7_play 66 = .ok (.getfield 70, 3) := by decide +kernel
theorem dX7_play_69 : decode cX7_play 69 = .ok (.getfield 136, 3) := by decide +kernel
theorem dX7_play_72 : decode cX7_play 72 = .ok (.ireturn, 1) := by decide +kernel
theorem dX7_delay_0 : decode cX7_delay 0 = .ok (.iload_n 1, 1) := by decide +kernel
theorem dX7_delay_1 : decode cX7_delay 1 = .ok (.iconst 1, 1) := by decide +kernel
theorem dX7_delay_2 : decode cX7_delay 2 = .ok (.if_icmp .lt 9, 3) := by decide +kernel
theorem dX7_delay_5 : decode cX7_delay 5 = .ok (.iload_n 1, 1) := by decide +kernel
theorem dX7_delay_6 : decode cX7_delay 6 = .ok (.bipush 12, 2) := by decide +kernel
theorem dX7_delay_8 : decode cX7_delay 8 = .ok (.if_icmp .lt 6, 3) := by decide +kernel
theorem dX7_delay_11 : decode cX7_delay 11 = .ok (.bipush (-102), 2) := by decide +kernel
theorem dX7_delay_13 : decode cX7_delay 13 = .ok (.ireturn, 1) := by decide +kernel
theorem dX7_delay_14 : decode cX7_delay 14 = .ok (.aload_n 0, 1) := by decide +kernel
theorem dX7_delay_15 : decode cX7_delay 15 = .ok (.invokevirtual 93, 3) := by decide +kernel
theorem dX7_delay_18 : decode cX7_delay 18 = .ok (.ifCond .ne 6, 3) := by decide +kernel
theorem dX7_delay_21 : decode cX7_delay 21 = .ok (.bipush (-103), 2) := by decide +kernel
theorem dX7_delay_23 : decode cX7_delay 23 = .ok (.ireturn, 1) := by decide +kernel
theorem dX7_delay_24 : decode cX7_delay 24 = .ok (.aload_n 0, 1) := by decide +kernel
theorem dX7_delay_25 : decode cX7_delay 25 = .ok (.getfield 19, 3) := by decide +kernel
theorem dX7_delay_28 : decode cX7_delay 28 = .ok (.getfield 70, 3) := by decide +kernel
theorem dX7_delay_31 : decode cX7_delay 31 = .ok (.iload_n 1, 1) := by decide +kernel
theorem dX7_delay_32 : decode cX7_delay 32 = .ok (.invokevirtual 139, 3) := by decide +kernel
theorem dX7_delay_35 : decode cX7_delay 35 = .ok (.aload_n 0, 1) := by decide +kernel
theorem dX7_delay_36 : decode cX7_delay 36 = .ok (.getfield 19, 3) := by decide +kernel
theorem dX7_delay_39 : decode cX7_delay 39 = .ok (.getfield 70, 3) := by decide +kernel
theorem dX7_delay_42 : decode cX7_delay 42 = .ok (.invokevirtual 101, 3) := by decide +kernel
theorem dX7_delay_45 : decode cX7_delay 45 = .ok (.ireturn, 1) := by decide +kernel
theorem dX7_add_0 : decode cX7_add 0 = .ok (.iload_n 1, 1) := by decide +kernel
theorem dX7_add_1 : decode cX7_add 1 = .ok (.invokestatic 111, 3) := by decide +kernel
theorem dX7_add_4 : decode cX7_add 4 = .ok (.ifCond .eq 21, 3) := by decide +kernel
theorem dX7_add_7 : decode cX7_add 7 = .ok (.iload_n 2, 1) := by decide +kernel
theorem dX7_add_8 : decode cX7_add 8 = .ok (.ifCond .lt 17, 3) := by decide +kernel
theorem dX7_add_11 : decode cX7_add 11 = .ok (.iload_n 2, 1) := by decide +kernel
theorem dX7_add_12 : decode cX7_add 12 = .ok (.iconst 5, 1) := by decide +kernel
theorem dX7_add_13 : decode cX7_add 13 = .ok (.if_icmp .ge 12, 3) := by decide +kernel
theorem dX7_add_16 : decode cX7_add 16 = .ok (.iload_n 3, 1) := by decide +kernel
theorem dX7_add_17 : decode cX7_add 17 = .ok (.ifCond .lt 8, 3) := by decide +kernel
theorem dX7_add_20 : decode cX7_add 20 = .ok (.iload_n 3, 1) := by decide +kernel
theorem dX7_add_21 : decode cX7_add 21 = .ok (.iconst 5, 1) := by decide +kernel
theorem dX7_add_22 : decode cX7_add 22 = .ok (.if_icmp .lt 6, 3) := by decide +kernel
theorem dX7_add_25 : decode cX7_add 25 = .ok (.bipush (-102), 2) := by decide +kernel
theorem dX7_add_27 : decode cX7_add 27 = .ok (.ireturn, 1) := by decide +kernel
theorem dX7_add_28 : decode cX7_add 28 = .ok (.aload_n 0, 1) := by decide +kernel
theorem dX7_add_29 : decode cX7_add 29 = .ok (.invokevirtual 93, 3) := by decide +kernel
theorem dX7_add_32 : decode cX7_add 32 = .ok (.ifCond .ne 6, 3) := by decide +kernel
theorem dX7_add_35 : decode cX7_add 35 = .ok (.bipush (-103), 2) := by decide +kernel
theorem dX7_add_37 : decode cX7_add 37 = .ok (.ireturn, 1) := by decide +kernel
theorem dX7_add_38 : decode cX7_add 38 = .ok (.aload_n 0, 1) := by decide +kernel
theorem dX7_add_39 : decode cX7_add 39 = .ok (.getfield 19, 3) := by decide +kernel
theorem dX7_add_42 : decode cX7_add 42 = .ok (.getfield 28, 3) := by decide +kernel
theorem dX7_add_45 : decode cX7_add 45 = .ok (.getfield 92, 3) := by decide +kernel
theorem dX7_add_48 : decode cX7_add 48 = .ok (.iconst 5, 1) := by decide +kernel
theorem dX7_add_49 : decode cX7_add 49 = .ok (.if_icmp .lt 6, 3) := by decide +kernel
theorem dX7_add_52 : decode cX7_add 52 = .ok (.bipush (-104), 2) := by decide +kernel
theorem dX7_add_54 : decode cX7_add 54 = .ok (.ireturn, 1) := by decide +kernel
theorem dX7_add_55 : decode cX7_add 55 = .ok (.aload_n 0, 1) := by decide +kernel
theorem dX7_add_56 : decode cX7_add 56 = .ok (.getfield 19, 3) := by decide +kernel
theorem dX7_add_59 : decode cX7_add 59 = .ok (.getfield 28, 3) := by decide +kernel
theorem dX7_add_62 : decode cX7_add 62 = .ok (.iload_n 1, 1) := by decide +kernel
theorem dX7_add_63 : decode cX7_add 63 = .ok (.iload_n 2, 1) := by decide +kernel
theorem dX7_add_64 : decode cX7_add 64 = .ok (.iload_n 3, 1) := by decide +kernel
theorem dX7_add_65 : decode cX7_add 65 = .ok (.invokevirtual 142, 3) := by decide +kernel
theorem dX7_add_68 : decode cX7_add 68 = .ok (.aload_n 0, 1) := by decide +kernel
theorem dX7_add_69 : decode cX7_add 69 = .ok (.getfield 19, 3) := by decide +kernel
theorem dX7_add_72 : decode cX7_add 72 = .ok (.getfield 70, 3) := by decide +kernel
theorem dX7_add_75 : decode cX7_add 75 = .ok (.invokevirtual 133, 3) := by decide +kernel
theorem dX7_add_78 : decode cX7_add 78 = .ok (.aload_n 0, 1) := by decide +kernel
theorem dX7_add_79 : decode cX7_add 79 = .ok (.getfield 19, 3) := by decide +kernel
theorem dX7_add_82 : decode cX7_add 82 = .ok (.getfield 28, 3) := by decide +kernel
theorem dX7_add_85 : decode cX7_add 85 = .ok (.getfield 92, 3) := by decide +kernel
theorem dX7_add_88 : decode cX7_add 88 = .ok (.iconst 1, 1) := by decide +kernel
theorem dX7_add_89 : decode cX7_add 89 = .ok (.isub, 1) := by decide +kernel
theorem dX7_add_90 : decode cX7_add 90 = .ok (.ireturn, 1) := by decide +kernel
theorem dX7_rights_0 : decode cX7_rights 0 = .ok (.aload_n 0, 1) := by decide +kernel
theorem dX7_rights_1 : decode cX7_rights 1 = .ok (.getfield 19, 3) := by decide +kernel
theorem dX7_rights_4 : decode cX7_rights 4 = .ok (.getfield 28, 3) := by decide +kernel
theorem dX7_rights_7 : decode cX7_rights 7 = .ok (.iload_n 1, 1) := by decide +kernel
theorem dX7_rights_8 : decode cX7_rights 8 = .ok (.invokevirtual 104, 3) := by decide +kernel
theorem dX7_rights_11 : decode cX7_rights 11 = .ok (.ifCond .ne 6, 3) := by decide +kernel
theorem dX7_rights_14 : decode cX7_rights 14 = .ok (.bipush (-101), 2) := by decide +kernel
theorem dX7_rights_16 : decode cX7_rights 16 = .ok (.ireturn, 1) := by decide +kernel
theorem dX7_rights_17 : decode cX7_rights 17 = .ok (.iload_n 2, 1) := by decide +kernel
theorem dX7_rights_18 : decode cX7_rights 18 = .ok (.iload_n 3, 1) := by decide +kernel
theorem dX7_rights_19 : decode cX7_rights 19 = .ok (.invokestatic 146, 3) := by decide +kernel
theorem dX7_rights_22 : decode cX7_rights 22 = .ok (.ifCond .ne 6, 3) := by decide +kernel
theorem dX7_rights_25 : decode cX7_rights 25 = .ok (.bipush (-102), 2) := by decide +kernel
theorem dX7_rights_27 : decode cX7_rights 27 = .ok (.ireturn, 1) := by decide +kernel
theorem dX7_rights_28 : decode cX7_rights 28 = .ok (.aload_n 0, 1) := by decide +kernel
theorem dX7_rights_29 : decode cX7_rights 29 = .ok (.getfield 19, 3) := by decide +kernel
theorem dX7_rights_32 : decode cX7_rights 32 = .ok (.getfield 28, 3) := by decide +kernel
theorem dX7_rights_35 : decode cX7_rights 35 = .ok (.iload_n 1, 1) := by decide +kernel
theorem dX7_rights_36 : decode cX7_rights 36 = .ok (.invokevirtual 114, 3) := by decide +kernel
theorem dX7_rights_39 : decode cX7_rights 39 = .ok (.astore 4, 2) := by decide +kernel
theorem dX7_rights_41 : decode cX7_rights 41 = .ok (.aload 4, 2) := by decide +kernel
theorem dX7_rights_43 : decode cX7_rights 43 = .ok (.iload_n 2, 1) := by decide +kernel
theorem dX7_rights_44 : decode cX7_rights 44 = .ok (.putfield 150, 3) := by decide +kernel
theorem dX7_rights_47 : decode cX7_rights 47 = .ok (.aload 4, 2) := by decide +kernel
theorem dX7_rights_49 : decode cX7_rights 49 = .ok (.iload_n 3, 1) := by decide +kernel
theorem dX7_rights_50 : decode cX7_rights 50 = .ok (.putfield 153, 3) := by decide +kernel
theorem dX7_rights_53 : decode cX7_rights 53 = .ok (.aload_n 0, 1) := by decide +kernel
theorem dX7_rights_54 : decode cX7_rights 54 = .ok (.getfield 19, 3) := by decide +kernel
theorem dX7_rights_57 : decode cX7_rights 57 = .ok (.getfield 70, 3) := by decide +kernel
theorem dX7_rights_60 : decode cX7_rights 60 = .ok (.invokevirtual 133, 3) := by decide +kernel
theorem dX7_rights_63 : decode cX7_rights 63 = .ok (.aload_n 0, 1) := by decide +kernel
theorem dX7_rights_64 : decode cX7_rights 64 = .ok (.getfield 19, 3) := by decide +kernel
theorem dX7_rights_67 : decode cX7_rights 67 = .ok (.getfield 70, 3) := by decide +kernel
theorem dX7_rights_70 : decode cX7_rights 70 = .ok (.getfield 136, 3) := by decide +kernel
theorem dX7_rights_73 : decode cX7_rights 73 = .ok (.ireturn, 1) := by decide +kernel
theorem dX7_be_0 : decode cX7_be 0 = .ok (.aload_n 0, 1) := by decide +kernel
theorem dX7_be_1 : decode cX7_be 1 = .ok (.getfield 19, 3) := by decide +kernel
theorem dX7_be_4 : decode cX7_be 4 = .ok (.getfield 28, 3) := by decide +kernel
theorem dX7_be_7 : decode cX7_be 7 = .ok (.iload_n 1, 1) := by decide +kernel
theorem dX7_be_8 : decode cX7_be 8 = .ok (.invokevirtual 104, 3) := by decide +kernel
theorem dX7_be_11 : decode cX7_be 11 = .ok (.ifCond .ne 6, 3) := by decide +kernel
theorem dX7_be_14 : decode cX7_be 14 = .ok (.bipush (-101), 2) := by decide +kernel
theorem dX7_be_16 : decode cX7_be 16 = .ok (.ireturn, 1) := by decide +kernel
theorem dX7_be_17 : decode cX7_be 17 = .ok (.iload_n 2, 1) := by decide +kernel
theorem dX7_be_18 : decode cX7_be 18 = .ok (.invokestatic 111, 3) := by decide +kernel
theorem dX7_be_21 : decode cX7_be 21 = .ok (.ifCond .ne 6, 3) := by decide +kernel
theorem dX7_be_24 : decode cX7_be 24 = .ok (.bipush (-102), 2) := by decide +kernel
theorem dX7_be_26 : decode cX7_be 26 = .ok (.ireturn, 1) := by decide +kernel
theorem dX7_be_27 : decode cX7_be 27 = .ok (.aload_n 0, 1) := by decide +kernel
theorem dX7_be_28 : decode cX7_be 28 = .ok (.getfield 19, 3) := by decide +kernel
theorem dX7_be_31 : decode cX7_be 31 = .ok (.getfield 28, 3) := by decide +kernel
theorem dX7_be_34 : decode cX7_be 34 = .ok (.iload_n 1, 1) := by decide +kernel
theorem dX7_be_35 : decode cX7_be 35 = .ok (.invokevirtual 114, 3) := by decide +kernel
theorem dX7_be_38 : decode cX7_be 38 = .ok (.astore_n 3, 1) := by decide +kernel
theorem dX7_be_39 : decode cX7_be 39 = .ok (.aload_n 3, 1) := by decide +kernel
theorem dX7_be_40 : decode cX7_be 40 = .ok (.getfield 156, 3) := by decide +kernel
theorem dX7_be_43 : decode cX7_be 43 = .ok (.istore 4, 2) := by decide +kernel
theorem dX7_be_45 : decode cX7_be 45 = .ok (.aload_n 3, 1) := by decide +kernel
theorem dX7_be_46 : decode cX7_be 46 = .ok (.iload_n 2, 1) := by decide +kernel
theorem dX7_be_47 : decode cX7_be 47 = .ok (.putfield 156, 3) := by decide +kernel
theorem dX7_be_50 : decode cX7_be 50 = .ok (.aload_n 0, 1) := by decide +kernel
theorem dX7_be_51 : decode cX7_be 51 = .ok (.getfield 19, 3) := by decide +kernel
theorem dX7_be_54 : decode cX7_be 54 = .ok (.getfield 70, 3) := by decide +kernel
theorem dX7_be_57 : decode cX7_be 57 = .ok (.invokevirtual 133, 3) := by decide +kernel
theorem dX7_be_60 : decode cX7_be 60 = .ok (.iload 4, 2) := by decide +kernel
theorem dX7_be_62 : decode cX7_be 62 = .ok (.ireturn, 1) := by decide +kernel
theorem dX7_best_0 : decode cX7_best 0 = .ok (.aload_n 0, 1) := by decide +kernel
theorem dX7_best_1 : decode cX7_best 1 = .ok (.invokevirtual 93, 3) := by decide +kernel
theorem dX7_best_4 : decode cX7_best 4 = .ok (.ifCond .eq 11, 3) := by decide +kernel
theorem dX7_best_7 : decode cX7_best 7 = .ok (.iload_n 1, 1) := by decide +kernel
theorem dX7_best_8 : decode cX7_best 8 = .ok (.iload_n 2, 1) := by decide +kernel
theorem dX7_best_9 : decode cX7_best 9 = .ok (.invokestatic 146, 3) := by decide +kernel
theorem dX7_best_12 : decode cX7_best 12 = .ok (.ifCond .ne 6, 3) := by decide +kernel
theorem dX7_best_15 : decode cX7_best 15 = .ok (.bipush (-101), 2) := by decide +kernel
theorem dX7_best_17 : decode cX7_best 17 = .ok (.ireturn, 1) := by decide +kernel
theorem dX7_best_18 : decode cX7_best 18 = .ok (.iload_n 3, 1) := by decide +kernel
theorem dX7_best_19 : decode cX7_best 19 = .ok (.ifCond .lt 8, 3) := by decide +kernel
theorem dX7_best_22 : decode cX7_best 22 = .ok (.iload_n 3, 1) := by decide +kernel
theorem dX7_best_23 : decode cX7_best 23 = .ok (.iconst 3, 1) := by decide +kernel
theorem dX7_best_24 : decode cX7_best 24 = .ok (.if_icmp .lt 6, 3) := by decide +kernel
theorem dX7_best_27 : decode cX7_best 27 = .ok (.bipush (-102), 2) := by decide +kernel
theorem dX7_best_29 : decode cX7_best 29 = .ok (.ireturn, 1) := by decide +kernel
theorem dX7_best_30 : decode cX7_best 30 = .ok (.aload_n 0, 1) := by decide +kernel
theorem dX7_best_31 : decode cX7_best 31 = .ok (.getfield 159, 3) := by decide +kernel
theorem dX7_best_34 : decode cX7_best 34 = .ok (.bipush 8, 2) := by decide +kernel
theorem dX7_best_36 : decode cX7_best 36 = .ok (.if_icmp .ge 19, 3) := by decide +kernel
theorem dX7_best_39 : decode cX7_best 39 = .ok (.aload_n 0, 1) := by decide +kernel
theorem dX7_best_40 : decode cX7_best 40 = .ok (.getfield 19, 3) := by decide +kernel
theorem dX7_best_43 : decode cX7_best 43 = .ok (.getfield 70, 3) := by decide +kernel
theorem dX7_best_46 : decode cX7_best 46 = .ok (.iload_n 1, 1) := by decide +kernel
theorem dX7_best_47 : decode cX7_best 47 = .ok (.iload_n 2, 1) := by decide +kernel
theorem dX7_best_48 : decode cX7_best 48 = .ok (.invokevirtual 162, 3) := by decide +kernel
theorem dX7_best_51 : decode cX7_best 51 = .ok (.iconst 4, 1) := by decide +kernel
theorem dX7_best_52 : decode cX7_best 52 = .ok (.if_icmp .le 6, 3) := by decide +kernel
theorem dX7_best_55 : decode cX7_best 55 = .ok (.bipush (-103), 2) := by decide +kernel
theorem dX7_best_57 : decode cX7_best 57 = .ok (.ireturn, 1) := by decide +kernel
theorem dX7_best_58 : decode cX7_best 58 = .ok (.aload_n 0, 1) := by decide +kernel
theorem dX7_best_59 : decode cX7_best 59 = .ok (.dup, 1) := by decide +kernel
theorem dX7_best_60 : decode cX7_best 60 = .ok (.getfield 159, 3) := by decide +kernel
theorem dX7_best_63 : decode cX7_best 63 = .ok (.iconst 1, 1) := by decide +kernel
theorem dX7_best_64 : decode cX7_best 64 = .ok (.iadd, 1) := by decide +kernel
theorem dX7_best_65 : decode cX7_best 65 = .ok (.putfield 159, 3) := by decide +kernel
theorem dX7_best_68 : decode cX7_best 68 = .ok (.aload_n 0, 1) := by decide +kernel
theorem dX7_best_69 : decode cX7_best 69 = .ok (.getfield 44, 3) := by decide +kernel
theorem dX7_best_72 : decode cX7_best 72 = .ok (.aload_n 0, 1) := by decide +kernel
theorem dX7_best_73 : decode cX7_best 73 = .ok (.getfield 19, 3) := by decide +kernel
theorem dX7_best_76 : decode cX7_best 76 = .ok (.getfield 70, 3) := by decide +kernel
theorem dX7_best_79 : decode cX7_best 79 = .ok (.iload_n 1, 1) := by decide +kernel
theorem dX7_best_80 : decode cX7_best 80 = .ok (.iload_n 2, 1) := by decide +kernel
theorem dX7_best_81 : decode cX7_best 81 = .ok (.invokevirtual 165, 3) := by decide +kernel
theorem dX7_best_84 : decode cX7_best 84 = .ok (.iload_n 3, 1) := by decide +kernel
theorem dX7_best_85 : decode cX7_best 85 = .ok (.ifCond .ne 11, 3) := by decide +kernel
theorem dX7_best_88 : decode cX7_best 88 = .ok (.aload_n 0, 1) := by decide +kernel
theorem dX7_best_89 : decode cX7_best 89 = .ok (.getfield 44, 3) := by decide +kernel
theorem dX7_best_92 : decode cX7_best 92 = .ok (.getfield 169, 3) := by decide +kernel
theorem dX7_best_95 : decode cX7_best 95 = .ok (.ireturn, 1) := by decide +kernel
theorem dX7_best_96 : decode cX7_best 96 = .ok (.iload_n 3, 1) := by decide +kernel
theorem dX7_best_97 : decode cX7_best 97 = .ok (.iconst 1, 1) := by decide +kernel
theorem dX7_best_98 : decode cX7_best 98 = .ok (.if_icmp .ne 11, 3) := by decide +kernel
theorem dX7_best_101 : decode cX7_best 101 = .ok (.aload_n 0, 1) := by decide +kernel
theorem dX7_best_102 : decode cX7_best 102 = .ok (.getfield 44, 3) := by decide +kernel
theorem dX7_best_105 : decode cX7_best 105 = .ok (.getfield 172, 3) := by decide +kernel
theorem dX7_best_108 : decode cX7_best 108 = .ok (.ireturn, 1) := by decide +kernel
theorem dX7_best_109 : decode cX7_best 109 = .ok (.aload_n 0, 1) := by decide +kernel
theorem dX7_best_110 : decode cX7_best 110 = .ok (.getfield 19, 3) := by decide +kernel
theorem dX7_best_113 : decode cX7_best 113 = .ok (.getfield 70, 3) := by decide +kernel
theorem dX7_best_116 : decode cX7_best 116 = .ok (.aload_n 0, 1) := by decide +kernel
theorem dX7_best_117 : decode cX7_best 117 = .ok (.getfield 44, 3) := by decide +kernel
theorem dX7_best_120 : decode cX7_best 120 = .ok (.getfield 175, 3) := by decide +kernel
theorem dX7_best_123 : decode cX7_best 123 = .ok (.invokevirtual 176, 3) := by decide +kernel
theorem dX7_best_126 : decode cX7_best 126 = .ok (.aload_n 0, 1) := by decide +kernel
theorem dX7_best_127 : decode cX7_best 127 = .ok (.getfield 19, 3) := by decide +kernel
theorem dX7_best_130 : decode cX7_best 130 = .ok (.getfield 70, 3) := by decide +kernel
theorem dX7_best_133 : decode cX7_best 133 = .ok (.invokevirtual 101, 3) := by decide +kernel
theorem dX7_best_136 : decode cX7_best 136 = .ok (.ireturn, 1) := by decide +kernel
theorem dX7_rank_0 : decode cX7_rank 0 = .ok (.iconst 0, 1) := by decide +kernel
theorem dX7_rank_1 : decode cX7_rank 1 = .ok (.istore_n 2, 1) := by decide +kernel
theorem dX7_rank_2 : decode cX7_rank 2 = .ok (.iload_n 2, 1) := by decide +kernel
theorem dX7_rank_3 : decode cX7_rank 3 = .ok (.aload_n 0, 1) := by decide +kernel
theorem dX7_rank_4 : decode cX7_rank 4 = .ok (.getfield 19, 3) := by decide +kernel
theorem dX7_rank_7 : decode cX7_rank 7 = .ok (.getfield 28, 3) := by decide +kernel
theorem dX7_rank_10 : decode cX7_rank 10 = .ok (.getfield 92, 3) := by decide +kernel
theorem dX7_rank_13 : decode cX7_rank 13 = .ok (.if_icmp .ge 26, 3) := by decide +kernel
theorem dX7_rank_16 : decode cX7_rank 16 = .ok (.aload_n 0, 1) := by decide +kernel
theorem dX7_rank_17 : decode cX7_rank 17 = .ok (.getfield 19, 3) := by decide +kernel
theorem dX7_rank_20 : decode cX7_rank 20 = .ok (.getfield 70, 3) := by decide +kernel
theorem dX7_rank_23 : decode cX7_rank 23 = .ok (.iload_n 2, 1) := by decide +kernel
theorem dX7_rank_24 : decode cX7_rank 24 = .ok (.invokevirtual 180, 3) := by decide +kernel
theorem dX7_rank_27 : decode cX7_rank 27 = .ok (.iload_n 1, 1) := by decide +kernel
theorem dX7_rank_28 : decode cX7_rank 28 = .ok (.if_icmp .ne 5, 3) := by decide +kernel
theorem dX7_rank_31 : decode cX7_rank 31 = .ok (.iload_n 2, 1) := by decide +kernel
theorem dX7_rank_32 : decode cX7_rank 32 = .ok (.ireturn, 1) := by decide +kernel
theorem dX7_rank_33 : decode cX7_rank 33 = .ok (.iinc 2 1, 3) := by decide +kernel
theorem dX7_rank_36 : decode cX7_rank 36 = .ok (.goto (-34), 3) := by decide +kernel
theorem dX7_rank_39 : decode cX7_rank 39 = .ok (.bipush (-101), 2) := by decide +kernel
theorem dX7_rank_41 : decode cX7_rank 41 = .ok (.ireturn, 1) := by decide +kernel
theorem dX7_see_0 : decode cX7_see 0 = .ok (.aload_n 0, 1) := by decide +kernel
theorem dX7_see_1 : decode cX7_see 1 = .ok (.getfield 19, 3) := by decide +kernel
theorem dX7_see_4 : decode cX7_see 4 = .ok (.getfield 28, 3) := by decide +kernel
theorem dX7_see_7 : decode cX7_see 7 = .ok (.iload_n 1, 1) := by decide +kernel
theorem dX7_see_8 : decode cX7_see 8 = .ok (.invokevirtual 104, 3) := by decide +kernel
theorem dX7_see_11 : decode cX7_see 11 = .ok (.ifCond .ne 6, 3) := by decide +kernel
theorem dX7_see_14 : decode cX7_see 14 = .ok (.bipush (-101), 2) := by decide +kernel
theorem dX7_see_16 : decode cX7_see 16 = .ok (.ireturn, 1) := by decide +kernel
theorem dX7_see_17 : decode cX7_see 17 = .ok (.iload_n 2, 1) := by decide +kernel
theorem dX7_see_18 : decode cX7_see 18 = .ok (.ifCond .lt 8, 3) := by decide +kernel
theorem dX7_see_21 : decode cX7_see 21 = .ok (.iload_n 2, 1) := by decide +kernel
theorem dX7_see_22 : decode cX7_see 22 = .ok (.iconst 4, 1) := by decide +kernel
theorem dX7_see_23 : decode cX7_see 23 = .ok (.if_icmp .lt 6, 3) := by decide +kernel
theorem dX7_see_26 : decode cX7_see 26 = .ok (.bipush (-102), 2) := by decide +kernel
theorem dX7_see_28 : decode cX7_see 28 = .ok (.ireturn, 1) := by decide +kernel
theorem dX7_see_29 : decode cX7_see 29 = .ok (.aload_n 0, 1) := by decide +kernel
theorem dX7_see_30 : decode cX7_see 30 = .ok (.getfield 19, 3) := by decide +kernel
theorem dX7_see_33 : decode cX7_see 33 = .ok (.getfield 76, 3) := by decide +kernel
theorem dX7_see_36 : decode cX7_see 36 = .ok (.getfield 80, 3) := by decide +kernel
theorem dX7_see_39 : decode cX7_see 39 = .ok (.bipush 6, 2) := by decide +kernel
theorem dX7_see_41 : decode cX7_see 41 = .ok (.if_icmp .lt 6, 3) := by decide +kernel
theorem dX7_see_44 : decode cX7_see 44 = .ok (.bipush (-104), 2) := by decide +kernel
theorem dX7_see_46 : decode cX7_see 46 = .ok (.ireturn, 1) := by decide +kernel
theorem dX7_see_47 : decode cX7_see 47 = .ok (.aload_n 0, 1) := by decide +kernel
theorem dX7_see_48 : decode cX7_see 48 = .ok (.getfield 19, 3) := by decide +kernel
theorem dX7_see_51 : decode cX7_see 51 = .ok (.getfield 76, 3) := by decide +kernel
theorem dX7_see_54 : decode cX7_see 54 = .ok (.iload_n 1, 1) := by decide +kernel
theorem dX7_see_55 : decode cX7_see 55 = .ok (.iload_n 2, 1) := by decide +kernel
theorem dX7_see_56 : decode cX7_see 56 = .ok (.iload_n 3, 1) := by decide +kernel
theorem dX7_see_57 : decode cX7_see 57 = .ok (.invokestatic 184, 3) := by decide +kernel
theorem dX7_see_60 : decode cX7_see 60 = .ok (.invokevirtual 188, 3) := by decide +kernel
theorem dX7_see_63 : decode cX7_see 63 = .ok (.aload_n 0, 1) := by decide +kernel
theorem dX7_see_64 : decode cX7_see 64 = .ok (.getfield 19, 3) := by decide +kernel
theorem dX7_see_67 : decode cX7_see 67 = .ok (.getfield 76, 3) := by decide +kernel
theorem dX7_see_70 : decode cX7_see 70 = .ok (.getfield 80, 3) := by decide +kernel
theorem dX7_see_73 : decode cX7_see 73 = .ok (.ireturn, 1) := by decide +kernel
theorem dX7_forget_0 : decode cX7_forget 0 = .ok (.aload_n 0, 1) := by decide +kernel
theorem dX7_forget_1 : decode cX7_forget 1 = .ok (.getfield 19, 3) := by decide +kernel
theorem dX7_forget_4 : decode cX7_forget 4 = .ok (.getfield 76, 3) := by decide +kernel
theorem dX7_forget_7 : decode cX7_forget 7 = .ok (.getfield 80, 3) := by decide +kernel
theorem dX7_forget_10 : decode cX7_forget 10 = .ok (.istore_n 1, 1) := by decide +kernel
theorem dX7_forget_11 : decode cX7_forget 11 = .ok (.aload_n 0, 1) := by decide +kernel
theorem dX7_forget_12 : decode cX7_forget 12 = .ok (.getfield 19, 3) := by decide +kernel
theorem dX7_forget_15 : decode cX7_forget 15 = .ok (.getfield 76, 3) := by decide +kernel
theorem dX7_forget_18 : decode cX7_forget 18 = .ok (.iconst 0, 1) := by decide +kernel
theorem dX7_forget_19 : decode cX7_forget 19 = .ok (.putfield 80, 3) := by decide +kernel
theorem dX7_forget_22 : decode cX7_forget 22 = .ok (.iload_n 1, 1) := by decide +kernel
theorem dX7_forget_23 : decode cX7_forget 23 = .ok (.ireturn, 1) := by decide +kernel
theorem dX7_drawn_0 : decode cX7_drawn 0 = .ok (.iload_n 1, 1) := by decide +kernel
theorem dX7_drawn_1 : decode cX7_drawn 1 = .ok (.iconst 1, 1) := by decide +kernel
theorem dX7_drawn_2 : decode cX7_drawn 2 = .ok (.if_icmp .lt 22, 3) := by decide +kernel
theorem dX7_drawn_5 : decode cX7_drawn 5 = .ok (.iload_n 1, 1) := by decide +kernel
theorem dX7_drawn_6 : decode cX7_drawn 6 = .ok (.bipush 20, 2) := by decide +kernel
theorem dX7_drawn_8 : decode cX7_drawn 8 = .ok (.if_icmp .gt 16, 3) := by decide +kernel
theorem dX7_drawn_11 : decode cX7_drawn 11 = .ok (.iload_n 2, 1) := by decide +kernel
theorem dX7_drawn_12 : decode cX7_drawn 12 = .ok (.ifCond .lt 12, 3) := by decide +kernel
theorem dX7_drawn_15 : decode cX7_drawn 15 = .ok (.iload_n 3, 1) := by decide +kernel
theorem dX7_drawn_16 : decode cX7_drawn 16 = .ok (.ifCond .lt 8, 3) := by decide +kernel
theorem dX7_drawn_19 : decode cX7_drawn 19 = .ok (.iload_n 3, 1) := by decide +kernel
theorem dX7_drawn_20 : decode cX7_drawn 20 = .ok (.iconst 3, 1) := by decide +kernel
theorem dX7_drawn_21 : decode cX7_drawn 21 = .ok (.if_icmp .lt 6, 3) := by decide +kernel
theorem dX7_drawn_24 : decode cX7_drawn 24 = .ok (.bipush (-102), 2) := by decide +kernel
theorem dX7_drawn_26 : decode cX7_drawn 26 = .ok (.ireturn, 1) := by decide +kernel
theorem dX7_drawn_27 : decode cX7_drawn 27 = .ok (.aload_n 0, 1) := by decide +kernel
theorem dX7_drawn_28 : decode cX7_drawn 28 = .ok (.invokevirtual 93, 3) := by decide +kernel
theorem dX7_drawn_31 : decode cX7_drawn 31 = .ok (.ifCond .ne 6, 3) := by decide +kernel
theorem dX7_drawn_34 : decode cX7_drawn 34 = .ok (.bipush (-103), 2) := by decide +kernel
theorem dX7_drawn_36 : decode cX7_drawn 36 = .ok (.ireturn, 1) := by decide +kernel
theorem dX7_drawn_37 : decode cX7_drawn 37 = .ok (.iconst 0, 1) := by decide +kernel
theorem dX7_drawn_38 : decode cX7_drawn 38 = .ok (.istore 4, 2) := by decide +kernel
theorem dX7_drawn_40 : decode cX7_drawn 40 = .ok (.iconst 0, 1) := by decide +kernel
theorem dX7_drawn_41 : decode cX7_drawn 41 = .ok (.istore 5, 2) := by decide +kernel
theorem dX7_drawn_43 : decode cX7_drawn 43 = .ok (.iload_n 2, 1) := by decide +kernel
theorem dX7_drawn_44 : decode cX7_drawn 44 = .ok (.istore 6, 2) := by decide +kernel
theorem dX7_drawn_46 : decode cX7_drawn 46 = .ok (.iconst 0, 1) := by decide +kernel
theorem dX7_drawn_47 : decode cX7_drawn 47 = .ok (.istore 7, 2) := by decide +kernel
theorem dX7_drawn_49 : decode cX7_drawn 49 = .ok (.iload 7, 2) := by decide +kernel
theorem dX7_drawn_51 : decode cX7_drawn 51 = .ok (.iload_n 1, 1) := by decide +kernel
theorem dX7_drawn_52 : decode cX7_drawn 52 = .ok (.if_icmp .ge 44, 3) := by decide +kernel
theorem dX7_drawn_55 : decode cX7_drawn 55 = .ok (.aload_n 0, 1) := by decide +kernel
theorem dX7_drawn_56 : decode cX7_drawn 56 = .ok (.getfield 35, 3) := by decide +kernel
theorem dX7_drawn_59 : decode cX7_drawn 59 = .ok (.iload 6, 2) := by decide +kernel
theorem dX7_drawn_61 : decode cX7_drawn 61 = .ok (.invokevirtual 192, 3) := by decide +kernel
theorem dX7_drawn_64 : decode cX7_drawn 64 = .ok (.istore 6, 2) := by decide +kernel
theorem dX7_drawn_66 : decode cX7_drawn 66 = .ok (.iload 4, 2) := by decide +kernel
theorem dX7_drawn_68 : decode cX7_drawn 68 = .ok (.aload_n 0, 1) := by decide +kernel
theorem dX7_drawn_69 : decode cX7_drawn 69 = .ok (.getfield 35, 3) := by decide +kernel
theorem dX7_drawn_72 : decode cX7_drawn 72 = .ok (.getfield 136, 3) := by decide +kernel
theorem dX7_drawn_75 : decode cX7_drawn 75 = .ok (.iadd, 1) := by decide +kernel
theorem dX7_drawn_76 : decode cX7_drawn 76 = .ok (.istore 4, 2) := by decide +kernel
theorem dX7_drawn_78 : decode cX7_drawn 78 = .ok (.iload 5, 2) := by decide +kernel
theorem dX7_drawn_80 : decode cX7_drawn 80 = .ok (.aload_n 0, 1) := by decide +kernel
theorem dX7_drawn_81 : decode cX7_drawn 81 = .ok (.getfield 35, 3) := by decide +kernel
theorem dX7_drawn_84 : decode cX7_drawn 84 = .ok (.getfield 195, 3) := by decide +kernel
theorem dX7_drawn_87 : decode cX7_drawn 87 = .ok (.iadd, 1) := by decide +kernel
theorem dX7_drawn_88 : decode cX7_drawn 88 = .ok (.istore 5, 2) := by decide +kernel
theorem dX7_drawn_90 : decode cX7_drawn 90 = .ok (.iinc 7 1, 3) := by decide +kernel
theorem dX7_drawn_93 : decode cX7_drawn 93 = .ok (.goto (-44), 3) := by decide +kernel
theorem dX7_drawn_96 : decode cX7_drawn 96 = .ok (.iload_n 3, 1) := by decide +kernel
theorem dX7_drawn_97 : decode cX7_drawn 97 = .ok (.ifCond .ne 6, 3) := by decide +kernel
theorem dX7_drawn_100 : decode cX7_drawn 100 = .ok (.iload 4, 2) := by decide +kernel
theorem dX7_drawn_102 : decode cX7_drawn 102 = .ok (.ireturn, 1) := by decide +kernel
theorem dX7_drawn_103 : decode cX7_drawn 103 = .ok (.iload_n 3, 1) := by decide +kernel
theorem dX7_drawn_104 : decode cX7_drawn 104 = .ok (.iconst 1, 1) := by decide +kernel
theorem dX7_drawn_105 : decode cX7_drawn 105 = .ok (.if_icmp .ne 8, 3) := by decide +kernel
theorem dX7_drawn_108 : decode cX7_drawn 108 = .ok (.iload 5, 2) := by decide +kernel
theorem dX7_drawn_110 : decode cX7_drawn 110 = .ok (.goto 5, 3) := by decide +kernel
theorem dX7_drawn_113 : decode cX7_drawn 113 = .ok (.iload 6, 2) := by decide +kernel
theorem dX7_drawn_115 : decode cX7_drawn 115 = .ok (.ireturn, 1) := by decide +kernel
theorem dX7_image_0 : decode cX7_image 0 = .ok (.aload_n 0, 1) := by decide +kernel
theorem dX7_image_1 : decode cX7_image 1 = .ok (.invokevirtual 93, 3) := by decide +kernel
theorem dX7_image_4 : decode cX7_image 4 = .ok (.ifCond .ne 6, 3) := by decide +kernel
theorem dX7_image_7 : decode cX7_image 7 = .ok (.bipush (-103), 2) := by decide +kernel
theorem dX7_image_9 : decode cX7_image 9 = .ok (.ireturn, 1) := by decide +kernel
theorem dX7_image_10 : decode cX7_image 10 = .ok (.aload_n 0, 1) := by decide +kernel
theorem dX7_image_11 : decode cX7_image 11 = .ok (.getfield 23, 3) := by decide +kernel
theorem dX7_image_14 : decode cX7_image 14 = .ok (.aload_n 0, 1) := by decide +kernel
theorem dX7_image_15 : decode cX7_image 15 = .ok (.getfield 19, 3) := by decide +kernel
theorem dX7_image_18 : decode cX7_image 18 = .ok (.invokevirtual 196, 3) := by decide +kernel
theorem dX7_image_21 : decode cX7_image 21 = .ok (.aload_n 0, 1) := by decide +kernel
theorem dX7_image_22 : decode cX7_image 22 = .ok (.iconst 1, 1) := by decide +kernel
theorem dX7_image_23 : decode cX7_image 23 = .ok (.putfield 85, 3) := by decide +kernel
theorem dX7_image_26 : decode cX7_image 26 = .ok (.aload_n 0, 1) := by decide +kernel
theorem dX7_image_27 : decode cX7_image 27 = .ok (.getfield 19, 3) := by decide +kernel
theorem dX7_image_30 : decode cX7_image 30 = .ok (.getfield 28, 3) := by decide +kernel
theorem dX7_image_33 : decode cX7_image 33 = .ok (.getfield 92, 3) := by decide +kernel
theorem dX7_image_36 : decode cX7_image 36 = .ok (.ireturn, 1) := by decide +kernel
theorem dX7_restore_0 : decode cX7_restore 0 = .ok (.aload_n 0, 1) := by decide +kernel
theorem dX7_restore_1 : decode cX7_restore 1 = .ok (.getfield 85, 3) := by decide +kernel
theorem dX7_restore_4 : decode cX7_restore 4 = .ok (.ifCond .ne 6, 3) := by decide +kernel
theorem dX7_restore_7 : decode cX7_restore 7 = .ok (.bipush (-103), 2) := by decide +kernel
theorem dX7_restore_9 : decode cX7_restore 9 = .ok (.ireturn, 1) := by decide +kernel
theorem dX7_restore_10 : decode cX7_restore 10 = .ok (.aload_n 0, 1) := by decide +kernel
theorem dX7_restore_11 : decode cX7_restore 11 = .ok (.getfield 19, 3) := by decide +kernel
theorem dX7_restore_14 : decode cX7_restore 14 = .ok (.aload_n 0, 1) := by decide +kernel
theorem dX7_restore_15 : decode cX7_restore 15 = .ok (.getfield 23, 3) := by decide +kernel
theorem dX7_restore_18 : decode cX7_restore 18 = .ok (.invokevirtual 196, 3) := by decide +kernel
theorem dX7_restore_21 : decode cX7_restore 21 = .ok (.aload_n 0, 1) := by decide +kernel
theorem dX7_restore_22 : decode cX7_restore 22 = .ok (.getfield 19, 3) := by decide +kernel
theorem dX7_restore_25 : decode cX7_restore 25 = .ok (.getfield 28, 3) := by decide +kernel
theorem dX7_restore_28 : decode cX7_restore 28 = .ok (.getfield 92, 3) := by decide +kernel
theorem dX7_restore_31 : decode cX7_restore 31 = .ok (.ireturn, 1) := by decide +kernel
theorem dX7_count_0 : decode cX7_count 0 = .ok (.iload_n 1, 1) := by decide +kernel
theorem dX7_count_1 : decode cX7_count 1 = .ok (.tableswitch 150 0 9 #[55, 66, 77, 88, 99, 110, 121, 132, 140, 145], 55) := by decide +kernel
theorem dX7_count_56 : decode cX7_count 56 = .ok (.aload_n 0, 1) := by decide +kernel
theorem dX7_count_57 : decode cX7_count 57 = .ok (.getfield 19, 3) := by decide +kernel
theorem dX7_count_60 : decode cX7_count 60 = .ok (.getfield 28, 3) := by decide +kernel
theorem dX7_count_63 : decode cX7_count 63 = .ok (.getfield 92, 3) := by decide +kernel
theorem dX7_count_66 : decode cX7_count 66 = .ok (.ireturn, 1) := by decide +kernel
theorem dX7_count_67 : decode cX7_count 67 = .ok (.aload_n 0, 1) := by decide +kernel
theorem dX7_count_68 : decode cX7_count 68 = .ok (.getfield 19, 3) := by decide +kernel
theorem dX7_count_71 : decode cX7_count 71 = .ok (.getfield 70, 3) := by decide +kernel
theorem dX7_count_74 : decode cX7_count 74 = .ok (.invokevirtual 101, 3) := by decide +kernel
theorem dX7_count_77 : decode cX7_count 77 = .ok (.ireturn, 1) := by decide +kernel
theorem dX7_count_78 : decode cX7_count 78 = .ok (.aload_n 0, 1) := by decide +kernel
theorem dX7_count_79 : decode cX7_count 79 = .ok (.getfield 19, 3) := by decide +kernel
theorem dX7_count_82 : decode cX7_count 82 = .ok (.getfield 70, 3) := by decide +kernel
theorem dX7_count_85 : decode cX7_count 85 = .ok (.getfield 136, 3) := by decide +kernel
theorem dX7_count_88 : decode cX7_count 88 = .ok (.ireturn, 1) := by decide +kernel
theorem dX7_count_89 : decode cX7_count 89 = .ok (.aload_n 0, 1) := by decide +kernel
theorem dX7_count_90 : decode cX7_count 90 = .ok (.getfield 19, 3) := by decide +kernel
theorem dX7_count_93 : decode cX7_count 93 = .ok (.getfield 70, 3) := by decide +kernel
theorem dX7_count_96 : decode cX7_count 96 = .ok (.getfield 200, 3) := by decide +kernel
theorem dX7_count_99 : decode cX7_count 99 = .ok (.ireturn, 1) := by decide +kernel
theorem dX7_count_100 : decode cX7_count 100 = .ok (.aload_n 0, 1) := by decide +kernel
theorem dX7_count_101 : decode cX7_count 101 = .ok (.getfield 19, 3) := by decide +kernel
theorem dX7_count_104 : decode cX7_count 104 = .ok (.getfield 70, 3) := by decide +kernel
theorem dX7_count_107 : decode cX7_count 107 = .ok (.getfield 195, 3) := by decide +kernel
theorem dX7_count_110 : decode cX7_count 110 = .ok (.ireturn, 1) := by decide +kernel
theorem dX7_count_111 : decode cX7_count 111 = .ok (.aload_n 0, 1) := by decide +kernel
theorem dX7_count_112 : decode cX7_count 112 = .ok (.getfield 19, 3) := by decide +kernel
theorem dX7_count_115 : decode cX7_count 115 = .ok (.getfield 70, 3) := by decide +kernel
theorem dX7_count_118 : decode cX7_count 118 = .ok (.invokevirtual 201, 3) := by decide +kernel
theorem dX7_count_121 : decode cX7_count 121 = .ok (.ireturn, 1) := by decide +kernel
