theorem dX0_init_0 : decode cX0_init 0 = .ok (.aload_n 0, 1) := by decide +kernel
theorem dX0_init_1 : decode cX0_init 1 = .ok (.invokespecial 5, 3) := by decide +kernel
theorem dX0_init_4 : decode cX0_init 4 = .ok (.aload_n 0, 1) := by decide +kernel
theorem dX0_init_5 : decode cX0_init 5 = .ok (.bipush 40, 2) := by decide +kernel
theorem dX0_init_7 : decode cX0_init 7 = .ok (.newarray .int, 2) := by decide +kernel
theorem dX0_init_9 : decode cX0_init 9 = .ok (.putfield 11, 3) := by decide +kernel
theorem dX0_init_12 : decode cX0_init 12 = .ok (.return_, 1) := by decide +kernel
theorem dX0_put_0 : decode cX0_put 0 = .ok (.aload_n 0, 1) := by decide +kernel
theorem dX0_put_1 : decode cX0_put 1 = .ok (.getfield 15, 3) := by decide +kernel
theorem dX0_put_4 : decode cX0_put 4 = .ok (.ifCond .lt 32, 3) := by decide +kernel
theorem dX0_put_7 : decode cX0_put 7 = .ok (.aload_n 0, 1) := by decide +kernel
theorem dX0_put_8 : decode cX0_put 8 = .ok (.getfield 15, 3) := by decide +kernel
theorem dX0_put_11 : decode cX0_put 11 = .ok (.bipush 40, 2) := by decide +kernel
theorem dX0_put_13 : decode cX0_put 13 = .ok (.if_icmp .ge 23, 3) := by decide +kernel
theorem dX0_put_16 : decode cX0_put 16 = .ok (.aload_n 0, 1) := by decide +kernel
theorem dX0_put_17 : decode cX0_put 17 = .ok (.getfield 11, 3) := by decide +kernel
theorem dX0_put_20 : decode cX0_put 20 = .ok (.aload_n 0, 1) := by decide +kernel
theorem dX0_put_21 : decode cX0_put 21 = .ok (.getfield 15, 3) := by decide +kernel
theorem dX0_put_24 : decode cX0_put 24 = .ok (.iload_n 1, 1) := by decide +kernel
theorem dX0_put_25 : decode cX0_put 25 = .ok (.iastore, 1) := by decide +kernel
theorem dX0_put_26 : decode cX0_put 26 = .ok (.aload_n 0, 1) := by decide +kernel
theorem dX0_put_27 : decode cX0_put 27 = .ok (.dup, 1) := by decide +kernel
theorem dX0_put_28 : decode cX0_put 28 = .ok (.getfield 15, 3) := by decide +kernel
theorem dX0_put_31 : decode cX0_put 31 = .ok (.iconst 1, 1) := by decide +kernel
theorem dX0_put_32 : decode cX0_put 32 = .ok (.iadd, 1) := by decide +kernel
theorem dX0_put_33 : decode cX0_put 33 = .ok (.putfield 15, 3) := by decide +kernel
theorem dX0_put_36 : decode cX0_put 36 = .ok (.return_, 1) := by decide +kernel
theorem dX0_firstFault_0 : decode cX0_firstFault 0 = .ok (.iconst 0, 1) := by decide +kernel
theorem dX0_firstFault_1 : decode cX0_firstFault 1 = .ok (.istore_n 1, 1) := by decide +kernel
theorem dX0_firstFault_2 : decode cX0_firstFault 2 = .ok (.iload_n 1, 1) := by decide +kernel
theorem dX0_firstFault_3 : decode cX0_firstFault 3 = .ok (.aload_n 0, 1) := by decide +kernel
theorem dX0_firstFault_4 : decode cX0_firstFault 4 = .ok (.getfield 15, 3) := by decide +kernel
theorem dX0_firstFault_7 : decode cX0_firstFault 7 = .ok (.if_icmp .ge 19, 3) := by decide +kernel
theorem dX0_firstFault_10 : decode cX0_firstFault 10 = .ok (.aload_n 0, 1) := by decide +kernel
theorem dX0_firstFault_11 : decode cX0_firstFault 11 = .ok (.iload_n 1, 1) := by decide +kernel
theorem dX0_firstFault_12 : decode cX0_firstFault 12 = .ok (.invokevirtual 19, 3) := by decide +kernel
theorem dX0_firstFault_15 : decode cX0_firstFault 15 = .ok (.ifCond .ne 5, 3) := by decide +kernel
theorem dX0_firstFault_18 : decode cX0_firstFault 18 = .ok (.iload_n 1, 1) := by decide +kernel
theorem dX0_firstFault_19 : decode cX0_firstFault 19 = .ok (.ireturn, 1) := by decide +kernel
theorem dX0_firstFault_20 : decode cX0_firstFault 20 = .ok (.iinc 1 1, 3) := by decide +kernel
theorem dX0_firstFault_23 : decode cX0_firstFault 23 = .ok (.goto (-21), 3) := by decide +kernel
theorem dX0_firstFault_26 : decode cX0_firstFault 26 = .ok (.aload_n 0, 1) := by decide +kernel
theorem dX0_firstFault_27 : decode cX0_firstFault 27 = .ok (.getfield 15, 3) := by decide +kernel
theorem dX0_firstFault_30 : decode cX0_firstFault 30 = .ok (.ireturn, 1) := by decide +kernel
theorem dX0_isHouse_0 : decode cX0_isHouse 0 = .ok (.aload_n 0, 1) := by decide +kernel
theorem dX0_isHouse_1 : decode cX0_isHouse 1 = .ok (.invokevirtual 23, 3) := by decide +kernel
theorem dX0_isHouse_4 : decode cX0_isHouse 4 = .ok (.aload_n 0, 1) := by decide +kernel
theorem dX0_isHouse_5 : decode cX0_isHouse 5 = .ok (.getfield 15, 3) := by decide +kernel
theorem dX0_isHouse_8 : decode cX0_isHouse 8 = .ok (.if_icmp .ne 19, 3) := by decide +kernel
theorem dX0_isHouse_11 : decode cX0_isHouse 11 = .ok (.aload_n 0, 1) := by decide +kernel
theorem dX0_isHouse_12 : decode cX0_isHouse 12 = .ok (.getfield 15, 3) := by decide +kernel
theorem dX0_isHouse_15 : decode cX0_isHouse 15 = .ok (.bipush 7, 2) := by decide +kernel
theorem dX0_isHouse_17 : decode cX0_isHouse 17 = .ok (.irem, 1) := by decide +kernel
theorem dX0_isHouse_18 : decode cX0_isHouse 18 = .ok (.bipush 6, 2) := by decide +kernel
theorem dX0_isHouse_20 : decode cX0_isHouse 20 = .ok (.if_icmp .ne 7, 3) := by decide +kernel
theorem dX0_isHouse_23 : decode cX0_isHouse 23 = .ok (.iconst 1, 1) := by decide +kernel
theorem dX0_isHouse_24 : decode cX0_isHouse 24 = .ok (.goto 4, 3) := by decide +kernel
theorem dX0_isHouse_27 : decode cX0_isHouse 27 = .ok (.iconst 0, 1) := by decide +kernel
theorem dX0_isHouse_28 : decode cX0_isHouse 28 = .ok (.ireturn, 1) := by decide +kernel
theorem dX0_isPlan_0 : decode cX0_isPlan 0 = .ok (.aload_n 0, 1) := by decide +kernel
theorem dX0_isPlan_1 : decode cX0_isPlan 1 = .ok (.getfield 15, 3) := by decide +kernel
theorem dX0_isPlan_4 : decode cX0_isPlan 4 = .ok (.bipush 12, 2) := by decide +kernel
theorem dX0_isPlan_6 : decode cX0_isPlan 6 = .ok (.if_icmp .eq 5, 3) := by decide +kernel
theorem dX0_isPlan_9 : decode cX0_isPlan 9 = .ok (.iconst 0, 1) := by decide +kernel
theorem dX0_isPlan_10 : decode cX0_isPlan 10 = .ok (.ireturn, 1) := by decide +kernel
theorem dX0_isPlan_11 : decode cX0_isPlan 11 = .ok (.iconst 0, 1) := by decide +kernel
theorem dX0_isPlan_12 : decode cX0_isPlan 12 = .ok (.istore_n 2, 1) := by decide +kernel
theorem dX0_isPlan_13 : decode cX0_isPlan 13 = .ok (.iload_n 2, 1) := by decide +kernel
theorem dX0_isPlan_14 : decode cX0_isPlan 14 = .ok (.bipush 12, 2) := by decide +kernel
theorem dX0_isPlan_16 : decode cX0_isPlan 16 = .ok (.if_icmp .ge 38, 3) := by decide +kernel
theorem dX0_isPlan_19 : decode cX0_isPlan 19 = .ok (.aload_n 0, 1) := by decide +kernel
theorem dX0_isPlan_20 : decode cX0_isPlan 20 = .ok (.getfield 11, 3) := by decide +kernel
theorem dX0_isPlan_23 : decode cX0_isPlan 23 = .ok (.iload_n 2, 1) := by decide +kernel
theorem dX0_isPlan_24 : decode cX0_isPlan 24 = .ok (.iaload, 1) := by decide +kernel
theorem dX0_isPlan_25 : decode cX0_isPlan 25 = .ok (.bipush 46, 2) := by decide +kernel
theorem dX0_isPlan_27 : decode cX0_isPlan 27 = .ok (.if_icmp .eq 21, 3) := by decide +kernel
theorem dX0_isPlan_30 : decode cX0_isPlan 30 = .ok (.aload_n 0, 1) := by decide +kernel
theorem dX0_isPlan_31 : decode cX0_isPlan 31 = .ok (.iload_n 2, 1) := by decide +kernel
theorem dX0_isPlan_32 : decode cX0_isPlan 32 = .ok (.bipush 48, 2) := by decide +kernel
theorem dX0_isPlan_34 : decode cX0_isPlan 34 = .ok (.bipush 48, 2) := by decide +kernel
theorem dX0_isPlan_36 : decode cX0_isPlan 36 = .ok (.iload_n 1, 1) := by decide +kernel
theorem dX0_isPlan_37 : decode cX0_isPlan 37 = .ok (.iadd, 1) := by decide +kernel
theorem dX0_isPlan_38 : decode cX0_isPlan 38 = .ok (.iconst 1, 1) := by decide +kernel
theorem dX0_isPlan_39 : decode cX0_isPlan 39 = .ok (.isub, 1) := by decide +kernel
theorem dX0_isPlan_40 : decode cX0_isPlan 40 = .ok (.invokevirtual 27, 3) := by decide +kernel
theorem dX0_isPlan_43 : decode cX0_isPlan 43 = .ok (.ifCond .ne 5, 3) := by decide +kernel
theorem dX0_isPlan_46 : decode cX0_isPlan 46 = .ok (.iconst 0, 1) := by decide +kernel
theorem dX0_isPlan_47 : decode cX0_isPlan 47 = .ok (.ireturn, 1) := by decide +kernel
theorem dX0_isPlan_48 : decode cX0_isPlan 48 = .ok (.iinc 2 1, 3) := by decide +kernel
theorem dX0_isPlan_51 : decode cX0_isPlan 51 = .ok (.goto (-38), 3) := by decide +kernel
theorem dX0_isPlan_54 : decode cX0_isPlan 54 = .ok (.iconst 1, 1) := by decide +kernel
theorem dX0_isPlan_55 : decode cX0_isPlan 55 = .ok (.ireturn, 1) := by decide +kernel
theorem dX0_fits_0 : decode cX0_fits 0 = .ok (.iload_n 1, 1) := by decide +kernel
theorem dX0_fits_1 : decode cX0_fits 1 = .ok (.ifCond .lt 9, 3) := by decide +kernel
theorem dX0_fits_4 : decode cX0_fits 4 = .ok (.iload_n 1, 1) := by decide +kernel
theorem dX0_fits_5 : decode cX0_fits 5 = .ok (.bipush 34, 2) := by decide +kernel
theorem dX0_fits_7 : decode cX0_fits 7 = .ok (.if_icmp .lt 5, 3) := by decide +kernel
theorem dX0_fits_10 : decode cX0_fits 10 = .ok (.iconst 0, 1) := by decide +kernel
theorem dX0_fits_11 : decode cX0_fits 11 = .ok (.ireturn, 1) := by decide +kernel
theorem dX0_fits_12 : decode cX0_fits 12 = .ok (.iload_n 1, 1) := by decide +kernel
theorem dX0_fits_13 : decode cX0_fits 13 = .ok (.bipush 7, 2) := by decide +kernel
theorem dX0_fits_15 : decode cX0_fits 15 = .ok (.irem, 1) := by decide +kernel
theorem dX0_fits_16 : decode cX0_fits 16 = .ok (.tableswitch 117 0 5 #[40, 61, 71, 81, 91, 107], 40) := by decide +kernel
theorem dX0_fits_56 : decode cX0_fits 56 = .ok (.ldc 31, 2) := by decide +kernel
theorem dX0_fits_58 : decode cX0_fits 58 = .ok (.aload_n 0, 1) := by decide +kernel
theorem dX0_fits_59 : decode cX0_fits 59 = .ok (.getfield 11, 3) := by decide +kernel
theorem dX0_fits_62 : decode cX0_fits 62 = .ok (.iload_n 1, 1) := by decide +kernel
theorem dX0_fits_63 : decode cX0_fits 63 = .ok (.iaload, 1) := by decide +kernel
theorem dX0_fits_64 : decode cX0_fits 64 = .ok (.i2c, 1) := by decide +kernel
theorem dX0_fits_65 : decode cX0_fits 65 = .ok (.invokevirtual 33, 3) := by decide +kernel
theorem dX0_fits_68 : decode cX0_fits 68 = .ok (.ifCond .lt 7, 3) := by decide +kernel
theorem dX0_fits_71 : decode cX0_fits 71 = .ok (.iconst 1, 1) := by decide +kernel
theorem dX0_fits_72 : decode cX0_fits 72 = .ok (.goto 4, 3) := by decide +kernel
theorem dX0_fits_75 : decode cX0_fits 75 = .ok (.iconst 0, 1) := by decide +kernel
theorem dX0_fits_76 : decode cX0_fits 76 = .ok (.ireturn, 1) := by decide +kernel
theorem dX0_fits_77 : decode cX0_fits 77 = .ok (.aload_n 0, 1) := by decide +kernel
theorem dX0_fits_78 : decode cX0_fits 78 = .ok (.iload_n 1, 1) := by decide +kernel
theorem dX0_fits_79 : decode cX0_fits 79 = .ok (.bipush 48, 2) := by decide +kernel
theorem dX0_fits_81 : decode cX0_fits 81 = .ok (.bipush 52, 2) := by decide +kernel
theorem dX0_fits_83 : decode cX0_fits 83 = .ok (.invokevirtual 27, 3) := by decide +kernel
theorem dX0_fits_86 : decode cX0_fits 86 = .ok (.ireturn, 1) := by decide +kernel
theorem dX0_fits_87 : decode cX0_fits 87 = .ok (.aload_n 0, 1) := by decide +kernel
theorem dX0_fits_88 : decode cX0_fits 88 = .ok (.iload_n 1, 1) := by decide +kernel
theorem dX0_fits_89 : decode cX0_fits 89 = .ok (.bipush 48, 2) := by decide +kernel
theorem dX0_fits_91 : decode cX0_fits 91 = .ok (.bipush 52, 2) := by decide +kernel
theorem dX0_fits_93 : decode cX0_fits 93 = .ok (.invokevirtual 27, 3) := by decide +kernel
theorem dX0_fits_96 : decode cX0_fits 96 = .ok (.ireturn, 1) := by decide +kernel
theorem dX0_fits_97 : decode cX0_fits 97 = .ok (.aload_n 0, 1) := by decide +kernel
theorem dX0_fits_98 : decode cX0_fits 98 = .ok (.iload_n 1, 1) := by decide +kernel
theorem dX0_fits_99 : decode cX0_fits 99 = .ok (.bipush 97, 2) := by decide +kernel
theorem dX0_fits_101 : decode cX0_fits 101 = .ok (.bipush 108, 2) := by decide +kernel
theorem dX0_fits_103 : decode cX0_fits 103 = .ok (.invokevirtual 27, 3) := by decide +kernel
theorem dX0_fits_106 : decode cX0_fits 106 = .ok (.ireturn, 1) := by decide +kernel
theorem dX0_fits_107 : decode cX0_fits 107 = .ok (.aload_n 0, 1) := by decide +kernel
theorem dX0_fits_108 : decode cX0_fits 108 = .ok (.iload_n 1, 1) := by decide +kernel
theorem dX0_fits_109 : decode cX0_fits 109 = .ok (.aload_n 0, 1) := by decide +kernel
theorem dX0_fits_110 : decode cX0_fits 110 = .ok (.getfield 11, 3) := by decide +kernel
theorem dX0_fits_113 : decode cX0_fits 113 = .ok (.iload_n 1, 1) := by decide +kernel
theorem dX0_fits_114 : decode cX0_fits 114 = .ok (.iconst 1, 1) := by decide +kernel
theorem dX0_fits_115 : decode cX0_fits 115 = .ok (.isub, 1) := by decide +kernel
theorem dX0_fits_116 : decode cX0_fits 116 = .ok (.iaload, 1) := by decide +kernel
theorem dX0_fits_117 : decode cX0_fits 117 = .ok (.bipush 108, 2) := by decide +kernel
theorem dX0_fits_119 : decode cX0_fits 119 = .ok (.invokevirtual 27, 3) := by decide +kernel
theorem dX0_fits_122 : decode cX0_fits 122 = .ok (.ireturn, 1) := by decide +kernel
theorem dX0_fits_123 : decode cX0_fits 123 = .ok (.aload_n 0, 1) := by decide +kernel
theorem dX0_fits_124 : decode cX0_fits 124 = .ok (.iload_n 1, 1) := by decide +kernel
theorem dX0_fits_125 : decode cX0_fits 125 = .ok (.bipush 49, 2) := by decide +kernel
theorem dX0_fits_127 : decode cX0_fits 127 = .ok (.bipush 57, 2) := by decide +kernel
theorem dX0_fits_129 : decode cX0_fits 129 = .ok (.invokevirtual 27, 3) := by decide +kernel
theorem dX0_fits_132 : decode cX0_fits 132 = .ok (.ireturn, 1) := by decide +kernel
theorem dX0_fits_133 : decode cX0_fits 133 = .ok (.aload_n 0, 1) := by decide +kernel
theorem dX0_fits_134 : decode cX0_fits 134 = .ok (.getfield 11, 3) := by decide +kernel
theorem dX0_fits_137 : decode cX0_fits 137 = .ok (.iload_n 1, 1) := by decide +kernel
theorem dX0_fits_138 : decode cX0_fits 138 = .ok (.iaload, 1) := by decide +kernel
theorem dX0_fits_139 : decode cX0_fits 139 = .ok (.bipush 44, 2) := by decide +kernel
theorem dX0_fits_141 : decode cX0_fits 141 = .ok (.if_icmp .ne 7, 3) := by decide +kernel
theorem dX0_fits_144 : decode cX0_fits 144 = .ok (.iconst 1, 1) := by decide +kernel
theorem dX0_fits_145 : decode cX0_fits 145 = .ok (.goto 4, 3) := by decide +kernel
theorem dX0_fits_148 : decode cX0_fits 148 = .ok (.iconst 0, 1) := by decide +kernel
theorem dX0_fits_149 : decode cX0_fits 149 = .ok (.ireturn, 1) := by decide +kernel
theorem dX0_isWithin_0 : decode cX0_isWithin 0 = .ok (.aload_n 0, 1) := by decide +kernel
theorem dX0_isWithin_1 : decode cX0_isWithin 1 = .ok (.getfield 11, 3) := by decide +kernel
theorem dX0_isWithin_4 : decode cX0_isWithin 4 = .ok (.iload_n 1, 1) := by decide +kernel
theorem dX0_isWithin_5 : decode cX0_isWithin 5 = .ok (.iaload, 1) := by decide +kernel
theorem dX0_isWithin_6 : decode cX0_isWithin 6 = .ok (.iload_n 2, 1) := by decide +kernel
theorem dX0_isWithin_7 : decode cX0_isWithin 7 = .ok (.if_icmp .lt 17, 3) := by decide +kernel
theorem dX0_isWithin_10 : decode cX0_isWithin 10 = .ok (.aload_n 0, 1) := by decide +kernel
theorem dX0_isWithin_11 : decode cX0_isWithin 11 = .ok (.getfield 11, 3) := by decide +kernel
theorem dX0_isWithin_14 : decode cX0_isWithin 14 = .ok (.iload_n 1, 1) := by decide +kernel
theorem dX0_isWithin_15 : decode cX0_isWithin 15 = .ok (.iaload, 1) := by decide +kernel
theorem dX0_isWithin_16 : decode cX0_isWithin 16 = .ok (.iload_n 3, 1) := by decide +kernel
theorem dX0_isWithin_17 : decode cX0_isWithin 17 = .ok (.if_icmp .gt 7, 3) := by decide +kernel
theorem dX0_isWithin_20 : decode cX0_isWithin 20 = .ok (.iconst 1, 1) := by decide +kernel
theorem dX0_isWithin_21 : decode cX0_isWithin 21 = .ok (.goto 4, 3) := by decide +kernel
theorem dX0_isWithin_24 : decode cX0_isWithin 24 = .ok (.iconst 0, 1) := by decide +kernel
theorem dX0_isWithin_25 : decode cX0_isWithin 25 = .ok (.ireturn, 1) := by decide +kernel
theorem dX1_init_0 : decode cX1_init 0 = .ok (.aload_n 0, 1) := by decide +kernel
theorem dX1_init_1 : decode cX1_init 1 = .ok (.invokespecial 3, 3) := by decide +kernel
theorem dX1_init_4 : decode cX1_init 4 = .ok (.aload_n 0, 1) := by decide +kernel
theorem dX1_init_5 : decode cX1_init 5 = .ok (.bipush 12, 2) := by decide +kernel
theorem dX1_init_7 : decode cX1_init 7 = .ok (.newarray .int, 2) := by decide +kernel
theorem dX1_init_9 : decode cX1_init 9 = .ok (.putfield 9, 3) := by decide +kernel
theorem dX1_init_12 : decode cX1_init 12 = .ok (.aload_n 0, 1) := by decide +kernel
theorem dX1_init_13 : decode cX1_init 13 = .ok (.bipush 12, 2) := by decide +kernel
theorem dX1_init_15 : decode cX1_init 15 = .ok (.newarray .int, 2) := by decide +kernel
theorem dX1_init_17 : decode cX1_init 17 = .ok (.putfield 15, 3) := by decide +kernel
theorem dX1_init_20 : decode cX1_init 20 = .ok (.aload_n 0, 1) := by decide +kernel
theorem dX1_init_21 : decode cX1_init 21 = .ok (.bipush 12, 2) := by decide +kernel
theorem dX1_init_23 : decode cX1_init 23 = .ok (.newarray .int, 2) := by decide +kernel
theorem dX1_init_25 : decode cX1_init 25 = .ok (.putfield 18, 3) := by decide +kernel
theorem dX1_init_28 : decode cX1_init 28 = .ok (.aload_n 0, 1) := by decide +kernel
theorem dX1_init_29 : decode cX1_init 29 = .ok (.iconst 5, 1) := by decide +kernel
theorem dX1_init_30 : decode cX1_init 30 = .ok (.newarray .int, 2) := by decide +kernel
theorem dX1_init_32 : decode cX1_init 32 = .ok (.putfield 21, 3) := by decide +kernel
theorem dX1_init_35 : decode cX1_init 35 = .ok (.aload_n 0, 1) := by decide +kernel
theorem dX1_init_36 : decode cX1_init 36 = .ok (.iconst 5, 1) := by decide +kernel
theorem dX1_init_37 : decode cX1_init 37 = .ok (.newarray .int, 2) := by decide +kernel
theorem dX1_init_39 : decode cX1_init 39 = .ok (.putfield 24, 3) := by decide +kernel
theorem dX1_init_42 : decode cX1_init 42 = .ok (.aload_n 0, 1) := by decide +kernel
theorem dX1_init_43 : decode cX1_init 43 = .ok (.iconst 5, 1) := by decide +kernel
theorem dX1_init_44 : decode cX1_init 44 = .ok (.newarray .int, 2) := by decide +kernel
theorem dX1_init_46 : decode cX1_init 46 = .ok (.putfield 27, 3) := by decide +kernel
theorem dX1_init_49 : decode cX1_init 49 = .ok (.aload_n 0, 1) := by decide +kernel
theorem dX1_init_50 : decode cX1_init 50 = .ok (.aload_n 1, 1) := by decide +kernel
theorem dX1_init_51 : decode cX1_init 51 = .ok (.putfield 30, 3) := by decide +kernel
theorem dX1_init_54 : decode cX1_init 54 = .ok (.aload_n 0, 1) := by decide +kernel
theorem dX1_init_55 : decode cX1_init 55 = .ok (.getfield 9, 3) := by decide +kernel
theorem dX1_init_58 : decode cX1_init 58 = .ok (.iconst (-1), 1) := by decide +kernel
theorem dX1_init_59 : decode cX1_init 59 = .ok (.invokestatic 34, 3) := by decide +kernel
theorem dX1_init_62 : decode cX1_init 62 = .ok (.aload_n 0, 1) := by decide +kernel
theorem dX1_init_63 : decode cX1_init 63 = .ok (.bipush 12, 2) := by decide +kernel
theorem dX1_init_65 : decode cX1_init 65 = .ok (.putfield 40, 3) := by decide +kernel
theorem dX1_init_68 : decode cX1_init 68 = .ok (.return_, 1) := by decide +kernel
theorem dX1_darken_0 : decode cX1_darken 0 = .ok (.aload_n 0, 1) := by decide +kernel
theorem dX1_darken_1 : decode cX1_darken 1 = .ok (.getfield 9, 3) := by decide +kernel
theorem dX1_darken_4 : decode cX1_darken 4 = .ok (.iconst (-1), 1) := by decide +kernel
theorem dX1_darken_5 : decode cX1_darken 5 = .ok (.invokestatic 34, 3) := by decide +kernel
theorem dX1_darken_8 : decode cX1_darken 8 = .ok (.aload_n 0, 1) := by decide +kernel
theorem dX1_darken_9 : decode cX1_darken 9 = .ok (.invokevirtual 44, 3) := by decide +kernel
theorem dX1_darken_12 : decode cX1_darken 12 = .ok (.return_, 1) := by decide +kernel
theorem dX1_read_0 : decode cX1_read 0 = .ok (.iconst 0, 1) := by decide +kernel
theorem dX1_read_1 : decode cX1_read 1 = .ok (.istore_n 2, 1) := by decide +kernel
theorem dX1_read_2 : decode cX1_read 2 = .ok (.iload_n 2, 1) := by decide +kernel
theorem dX1_read_3 : decode cX1_read 3 = .ok (.bipush 12, 2) := by decide +kernel
theorem dX1_read_5 : decode cX1_read 5 = .ok (.if_icmp .ge 39, 3) := by decide +kernel
theorem dX1_read_8 : decode cX1_read 8 = .ok (.aload_n 0, 1) := by decide +kernel
theorem dX1_read_9 : decode cX1_read 9 = .ok (.getfield 9, 3) := by decide +kernel
theorem dX1_read_12 : decode cX1_read 12 = .ok (.iload_n 2, 1) := by decide +kernel
theorem dX1_read_13 : decode cX1_read 13 = .ok (.aload_n 1, 1) := by decide +kernel
theorem dX1_read_14 : decode cX1_read 14 = .ok (.getfield 47, 3) := by decide +kernel
theorem dX1_read_17 : decode cX1_read 17 = .ok (.iload_n 2, 1) := by decide +kernel
theorem dX1_read_18 : decode cX1_read 18 = .ok (.iaload, 1) := by decide +kernel
theorem dX1_read_19 : decode cX1_read 19 = .ok (.bipush 46, 2) := by decide +kernel
theorem dX1_read_21 : decode cX1_read 21 = .ok (.if_icmp .ne 7, 3) := by decide +kernel
theorem dX1_read_24 : decode cX1_read 24 = .ok (.iconst (-1), 1) := by decide +kernel
theorem dX1_read_25 : decode cX1_read 25 = .ok (.goto 12, 3) := by decide +kernel
theorem dX1_read_28 : decode cX1_read 28 = .ok (.aload_n 1, 1) := by decide +kernel
theorem dX1_read_29 : decode cX1_read 29 = .ok (.getfield 47, 3) := by decide +kernel
theorem dX1_read_32 : decode cX1_read 32 = .ok (.iload_n 2, 1) := by decide +kernel
theorem dX1_read_33 : decode cX1_read 33 = .ok (.iaload, 1) := by decide +kernel
theorem dX1_read_34 : decode cX1_read 34 = .ok (.bipush 48, 2) := by decide +kernel
theorem dX1_read_36 : decode cX1_read 36 = .ok (.isub, 1) := by decide +kernel
theorem dX1_read_37 : decode cX1_read 37 = .ok (.iastore, 1) := by decide +kernel
theorem dX1_read_38 : decode cX1_read 38 = .ok (.iinc 2 1, 3) := by decide +kernel
theorem dX1_read_41 : decode cX1_read 41 = .ok (.goto (-39), 3) := by decide +kernel
theorem dX1_read_44 : decode cX1_read 44 = .ok (.aload_n 0, 1) := by decide +kernel
theorem dX1_read_45 : decode cX1_read 45 = .ok (.invokevirtual 44, 3) := by decide +kernel
theorem dX1_read_48 : decode cX1_read 48 = .ok (.return_, 1) := by decide +kernel
theorem dX1_take_0 : decode cX1_take 0 = .ok (.aload_n 1, 1) := by decide +kernel
theorem dX1_take_1 : decode cX1_take 1 = .ok (.iconst 0, 1) := by decide +kernel
theorem dX1_take_2 : decode cX1_take 2 = .ok (.aload_n 0, 1) := by decide +kernel
theorem dX1_take_3 : decode cX1_take 3 = .ok (.getfield 9, 3) := by decide +kernel
theorem dX1_take_6 : decode cX1_take 6 = .ok (.iconst 0, 1) := by decide +kernel
theorem dX1_take_7 : decode cX1_take 7 = .ok (.bipush 12, 2) := by decide +kernel
theorem dX1_take_9 : decode cX1_take 9 = .ok (.invokestatic 52, 3) := by decide +kernel
theorem dX1_take_12 : decode cX1_take 12 = .ok (.aload_n 0, 1) := by decide +kernel
theorem dX1_take_13 : decode cX1_take 13 = .ok (.invokevirtual 44, 3) := by decide +kernel
theorem dX1_take_16 : decode cX1_take 16 = .ok (.return_, 1) := by decide +kernel
theorem dX1_shift_0 : decode cX1_shift 0 = .ok (.bipush 11, 2) := by decide +kernel
theorem dX1_shift_2 : decode cX1_shift 2 = .ok (.istore_n 2, 1) := by decide +kernel
theorem dX1_shift_3 : decode cX1_shift 3 = .ok (.iload_n 2, 1) := by decide +kernel
theorem dX1_shift_4 : decode cX1_shift 4 = .ok (.ifCond .lt 36, 3) := by decide +kernel
theorem dX1_shift_7 : decode cX1_shift 7 = .ok (.iload_n 2, 1) := by decide +kernel
theorem dX1_shift_8 : decode cX1_shift 8 = .ok (.iload_n 1, 1) := by decide +kernel
theorem dX1_shift_9 : decode cX1_shift 9 = .ok (.isub, 1) := by decide +kernel
theorem dX1_shift_10 : decode cX1_shift 10 = .ok (.istore_n 3, 1) := by decide +kernel
theorem dX1_shift_11 : decode cX1_shift 11 = .ok (.aload_n 0, 1) := by decide +kernel
theorem dX1_shift_12 : decode cX1_shift 12 = .ok (.getfield 9, 3) := by decide +kernel
theorem dX1_shift_15 : decode cX1_shift 15 = .ok (.iload_n 2, 1) := by decide +kernel
theorem dX1_shift_16 : decode cX1_shift 16 = .ok (.iload_n 3, 1) := by decide +kernel
theorem dX1_shift_17 : decode cX1_shift 17 = .ok (.invokestatic 58, 3) := by decide +kernel
theorem dX1_shift_20 : decode cX1_shift 20 = .ok (.ifCond .eq 12, 3) := by decide +kernel
theorem dX1_shift_23 : decode cX1_shift 23 = .ok (.aload_n 0, 1) := by decide +kernel
theorem dX1_shift_24 : decode cX1_shift 24 = .ok (.getfield 9, 3) := by decide +kernel
theorem dX1_shift_27 : decode cX1_shift 27 = .ok (.iload_n 3, 1) := by decide +kernel
theorem dX1_shift_28 : decode cX1_shift 28 = .ok (.iaload, 1) := by decide +kernel
theorem dX1_shift_29 : decode cX1_shift 29 = .ok (.goto 4, 3) := by decide +kernel
theorem dX1_shift_32 : decode cX1_shift 32 = .ok (.iconst (-1), 1) := by decide +kernel
theorem dX1_shift_33 : decode cX1_shift 33 = .ok (.iastore, 1) := by decide +kernel
theorem dX1_shift_34 : decode cX1_shift 34 = .ok (.iinc 2 (-1), 3) := by decide +kernel
theorem dX1_shift_37 : decode cX1_shift 37 = .ok (.goto (-34), 3) := by decide +kernel
theorem dX1_shift_40 : decode cX1_shift 40 = .ok (.aload_n 0, 1) := by decide +kernel
theorem dX1_shift_41 : decode cX1_shift 41 = .ok (.invokevirtual 44, 3) := by decide +kernel
theorem dX1_shift_44 : decode cX1_shift 44 = .ok (.return_, 1) := by decide +kernel
theorem dX1_drawAll_0 : decode cX1_drawAll 0 = .ok (.iload_n 1, 1) := by decide +kernel
theorem dX1_drawAll_1 : decode cX1_drawAll 1 = .ok (.i2l, 1) := by decide +kernel
theorem dX1_drawAll_2 : decode cX1_drawAll 2 = .ok (.lstore_n 2, 1) := by decide +kernel
theorem dX1_drawAll_3 : decode cX1_drawAll 3 = .ok (.iconst 0, 1) := by decide +kernel
theorem dX1_drawAll_4 : decode cX1_drawAll 4 = .ok (.istore 4, 2) := by decide +kernel
theorem dX1_drawAll_6 : decode cX1_drawAll 6 = .ok (.iload 4, 2) := by decide +kernel
theorem dX1_drawAll_8 : decode cX1_drawAll 8 = .ok (.bipush 12, 2) := by decide +kernel
theorem dX1_drawAll_10 : decode cX1_drawAll 10 = .ok (.if_icmp .ge 49, 3) := by decide +kernel
theorem dX1_drawAll_13 : decode cX1_drawAll 13 = .ok (.ldc2_w 62, 3) := by decide +kernel
theorem dX1_drawAll_16 : decode cX1_drawAll 16 = .ok (.lload_n 2, 1) := by decide +kernel
theorem dX1_drawAll_17 : decode cX1_drawAll 17 = .ok (.lmul, 1) := by decide +kernel
theorem dX1_drawAll_18 : decode cX1_drawAll 18 = .ok (.ldc2_w 64, 3) := by decide +kernel
theorem dX1_drawAll_21 : decode cX1_drawAll 21 = .ok (.ladd, 1) := by decide +kernel
theorem dX1_drawAll_22 : decode cX1_drawAll 22 = .ok (.ldc2_w 66, 3) := by decide +kernel
theorem dX1_drawAll_25 : decode cX1_drawAll 25 = .ok (.lrem, 1) := by decide +kernel
theorem dX1_drawAll_26 : decode cX1_drawAll 26 = .ok (.lstore_n 2, 1) := by decide +kernel
theorem dX1_drawAll_27 : decode cX1_drawAll 27 = .ok (.aload_n 0, 1) := by decide +kernel
theorem dX1_drawAll_28 : decode cX1_drawAll 28 = .ok (.getfield 9, 3) := by decide +kernel
theorem dX1_drawAll_31 : decode cX1_drawAll 31 = .ok (.iload 4, 2) := by decide +kernel
theorem dX1_drawAll_33 : decode cX1_drawAll 33 = .ok (.lload_n 2, 1) := by decide +kernel
theorem dX1_drawAll_34 : decode cX1_drawAll 34 = .ok (.ldc2_w 68, 3) := by decide +kernel
theorem dX1_drawAll_37 : decode cX1_drawAll 37 = .ok (.ldiv, 1) := by decide +kernel
theorem dX1_drawAll_38 : decode cX1_drawAll 38 = .ok (.aload_n 0, 1) := by decide +kernel
theorem dX1_drawAll_39 : decode cX1_drawAll 39 = .ok (.getfield 30, 3) := by decide +kernel
theorem dX1_drawAll_42 : decode cX1_drawAll 42 = .ok (.getfield 70, 3) := by decide +kernel
theorem dX1_drawAll_45 : decode cX1_drawAll 45 = .ok (.iconst 1, 1) := by decide +kernel
theorem dX1_drawAll_46 : decode cX1_drawAll 46 = .ok (.iadd, 1) := by decide +kernel
theorem dX1_drawAll_47 : decode cX1_drawAll 47 = .ok (.i2l, 1) := by decide +kernel
theorem dX1_drawAll_48 : decode cX1_drawAll 48 = .ok (.lrem, 1) := by decide +kernel
theorem dX1_drawAll_49 : decode cX1_drawAll 49 = .ok (.l2i, 1) := by decide +kernel
theorem dX1_drawAll_50 : decode cX1_drawAll 50 = .ok (.iconst 1, 1) := by decide +kernel
theorem dX1_drawAll_51 : decode cX1_drawAll 51 = .ok (.isub, 1) := by decide +kernel
theorem dX1_drawAll_52 : decode cX1_drawAll 52 = .ok (.iastore, 1) := by decide +kernel
theorem dX1_drawAll_53 : decode cX1_drawAll 53 = .ok (.iinc 4 1, 3) := by decide +kernel
theorem dX1_drawAll_56 : decode cX1_drawAll 56 = .ok (.goto (-50), 3) := by decide +kernel
theorem dX1_drawAll_59 : decode cX1_drawAll 59 = .ok (.aload_n 0, 1) := by decide +kernel
theorem dX1_drawAll_60 : decode cX1_drawAll 60 = .ok (.invokevirtual 44, 3) := by decide +kernel
theorem dX1_drawAll_63 : decode cX1_drawAll 63 = .ok (.lload_n 2, 1) := by decide +kernel
theorem dX1_drawAll_64 : decode cX1_drawAll 64 = .ok (.l2i, 1) := by decide +kernel
theorem dX1_drawAll_65 : decode cX1_drawAll 65 = .ok (.ireturn, 1) := by decide +kernel
theorem dX1_darkWithin_0 : decode cX1_darkWithin 0 = .ok (.iconst 0, 1) := by decide +kernel
theorem dX1_darkWithin_1 : decode cX1_darkWithin 1 = .ok (.istore_n 3, 1) := by decide +kernel
theorem dX1_darkWithin_2 : decode cX1_darkWithin 2 = .ok (.iload_n 1, 1) := by decide +kernel
theorem dX1_darkWithin_3 : decode cX1_darkWithin 3 = .ok (.istore 4, 2) := by decide +kernel
theorem dX1_darkWithin_5 : decode cX1_darkWithin 5 = .ok (.iload 4, 2) := by decide +kernel
theorem dX1_darkWithin_7 : decode cX1_darkWithin 7 = .ok (.iload_n 2, 1) := by decide +kernel
theorem dX1_darkWithin_8 : decode cX1_darkWithin 8 = .ok (.if_icmp .gt 33, 3) := by decide +kernel
theorem dX1_darkWithin_11 : decode cX1_darkWithin 11 = .ok (.iload 4, 2) := by decide +kernel
theorem dX1_darkWithin_13 : decode cX1_darkWithin 13 = .ok (.bipush 12, 2) := by decide +kernel
theorem dX1_darkWithin_15 : decode cX1_darkWithin 15 = .ok (.if_icmp .ge 26, 3) := by decide +kernel
theorem dX1_darkWithin_18 : decode cX1_darkWithin 18 = .ok (.iload_n 3, 1) := by decide +kernel
theorem dX1_darkWithin_19 : decode cX1_darkWithin 19 = .ok (.aload_n 0, 1) := by decide +kernel
theorem dX1_darkWithin_20 : decode cX1_darkWithin 20 = .ok (.iload 4, 2) := by decide +kernel
theorem dX1_darkWithin_22 : decode cX1_darkWithin 22 = .ok (.invokevirtual 75, 3) := by decide +kernel
theorem dX1_darkWithin_25 : decode cX1_darkWithin 25 = .ok (.ifCond .eq 7, 3) := by decide +kernel
theorem dX1_darkWithin_28 : decode cX1_darkWithin 28 = .ok (.iconst 1, 1) := by decide +kernel
theorem dX1_darkWithin_29 : decode cX1_darkWithin 29 = .ok (.goto 4, 3) := by decide +kernel
theorem dX1_darkWithin_32 : decode cX1_darkWithin 32 = .ok (.iconst 0, 1) := by decide +kernel
theorem dX1_darkWithin_33 : decode cX1_darkWithin 33 = .ok (.iadd, 1) := by decide +kernel
theorem dX1_darkWithin_34 : decode cX1_darkWithin 34 = .ok (.istore_n 3, 1) := by decide +kernel
theorem dX1_darkWithin_35 : decode cX1_darkWithin 35 = .ok (.iinc 4 1, 3) := by decide +kernel
theorem dX1_darkWithin_38 : decode cX1_darkWithin 38 = .ok (.goto (-33), 3) := by decide +kernel
theorem dX1_darkWithin_41 : decode cX1_darkWithin 41 = .ok (.iload_n 3, 1) := by decide +kernel
theorem dX1_darkWithin_42 : decode cX1_darkWithin 42 = .ok (.ireturn, 1) := by decide +kernel
theorem dX1_isDark_0 : decode cX1_isDark 0 = .ok (.aload_n 0, 1) := by decide +kernel
theorem dX1_isDark_1 : decode cX1_isDark 1 = .ok (.iload_n 1, 1) := by decide +kernel
theorem dX1_isDark_2 : decode cX1_isDark 2 = .ok (.invokevirtual 78, 3) := by decide +kernel
theorem dX1_isDark_5 : decode cX1_isDark 5 = .ok (.iconst (-1), 1) := by decide +kernel
theorem dX1_isDark_6 : decode cX1_isDark 6 = .ok (.if_icmp .ne 7, 3) := by decide +kernel
theorem dX1_isDark_9 : decode cX1_isDark 9 = .ok (.iconst 1, 1) := by decide +kernel
theorem dX1_isDark_10 : decode cX1_isDark 10 = .ok (.goto 4, 3) := by decide +kernel
theorem dX1_isDark_13 : decode cX1_isDark 13 = .ok (.iconst 0, 1) := by decide +kernel
theorem dX1_isDark_14 : decode cX1_isDark 14 = .ok (.ireturn, 1) := by decide +kernel
theorem dX1_lit_0 : decode cX1_lit 0 = .ok (.bipush 12, 2) := by decide +kernel
theorem dX1_lit_2 : decode cX1_lit 2 = .ok (.aload_n 0, 1) := by decide +kernel
theorem dX1_lit_3 : decode cX1_lit 3 = .ok (.iconst 0, 1) := by decide +kernel
theorem dX1_lit_4 : decode cX1_lit 4 = .ok (.bipush 11, 2) := by decide +kernel
theorem dX1_lit_6 : decode cX1_lit 6 = .ok (.invokevirtual 82, 3) := by decide +kernel
theorem dX1_lit_9 : decode cX1_lit 9 = .ok (.isub, 1) := by decide +kernel
theorem dX1_lit_10 : decode cX1_lit 10 = .ok (.ireturn, 1) := by decide +kernel
theorem dX1_timesOf_0 : decode cX1_timesOf 0 = .ok (.iload_n 1, 1) := by decide +kernel
theorem dX1_timesOf_1 : decode cX1_timesOf 1 = .ok (.ifCond .lt 17, 3) := by decide +kernel
theorem dX1_timesOf_4 : decode cX1_timesOf 4 = .ok (.iload_n 1, 1) := by decide +kernel
theorem dX1_timesOf_5 : decode cX1_timesOf 5 = .ok (.iconst 5, 1) := by decide +kernel
theorem dX1_timesOf_6 : decode cX1_timesOf 6 = .ok (.if_icmp .ge 12, 3) := by decide +kernel
theorem dX1_timesOf_9 : decode cX1_timesOf 9 = .ok (.aload_n 0, 1) := by decide +kernel
theorem dX1_timesOf_10 : decode cX1_timesOf 10 = .ok (.getfield 21, 3) := by decide +kernel
theorem dX1_timesOf_13 : decode cX1_timesOf 13 = .ok (.iload_n 1, 1) := by decide +kernel
theorem dX1_timesOf_14 : decode cX1_timesOf 14 = .ok (.iaload, 1) := by decide +kernel
theorem dX1_timesOf_15 : decode cX1_timesOf 15 = .ok (.goto 4, 3) := by decide +kernel
theorem dX1_timesOf_18 : decode cX1_timesOf 18 = .ok (.iconst 0, 1) := by decide +kernel
theorem dX1_timesOf_19 : decode cX1_timesOf 19 = .ok (.ireturn, 1) := by decide +kernel
theorem dX1_unlike_0 : decode cX1_unlike 0 = .ok (.iconst 0, 1) := by decide +kernel
theorem dX1_unlike_1 : decode cX1_unlike 1 = .ok (.istore_n 1, 1) := by decide +kernel
theorem dX1_unlike_2 : decode cX1_unlike 2 = .ok (.iconst 0, 1) := by decide +kernel
theorem dX1_unlike_3 : decode cX1_unlike 3 = .ok (.istore_n 2, 1) := by decide +kernel
theorem dX1_unlike_4 : decode cX1_unlike 4 = .ok (.iload_n 2, 1) := by decide +kernel
theorem dX1_unlike_5 : decode cX1_unlike 5 = .ok (.iconst 5, 1) := by decide +kernel
theorem dX1_unlike_6 : decode cX1_unlike 6 = .ok (.if_icmp .ge 26, 3) := by decide +kernel
theorem dX1_unlike_9 : decode cX1_unlike 9 = .ok (.iload_n 1, 1) := by decide +kernel
theorem dX1_unlike_10 : decode cX1_unlike 10 = .ok (.aload_n 0, 1) := by decide +kernel
theorem dX1_unlike_11 : decode cX1_unlike 11 = .ok (.getfield 21, 3) := by decide +kernel
theorem dX1_unlike_14 : decode cX1_unlike 14 = .ok (.iload_n 2, 1) := by decide +kernel
theorem dX1_unlike_15 : decode cX1_unlike 15 = .ok (.iaload, 1) := by decide +kernel
theorem dX1_unlike_16 : decode cX1_unlike 16 = .ok (.ifCond .le 7, 3) := by decide +kernel
theorem dX1_unlike_19 : decode cX1_unlike 19 = .ok (.iconst 1, 1) := by decide +kernel
theorem dX1_unlike_20 : decode cX1_unlike 20 = .ok (.goto 4, 3) := by decide +kernel
theorem dX1_unlike_23 : decode cX1_unlike 23 = .ok (.iconst 0, 1) := by decide +kernel
theorem dX1_unlike_24 : decode cX1_unlike 24 = .ok (.iadd, 1) := by decide +kernel
theorem dX1_unlike_25 : decode cX1_unlike 25 = .ok (.istore_n 1, 1) := by decide +kernel
theorem dX1_unlike_26 : decode cX1_unlike 26 = .ok (.iinc 2 1, 3) := by decide +kernel
theorem dX1_unlike_29 : decode cX1_unlike 29 = .ok (.goto (-25), 3) := by decide +kernel
theorem dX1_unlike_32 : decode cX1_unlike 32 = .ok (.iload_n 1, 1) := by decide +kernel
theorem dX1_unlike_33 : decode cX1_unlike 33 = .ok (.ireturn, 1) := by decide +kernel
theorem dX1_placeOf_0 : decode cX1_placeOf 0 = .ok (.iconst 0, 1) := by decide +kernel
theorem dX1_placeOf_1 : decode cX1_placeOf 1 = .ok (.istore_n 2, 1) := by decide +kernel
theorem dX1_placeOf_2 : decode cX1_placeOf 2 = .ok (.iconst 0, 1) := by decide +kernel
theorem dX1_placeOf_3 : decode cX1_placeOf 3 = .ok (.istore_n 3, 1) := by decide +kernel
theorem dX1_placeOf_4 : decode cX1_placeOf 4 = .ok (.iload_n 3, 1) := by decide +kernel
theorem dX1_placeOf_5 : decode cX1_placeOf 5 = .ok (.aload_n 0, 1) := by decide +kernel
theorem dX1_placeOf_6 : decode cX1_placeOf 6 = .ok (.getfield 30, 3) := by decide +kernel
theorem dX1_placeOf_9 : decode cX1_placeOf 9 = .ok (.getfield 70, 3) := by decide +kernel
theorem dX1_placeOf_12 : decode cX1_placeOf 12 = .ok (.if_icmp .ge 26, 3) := by decide +kernel
theorem dX1_placeOf_15 : decode cX1_placeOf 15 = .ok (.iload_n 2, 1) := by decide +kernel
theorem dX1_placeOf_16 : decode cX1_placeOf 16 = .ok (.aload_n 0, 1) := by decide +kernel
theorem dX1_placeOf_17 : decode cX1_placeOf 17 = .ok (.iload_n 3, 1) := by decide +kernel
theorem dX1_placeOf_18 : decode cX1_placeOf 18 = .ok (.iload_n 1, 1) := by decide +kernel
theorem dX1_placeOf_19 : decode cX1_placeOf 19 = .ok (.invokevirtual 86, 3) := by decide +kernel
theorem dX1_placeOf_22 : decode cX1_placeOf 22 = .ok (.ifCond .eq 7, 3) := by decide +kernel
theorem dX1_placeOf_25 : decode cX1_placeOf 25 = .ok (.iconst 1, 1) := by decide +kernel
theorem dX1_placeOf_26 : decode cX1_placeOf 26 = .ok (.goto 4, 3) := by decide +kernel
theorem dX1_placeOf_29 : decode cX1_placeOf 29 = .ok (.iconst 0, 1) := by decide +kernel
theorem dX1_placeOf_30 : decode cX1_placeOf 30 = .ok (.iadd, 1) := by decide +kernel
theorem dX1_placeOf_31 : decode cX1_placeOf 31 = .ok (.istore_n 2, 1) := by decide +kernel
theorem dX1_placeOf_32 : decode cX1_placeOf 32 = .ok (.iinc 3 1, 3) := by decide +kernel
theorem dX1_placeOf_35 : decode cX1_placeOf 35 = .ok (.goto (-31), 3) := by decide +kernel
theorem dX1_placeOf_38 : decode cX1_placeOf 38 = .ok (.iload_n 2, 1) := by decide +kernel
theorem dX1_placeOf_39 : decode cX1_placeOf 39 = .ok (.ireturn, 1) := by decide +kernel
theorem dX1_comesAhead_0 : decode cX1_comesAhead 0 = .ok (.aload_n 0, 1) := by decide +kernel
theorem dX1_comesAhead_1 : decode cX1_comesAhead 1 = .ok (.getfield 21, 3) := by decide +kernel
theorem dX1_comesAhead_4 : decode cX1_comesAhead 4 = .ok (.iload_n 1, 1) := by decide +kernel
theorem dX1_comesAhead_5 : decode cX1_comesAhead 5 = .ok (.iaload, 1) := by decide +kernel
theorem dX1_comesAhead_6 : decode cX1_comesAhead 6 = .ok (.aload_n 0, 1) := by decide +kernel
theorem dX1_comesAhead_7 : decode cX1_comesAhead 7 = .ok (.getfield 21, 3) := by decide +kernel
theorem dX1_comesAhead_10 : decode cX1_comesAhead 10 = .ok (.iload_n 2, 1) := by decide +kernel
theorem dX1_comesAhead_11 : decode cX1_comesAhead 11 = .ok (.iaload, 1) := by decide +kernel
theorem dX1_comesAhead_12 : decode cX1_comesAhead 12 = .ok (.if_icmp .eq 24, 3) := by decide +kernel
theorem dX1_comesAhead_15 : decode cX1_comesAhead 15 = .ok (.aload_n 0, 1) := by decide +kernel
theorem dX1_comesAhead_16 : decode cX1_comesAhead 16 = .ok (.getfield 21, 3) := by decide +kernel
theorem dX1_comesAhead_19 : decode cX1_comesAhead 19 = .ok (.iload_n 1, 1) := by decide +kernel
theorem dX1_comesAhead_20 : decode cX1_comesAhead 20 = .ok (.iaload, 1) := by decide +kernel
theorem dX1_comesAhead_21 : decode cX1_comesAhead 21 = .ok (.aload_n 0, 1) := by decide +kernel
theorem dX1_comesAhead_22 : decode cX1_comesAhead 22 = .ok (.getfield 21, 3) := by decide +kernel
theorem dX1_comesAhead_25 : decode cX1_comesAhead 25 = .ok (.iload_n 2, 1) := by decide +kernel
theorem dX1_comesAhead_26 : decode cX1_comesAhead 26 = .ok (.iaload, 1) := by decide +kernel
theorem dX1_comesAhead_27 : decode cX1_comesAhead 27 = .ok (.if_icmp .le 7, 3) := by decide +kernel
theorem dX1_comesAhead_30 : decode cX1_comesAhead 30 = .ok (.iconst 1, 1) := by decide +kernel
theorem dX1_comesAhead_31 : decode cX1_comesAhead 31 = .ok (.goto 4, 3) := by decide +kernel
theorem dX1_comesAhead_34 : decode cX1_comesAhead 34 = .ok (.iconst 0, 1) := by decide +kernel
theorem dX1_comesAhead_35 : decode cX1_comesAhead 35 = .ok (.ireturn, 1) := by decide +kernel
theorem dX1_comesAhead_36 : decode cX1_comesAhead 36 = .ok (.aload_n 0, 1) := by decide +kernel
theorem dX1_comesAhead_37 : decode cX1_comesAhead 37 = .ok (.getfield 24, 3) := by decide +kernel
theorem dX1_comesAhead_40 : decode cX1_comesAhead 40 = .ok (.iload_n 1, 1) := by decide +kernel
theorem dX1_comesAhead_41 : decode cX1_comesAhead 41 = .ok (.iaload, 1) := by decide +kernel
theorem dX1_comesAhead_42 : decode cX1_comesAhead 42 = .ok (.aload_n 0, 1) := by decide +kernel
theorem dX1_comesAhead_43 : decode cX1_comesAhead 43 = .ok (.getfield 24, 3) := by decide +kernel
theorem dX1_comesAhead_46 : decode cX1_comesAhead 46 = .ok (.iload_n 2, 1) := by decide +kernel
theorem dX1_comesAhead_47 : decode cX1_comesAhead 47 = .ok (.iaload, 1) := by decide +kernel
theorem dX1_comesAhead_48 : decode cX1_comesAhead 48 = .ok (.if_icmp .eq 24, 3) := by decide +kernel
theorem dX1_comesAhead_51 : decode cX1_comesAhead 51 = .ok (.aload_n 0, 1) := by decide +kernel
theorem dX1_comesAhead_52 : decode cX1_comesAhead 52 = .ok (.getfield 24, 3) := by decide +kernel
theorem dX1_comesAhead_55 : decode cX1_comesAhead 55 = .ok (.iload_n 1, 1) := by decide +kernel
theorem dX1_comesAhead_56 : decode cX1_comesAhead 56 = .ok (.iaload, 1) := by decide +kernel
theorem dX1_comesAhead_57 : decode cX1_comesAhead 57 = .ok (.aload_n 0, 1) := by decide +kernel
theorem dX1_comesAhead_58 : decode cX1_comesAhead 58 = .ok (.getfield 24, 3) := by decide +kernel
theorem dX1_comesAhead_61 : decode cX1_comesAhead 61 = .ok (.iload_n 2, 1) := by decide +kernel
theorem dX1_comesAhead_62 : decode cX1_comesAhead 62 = .ok (.iaload, 1) := by decide +kernel
theorem dX1_comesAhead_63 : decode cX1_comesAhead 63 = .ok (.if_icmp .le 7, 3) := by decide +kernel
theorem dX1_comesAhead_66 : decode cX1_comesAhead 66 = .ok (.iconst 1, 1) := by decide +kernel
theorem dX1_comesAhead_67 : decode cX1_comesAhead 67 = .ok (.goto 4, 3) := by decide +kernel
theorem dX1_comesAhead_70 : decode cX1_comesAhead 70 = .ok (.iconst 0, 1) := by decide +kernel
theorem dX1_comesAhead_71 : decode cX1_comesAhead 71 = .ok (.ireturn, 1) := by decide +kernel
theorem dX1_comesAhead_72 : decode cX1_comesAhead 72 = .ok (.iload_n 1, 1) := by decide +kernel
theorem dX1_comesAhead_73 : decode cX1_comesAhead 73 = .ok (.iload_n 2, 1) := by decide +kernel
theorem dX1_comesAhead_74 : decode cX1_comesAhead 74 = .ok (.if_icmp .ge 7, 3) := by decide +kernel
theorem dX1_comesAhead_77 : decode cX1_comesAhead 77 = .ok (.iconst 1, 1) := by decide +kernel
theorem dX1_comesAhead_78 : decode cX1_comesAhead 78 = .ok (.goto 4, 3) := by decide +kernel
theorem dX1_comesAhead_81 : decode cX1_comesAhead 81 = .ok (.iconst 0, 1) := by decide +kernel
theorem dX1_comesAhead_82 : decode cX1_comesAhead 82 = .ok (.ireturn, 1) := by decide +kernel
theorem dX1_weigh_0 : decode cX1_weigh 0 = .ok (.aload_n 0, 1) := by decide +kernel
theorem dX1_weigh_1 : decode cX1_weigh 1 = .ok (.invokevirtual 90, 3) := by decide +kernel
theorem dX1_weigh_4 : decode cX1_weigh 4 = .ok (.iconst 0, 1) := by decide +kernel
theorem dX1_weigh_5 : decode cX1_weigh 5 = .ok (.istore_n 1, 1) := by decide +kernel
theorem dX1_weigh_6 : decode cX1_weigh 6 = .ok (.iload_n 1, 1) := by decide +kernel
theorem dX1_weigh_7 : decode cX1_weigh 7 = .ok (.bipush 12, 2) := by decide +kernel
theorem dX1_weigh_9 : decode cX1_weigh 9 = .ok (.if_icmp .ge 77, 3) := by decide +kernel
theorem dX1_weigh_12 : decode cX1_weigh 12 = .ok (.aload_n 0, 1) := by decide +kernel
theorem dX1_weigh_13 : decode cX1_weigh 13 = .ok (.iload_n 1, 1) := by decide +kernel
theorem dX1_weigh_14 : decode cX1_weigh 14 = .ok (.invokevirtual 78, 3) := by decide +kernel
theorem dX1_weigh_17 : decode cX1_weigh 17 = .ok (.istore_n 2, 1) := by decide +kernel
theorem dX1_weigh_18 : decode cX1_weigh 18 = .ok (.iload_n 2, 1) := by decide +kernel
theorem dX1_weigh_19 : decode cX1_weigh 19 = .ok (.iconst (-1), 1) := by decide +kernel
theorem dX1_weigh_20 : decode cX1_weigh 20 = .ok (.if_icmp .ne 30, 3) := by decide +kernel
theorem dX1_weigh_23 : decode cX1_weigh 23 = .ok (.aload_n 0, 1) := by decide +kernel
theorem dX1_weigh_24 : decode cX1_weigh 24 = .ok (.getfield 15, 3) := by decide +kernel
theorem dX1_weigh_27 : decode cX1_weigh 27 = .ok (.iload_n 1, 1) := by decide +kernel
theorem dX1_weigh_28 : decode cX1_weigh 28 = .ok (.iconst 0, 1) := by decide +kernel
theorem dX1_weigh_29 : decode cX1_weigh 29 = .ok (.iastore, 1) := by decide +kernel
theorem dX1_weigh_30 : decode cX1_weigh 30 = .ok (.aload_n 0, 1) := by decide +kernel
theorem dX1_weigh_31 : decode cX1_weigh 31 = .ok (.getfield 18, 3) := by decide +kernel
theorem dX1_weigh_34 : decode cX1_weigh 34 = .ok (.iload_n 1, 1) := by decide +kernel
theorem dX1_weigh_35 : decode cX1_weigh 35 = .ok (.iconst 0, 1) := by decide +kernel
theorem dX1_weigh_36 : decode cX1_weigh 36 = .ok (.iastore, 1) := by decide +kernel
theorem dX1_weigh_37 : decode cX1_weigh 37 = .ok (.aload_n 0, 1) := by decide +kernel
theorem dX1_weigh_38 : decode cX1_weigh 38 = .ok (.dup, 1) := by decide +kernel
theorem dX1_weigh_39 : decode cX1_weigh 39 = .ok (.getfield 40, 3) := by decide +kernel
theorem dX1_weigh_42 : decode cX1_weigh 42 = .ok (.iconst 1, 1) := by decide +kernel
theorem dX1_weigh_43 : decode cX1_weigh 43 = .ok (.iadd, 1) := by decide +kernel
theorem dX1_weigh_44 : decode cX1_weigh 44 = .ok (.putfield 40, 3) := by decide +kernel
theorem dX1_weigh_47 : decode cX1_weigh 47 = .ok (.goto 33, 3) := by decide +kernel
theorem dX1_weigh_50 : decode cX1_weigh 50 = .ok (.aload_n 0, 1) := by decide +kernel
theorem dX1_weigh_51 : decode cX1_weigh 51 = .ok (.getfield 15, 3) := by decide +kernel
theorem dX1_weigh_54 : decode cX1_weigh 54 = .ok (.iload_n 1, 1) := by decide +kernel
theorem dX1_weigh_55 : decode cX1_weigh 55 = .ok (.aload_n 0, 1) := by decide +kernel
theorem dX1_weigh_56 : decode cX1_weigh 56 = .ok (.iload_n 1, 1) := by decide +kernel
theorem dX1_weigh_57 : decode cX1_weigh 57 = .ok (.iload_n 2, 1) := by decide +kernel
theorem dX1_weigh_58 : decode cX1_weigh 58 = .ok (.invokevirtual 93, 3) := by decide +kernel
theorem dX1_weigh_61 : decode cX1_weigh 61 = .ok (.iastore, 1) := by decide +kernel
theorem dX1_weigh_62 : decode cX1_weigh 62 = .ok (.aload_n 0, 1) := by decide +kernel
theorem dX1_weigh_63 : decode cX1_weigh 63 = .ok (.getfield 18, 3) := by decide +kernel
theorem dX1_weigh_66 : decode cX1_weigh 66 = .ok (.iload_n 1, 1) := by decide +kernel
theorem dX1_weigh_67 : decode cX1_weigh 67 = .ok (.aload_n 0, 1) := by decide +kernel
theorem dX1_weigh_68 : decode cX1_weigh 68 = .ok (.iload_n 1, 1) := by decide +kernel
theorem dX1_weigh_69 : decode cX1_weigh 69 = .ok (.iload_n 2, 1) := by decide +kernel
theorem dX1_weigh_70 : decode cX1_weigh 70 = .ok (.invokevirtual 96, 3) := by decide +kernel
theorem dX1_weigh_73 : decode cX1_weigh 73 = .ok (.iastore, 1) := by decide +kernel
theorem dX1_weigh_74 : decode cX1_weigh 74 = .ok (.aload_n 0, 1) := by decide +kernel
theorem dX1_weigh_75 : decode cX1_weigh 75 = .ok (.iload_n 1, 1) := by decide +kernel
theorem dX1_weigh_76 : decode cX1_weigh 76 = .ok (.iload_n 2, 1) := by decide +kernel
theorem dX1_weigh_77 : decode cX1_weigh 77 = .ok (.invokevirtual 99, 3) := by decide +kernel
theorem dX1_weigh_80 : decode cX1_weigh 80 = .ok (.iinc 1 1, 3) := by decide +kernel
theorem dX1_weigh_83 : decode cX1_weigh 83 = .ok (.goto (-77), 3) := by decide +kernel
theorem dX1_weigh_86 : decode cX1_weigh 86 = .ok (.return_, 1) := by decide +kernel
theorem dX1_startAnew_0 : decode cX1_startAnew 0 = .ok (.aload_n 0, 1) := by decide +kernel
theorem dX1_startAnew_1 : decode cX1_startAnew 1 = .ok (.iconst 0, 1) := by decide +kernel
theorem dX1_startAnew_2 : decode cX1_startAnew 2 = .ok (.putfield 103, 3) := by decide +kernel
theorem dX1_startAnew_5 : decode cX1_startAnew 5 = .ok (.aload_n 0, 1) := by decide +kernel
theorem dX1_startAnew_6 : decode cX1_startAnew 6 = .ok (.iconst 0, 1) := by decide +kernel
theorem dX1_startAnew_7 : decode cX1_startAnew 7 = .ok (.putfield 40, 3) := by decide +kernel
theorem dX1_startAnew_10 : decode cX1_startAnew 10 = .ok (.aload_n 0, 1) := by decide +kernel
theorem dX1_startAnew_11 : decode cX1_startAnew 11 = .ok (.iconst 0, 1) := by decide +kernel
theorem dX1_startAnew_12 : decode cX1_startAnew 12 = .ok (.putfield 106, 3) := by decide +kernel
theorem dX1_startAnew_15 : decode cX1_startAnew 15 = .ok (.aload_n 0, 1) := by decide +kernel
theorem dX1_startAnew_16 : decode cX1_startAnew 16 = .ok (.getfield 21, 3) := by decide +kernel
theorem dX1_startAnew_19 : decode cX1_startAnew 19 = .ok (.iconst 0, 1) := by decide +kernel
theorem dX1_startAnew_20 : decode cX1_startAnew 20 = .ok (.invokestatic 34, 3) := by decide +kernel
theorem dX1_startAnew_23 : decode cX1_startAnew 23 = .ok (.aload_n 0, 1) := by decide +kernel
theorem dX1_startAnew_24 : decode cX1_startAnew 24 = .ok (.getfield 24, 3) := by decide +kernel
theorem dX1_startAnew_27 : decode cX1_startAnew 27 = .ok (.iconst 0, 1) := by decide +kernel
theorem dX1_startAnew_28 : decode cX1_startAnew 28 = .ok (.invokestatic 34, 3) := by decide +kernel
theorem dX1_startAnew_31 : decode cX1_startAnew 31 = .ok (.aload_n 0, 1) := by decide +kernel
theorem dX1_startAnew_32 : decode cX1_startAnew 32 = .ok (.getfield 27, 3) := by decide +kernel
theorem dX1_startAnew_35 : decode cX1_startAnew 35 = .ok (.iconst (-1), 1) := by decide +kernel
theorem dX1_startAnew_36 : decode cX1_startAnew 36 = .ok (.invokestatic 34, 3) := by decide +kernel
theorem dX1_startAnew_39 : decode cX1_startAnew 39 = .ok (.iconst 0, 1) := by decide +kernel
theorem dX1_startAnew_40 : decode cX1_startAnew 40 = .ok (.istore_n 1, 1) := by decide +kernel
theorem dX1_startAnew_41 : decode cX1_startAnew 41 = .ok (.iload_n 1, 1) := by decide +kernel
theorem dX1_startAnew_42 : decode cX1_startAnew 42 = .ok (.bipush 12, 2) := by decide +kernel
theorem dX1_startAnew_44 : decode cX1_startAnew 44 = .ok (.if_icmp .ge 37, 3) := by decide +kernel
theorem dX1_startAnew_47 : decode cX1_startAnew 47 = .ok (.aload_n 0, 1) := by decide +kernel
theorem dX1_startAnew_48 : decode cX1_startAnew 48 = .ok (.iload_n 1, 1) := by decide +kernel
theorem dX1_startAnew_49 : decode cX1_startAnew 49 = .ok (.invokevirtual 78, 3) := by decide +kernel
theorem dX1_startAnew_52 : decode cX1_startAnew 52 = .ok (.istore_n 2, 1) := by decide +kernel
theorem dX1_startAnew_53 : decode cX1_startAnew 53 = .ok (.iload_n 2, 1) := by decide +kernel
theorem dX1_startAnew_54 : decode cX1_startAnew 54 = .ok (.iconst (-1), 1) := by decide +kernel
theorem dX1_startAnew_55 : decode cX1_startAnew 55 = .ok (.if_icmp .eq 20, 3) := by decide +kernel
theorem dX1_startAnew_58 : decode cX1_startAnew 58 = .ok (.aload_n 0, 1) := by decide +kernel
theorem dX1_startAnew_59 : decode cX1_startAnew 59 = .ok (.getfield 27, 3) := by decide +kernel
theorem dX1_startAnew_62 : decode cX1_startAnew 62 = .ok (.aload_n 0, 1) := by decide +kernel
theorem dX1_startAnew_63 : decode cX1_startAnew 63 = .ok (.getfield 30, 3) := by decide +kernel
theorem dX1_startAnew_66 : decode cX1_startAnew 66 = .ok (.iload_n 2, 1) := by decide +kernel
theorem dX1_startAnew_67 : decode cX1_startAnew 67 = .ok (.invokevirtual 109, 3) := by decide +kernel
theorem dX1_startAnew_70 : decode cX1_startAnew 70 = .ok (.getfield 113, 3) := by decide +kernel
theorem dX1_startAnew_73 : decode cX1_startAnew 73 = .ok (.iload_n 1, 1) := by decide +kernel
theorem dX1_startAnew_74 : decode cX1_startAnew 74 = .ok (.iastore, 1) := by decide +kernel
theorem dX1_startAnew_75 : decode cX1_startAnew 75 = .ok (.iinc 1 1, 3) := by decide +kernel
theorem dX1_startAnew_78 : decode cX1_startAnew 78 = .ok (.goto (-37), 3) := by decide +kernel
theorem dX1_startAnew_81 : decode cX1_startAnew 81 = .ok (.return_, 1) := by decide +kernel
theorem dX1_tally_0 : decode cX1_tally 0 = .ok (.aload_n 0, 1) := by decide +kernel
theorem dX1_tally_1 : decode cX1_tally 1 = .ok (.getfield 21, 3) := by decide +kernel
theorem dX1_tally_4 : decode cX1_tally 4 = .ok (.iload_n 2, 1) := by decide +kernel
theorem dX1_tally_5 : decode cX1_tally 5 = .ok (.dup2, 1) := by decide +kernel
theorem dX1_tally_6 : decode cX1_tally 6 = .ok (.iaload, 1) := by decide +kernel
theorem dX1_tally_7 : decode cX1_tally 7 = .ok (.iconst 1, 1) := by decide +kernel
theorem dX1_tally_8 : decode cX1_tally 8 = .ok (.iadd, 1) := by decide +kernel
theorem dX1_tally_9 : decode cX1_tally 9 = .ok (.iastore, 1) := by decide +kernel
theorem dX1_tally_10 : decode cX1_tally 10 = .ok (.aload_n 0, 1) := by decide +kernel
theorem dX1_tally_11 : decode cX1_tally 11 = .ok (.getfield 15, 3) := by decide +kernel
theorem dX1_tally_14 : decode cX1_tally 14 = .ok (.iload_n 1, 1) := by decide +kernel
theorem dX1_tally_15 : decode cX1_tally 15 = .ok (.iaload, 1) := by decide +kernel
theorem dX1_tally_16 : decode cX1_tally 16 = .ok (.ifCond .ne 36, 3) := by decide +kernel
theorem dX1_tally_19 : decode cX1_tally 19 = .ok (.aload_n 0, 1) := by decide +kernel
theorem dX1_tally_20 : decode cX1_tally 20 = .ok (.dup, 1) := by decide +kernel
theorem dX1_tally_21 : decode cX1_tally 21 = .ok (.getfield 106, 3) := by decide +kernel
theorem dX1_tally_24 : decode cX1_tally 24 = .ok (.aload_n 0, 1) := by decide +kernel
theorem dX1_tally_25 : decode cX1_tally 25 = .ok (.getfield 18, 3) := by decide +kernel
theorem dX1_tally_28 : decode cX1_tally 28 = .ok (.iload_n 1, 1) := by decide +kernel
theorem dX1_tally_29 : decode cX1_tally 29 = .ok (.iaload, 1) := by decide +kernel
theorem dX1_tally_30 : decode cX1_tally 30 = .ok (.iadd, 1) := by decide +kernel
theorem dX1_tally_31 : decode cX1_tally 31 = .ok (.putfield 106, 3) := by decide +kernel
theorem dX1_tally_34 : decode cX1_tally 34 = .ok (.aload_n 0, 1) := by decide +kernel
theorem dX1_tally_35 : decode cX1_tally 35 = .ok (.getfield 24, 3) := by decide +kernel
theorem dX1_tally_38 : decode cX1_tally 38 = .ok (.iload_n 2, 1) := by decide +kernel
theorem dX1_tally_39 : decode cX1_tally 39 = .ok (.dup2, 1) := by decide +kernel
theorem dX1_tally_40 : decode cX1_tally 40 = .ok (.iaload, 1) := by decide +kernel
theorem dX1_tally_41 : decode cX1_tally 41 = .ok (.aload_n 0, 1) := by decide +kernel
theorem dX1_tally_42 : decode cX1_tally 42 = .ok (.getfield 18, 3) := by decide +kernel
theorem dX1_tally_45 : decode cX1_tally 45 = .ok (.iload_n 1, 1) := by decide +kernel
theorem dX1_tally_46 : decode cX1_tally 46 = .ok (.iaload, 1) := by decide +kernel
theorem dX1_tally_47 : decode cX1_tally 47 = .ok (.iadd, 1) := by decide +kernel
theorem dX1_tally_48 : decode cX1_tally 48 = .ok (.iastore, 1) := by decide +kernel
theorem dX1_tally_49 : decode cX1_tally 49 = .ok (.goto 23, 3) := by decide +kernel
theorem dX1_tally_52 : decode cX1_tally 52 = .ok (.aload_n 0, 1) := by decide +kernel
theorem dX1_tally_53 : decode cX1_tally 53 = .ok (.dup, 1) := by decide +kernel
theorem dX1_tally_54 : decode cX1_tally 54 = .ok (.getfield 103, 3) := by decide +kernel
theorem dX1_tally_57 : decode cX1_tally 57 = .ok (.iconst 1, 1) := by decide +kernel
theorem dX1_tally_58 : decode cX1_tally 58 = .ok (.iadd, 1) := by decide +kernel
theorem dX1_tally_59 : decode cX1_tally 59 = .ok (.putfield 103, 3) := by decide +kernel
theorem dX1_tally_62 : decode cX1_tally 62 = .ok (.aload_n 0, 1) := by decide +kernel
theorem dX1_tally_63 : decode cX1_tally 63 = .ok (.dup, 1) := by decide +kernel
theorem dX1_tally_64 : decode cX1_tally 64 = .ok (.getfield 40, 3) := by decide +kernel
theorem dX1_tally_67 : decode cX1_tally 67 = .ok (.iconst 1, 1) := by decide +kernel
theorem dX1_tally_68 : decode cX1_tally 68 = .ok (.iadd, 1) := by decide +kernel
theorem dX1_tally_69 : decode cX1_tally 69 = .ok (.putfield 40, 3) := by decide +kernel
theorem dX1_tally_72 : decode cX1_tally 72 = .ok (.return_, 1) := by decide +kernel
theorem dX1_breakAt_0 : decode cX1_breakAt 0 = .ok (.aload_n 0, 1) := by decide +kernel
theorem dX1_breakAt_1 : decode cX1_breakAt 1 = .ok (.getfield 30, 3) := by decide +kernel
theorem dX1_breakAt_4 : decode cX1_breakAt 4 = .ok (.iload_n 2, 1) := by decide +kernel
theorem dX1_breakAt_5 : decode cX1_breakAt 5 = .ok (.invokevirtual 109, 3) := by decide +kernel
theorem dX1_breakAt_8 : decode cX1_breakAt 8 = .ok (.astore_n 3, 1) := by decide +kernel
theorem dX1_breakAt_9 : decode cX1_breakAt 9 = .ok (.iload_n 1, 1) := by decide +kernel
theorem dX1_breakAt_10 : decode cX1_breakAt 10 = .ok (.aload_n 3, 1) := by decide +kernel
theorem dX1_breakAt_11 : decode cX1_breakAt 11 = .ok (.getfield 118, 3) := by decide +kernel
theorem dX1_breakAt_14 : decode cX1_breakAt 14 = .ok (.if_icmp .lt 11, 3) := by decide +kernel
theorem dX1_breakAt_17 : decode cX1_breakAt 17 = .ok (.iload_n 1, 1) := by decide +kernel
theorem dX1_breakAt_18 : decode cX1_breakAt 18 = .ok (.aload_n 3, 1) := by decide +kernel
theorem dX1_breakAt_19 : decode cX1_breakAt 19 = .ok (.getfield 121, 3) := by decide +kernel
theorem dX1_breakAt_22 : decode cX1_breakAt 22 = .ok (.if_icmp .le 5, 3) := by decide +kernel
theorem dX1_breakAt_25 : decode cX1_breakAt 25 = .ok (.iconst 1, 1) := by decide +kernel
theorem dX1_breakAt_26 : decode cX1_breakAt 26 = .ok (.ireturn, 1) := by decide +kernel
theorem dX1_breakAt_27 : decode cX1_breakAt 27 = .ok (.aload_n 0, 1) := by decide +kernel
theorem dX1_breakAt_28 : decode cX1_breakAt 28 = .ok (.iload_n 1, 1) := by decide +kernel
theorem dX1_breakAt_29 : decode cX1_breakAt 29 = .ok (.iconst 1, 1) := by decide +kernel
theorem dX1_breakAt_30 : decode cX1_breakAt 30 = .ok (.isub, 1) := by decide +kernel
theorem dX1_breakAt_31 : decode cX1_breakAt 31 = .ok (.invokevirtual 78, 3) := by decide +kernel
theorem dX1_breakAt_34 : decode cX1_breakAt 34 = .ok (.istore 4, 2) := by decide +kernel
theorem dX1_breakAt_36 : decode cX1_breakAt 36 = .ok (.iload 4, 2) := by decide +kernel
theorem dX1_breakAt_38 : decode cX1_breakAt 38 = .ok (.iconst (-1), 1) := by decide +kernel
theorem dX1_breakAt_39 : decode cX1_breakAt 39 = .ok (.if_icmp .eq 24, 3) := by decide +kernel
theorem dX1_breakAt_42 : decode cX1_breakAt 42 = .ok (.aload_n 0, 1) := by decide +kernel
theorem dX1_breakAt_43 : decode cX1_breakAt 43 = .ok (.getfield 30, 3) := by decide +kernel
theorem dX1_breakAt_46 : decode cX1_breakAt 46 = .ok (.iload 4, 2) := by decide +kernel
theorem dX1_breakAt_48 : decode cX1_breakAt 48 = .ok (.invokevirtual 109, 3) := by decide +kernel
theorem dX1_breakAt_51 : decode cX1_breakAt 51 = .ok (.getfield 124, 3) := by decide +kernel
theorem dX1_breakAt_54 : decode cX1_breakAt 54 = .ok (.aload_n 3, 1) := by decide +kernel
theorem dX1_breakAt_55 : decode cX1_breakAt 55 = .ok (.getfield 124, 3) := by decide +kernel
theorem dX1_breakAt_58 : decode cX1_breakAt 58 = .ok (.if_icmp .eq 5, 3) := by decide +kernel
theorem dX1_breakAt_61 : decode cX1_breakAt 61 = .ok (.iconst 2, 1) := by decide +kernel
theorem dX1_breakAt_62 : decode cX1_breakAt 62 = .ok (.ireturn, 1) := by decide +kernel
theorem dX1_breakAt_63 : decode cX1_breakAt 63 = .ok (.aload_n 0, 1) := by decide +kernel
theorem dX1_breakAt_64 : decode cX1_breakAt 64 = .ok (.iload_n 1, 1) := by decide +kernel
theorem dX1_breakAt_65 : decode cX1_breakAt 65 = .ok (.iconst 1, 1) := by decide +kernel
theorem dX1_breakAt_66 : decode cX1_breakAt 66 = .ok (.isub, 1) := by decide +kernel
theorem dX1_breakAt_67 : decode cX1_breakAt 67 = .ok (.aload_n 3, 1) := by decide +kernel
theorem dX1_breakAt_68 : decode cX1_breakAt 68 = .ok (.getfield 113, 3) := by decide +kernel
theorem dX1_breakAt_71 : decode cX1_breakAt 71 = .ok (.invokevirtual 127, 3) := by decide +kernel
theorem dX1_breakAt_74 : decode cX1_breakAt 74 = .ok (.ifCond .eq 19, 3) := by decide +kernel
theorem dX1_breakAt_77 : decode cX1_breakAt 77 = .ok (.aload_n 0, 1) := by decide +kernel
theorem dX1_breakAt_78 : decode cX1_breakAt 78 = .ok (.iload_n 1, 1) := by decide +kernel
theorem dX1_breakAt_79 : decode cX1_breakAt 79 = .ok (.iconst 2, 1) := by decide +kernel
theorem dX1_breakAt_80 : decode cX1_breakAt 80 = .ok (.isub, 1) := by decide +kernel
theorem dX1_breakAt_81 : decode cX1_breakAt 81 = .ok (.aload_n 3, 1) := by decide +kernel
theorem dX1_breakAt_82 : decode cX1_breakAt 82 = .ok (.getfield 113, 3) := by decide +kernel
theorem dX1_breakAt_85 : decode cX1_breakAt 85 = .ok (.invokevirtual 127, 3) := by decide +kernel
theorem dX1_breakAt_88 : decode cX1_breakAt 88 = .ok (.ifCond .eq 5, 3) := by decide +kernel
theorem dX1_breakAt_91 : decode cX1_breakAt 91 = .ok (.iconst 3, 1) := by decide +kernel
theorem dX1_breakAt_92 : decode cX1_breakAt 92 = .ok (.ireturn, 1) := by decide +kernel
theorem dX1_breakAt_93 : decode cX1_breakAt 93 = .ok (.aload_n 3, 1) := by decide +kernel
theorem dX1_breakAt_94 : decode cX1_breakAt 94 = .ok (.iconst 1, 1) := by decide +kernel
theorem dX1_breakAt_95 : decode cX1_breakAt 95 = .ok (.invokevirtual 130, 3) := by decide +kernel
theorem dX1_breakAt_98 : decode cX1_breakAt 98 = .ok (.ifCond .eq 14, 3) := by decide +kernel
theorem dX1_breakAt_101 : decode cX1_breakAt 101 = .ok (.aload_n 0, 1) := by decide +kernel
theorem dX1_breakAt_102 : decode cX1_breakAt 102 = .ok (.getfield 21, 3) := by decide +kernel
theorem dX1_breakAt_105 : decode cX1_breakAt 105 = .ok (.iload_n 2, 1) := by decide +kernel
theorem dX1_breakAt_106 : decode cX1_breakAt 106 = .ok (.iaload, 1) := by decide +kernel
theorem dX1_breakAt_107 : decode cX1_breakAt 107 = .ok (.ifCond .le 5, 3) := by decide +kernel
theorem dX1_breakAt_110 : decode cX1_breakAt 110 = .ok (.iconst 4, 1) := by decide +kernel
theorem dX1_breakAt_111 : decode cX1_breakAt 111 = .ok (.ireturn, 1) := by decide +kernel
theorem dX1_breakAt_112 : decode cX1_breakAt 112 = .ok (.aload_n 3, 1) := by decide +kernel
theorem dX1_breakAt_113 : decode cX1_breakAt 113 = .ok (.getfield 133, 3) := by decide +kernel
theorem dX1_breakAt_116 : decode cX1_breakAt 116 = .ok (.iconst 2, 1) := by decide +kernel
theorem dX1_breakAt_117 : decode cX1_breakAt 117 = .ok (.if_icmp .ne 18, 3) := by decide +kernel
theorem dX1_breakAt_120 : decode cX1_breakAt 120 = .ok (.aload_n 0, 1) := by decide +kernel
theorem dX1_breakAt_121 : decode cX1_breakAt 121 = .ok (.getfield 27, 3) := by decide +kernel
theorem dX1_breakAt_124 : decode cX1_breakAt 124 = .ok (.aload_n 3, 1) := by decide +kernel
theorem dX1_breakAt_125 : decode cX1_breakAt 125 = .ok (.getfield 113, 3) := by decide +kernel
theorem dX1_breakAt_128 : decode cX1_breakAt 128 = .ok (.iaload, 1) := by decide +kernel
theorem dX1_breakAt_129 : decode cX1_breakAt 129 = .ok (.iload_n 1, 1) := by decide +kernel
theorem dX1_breakAt_130 : decode cX1_breakAt 130 = .ok (.if_icmp .le 5, 3) := by decide +kernel
theorem dX1_breakAt_133 : decode cX1_breakAt 133 = .ok (.iconst 5, 1) := by decide +kernel
theorem dX1_breakAt_134 : decode cX1_breakAt 134 = .ok (.ireturn, 1) := by decide +kernel
theorem dX1_breakAt_135 : decode cX1_breakAt 135 = .ok (.aload_n 3, 1) := by decide +kernel
theorem dX1_breakAt_136 : decode cX1_breakAt 136 = .ok (.getfield 133, 3) := by decide +kernel
theorem dX1_breakAt_139 : decode cX1_breakAt 139 = .ok (.iconst 3, 1) := by decide +kernel
theorem dX1_breakAt_140 : decode cX1_breakAt 140 = .ok (.if_icmp .ne 23, 3) := by decide +kernel
theorem dX1_breakAt_143 : decode cX1_breakAt 143 = .ok (.iload 4, 2) := by decide +kernel
theorem dX1_breakAt_145 : decode cX1_breakAt 145 = .ok (.iload_n 2, 1) := by decide +kernel
theorem dX1_breakAt_146 : decode cX1_breakAt 146 = .ok (.if_icmp .eq 17, 3) := by decide +kernel
theorem dX1_breakAt_149 : decode cX1_breakAt 149 = .ok (.aload_n 0, 1) := by decide +kernel
theorem dX1_breakAt_150 : decode cX1_breakAt 150 = .ok (.iload_n 1, 1) := by decide +kernel
theorem dX1_breakAt_151 : decode cX1_breakAt 151 = .ok (.iconst 1, 1) := by decide +kernel
theorem dX1_breakAt_152 : decode cX1_breakAt 152 = .ok (.iadd, 1) := by decide +kernel
theorem dX1_breakAt_153 : decode cX1_breakAt 153 = .ok (.invokevirtual 78, 3) := by decide +kernel
theorem dX1_breakAt_156 : decode cX1_breakAt 156 = .ok (.iload_n 2, 1) := by decide +kernel
theorem dX1_breakAt_157 : decode cX1_breakAt 157 = .ok (.if_icmp .eq 6, 3) := by decide +kernel
theorem dX1_breakAt_160 : decode cX1_breakAt 160 = .ok (.bipush 6, 2) := by decide +kernel
theorem dX1_breakAt_162 : decode cX1_breakAt 162 = .ok (.ireturn, 1) := by decide +kernel
theorem dX1_breakAt_163 : decode cX1_breakAt 163 = .ok (.iconst 0, 1) := by decide +kernel
theorem dX1_breakAt_164 : decode cX1_breakAt 164 = .ok (.ireturn, 1) := by decide +kernel
theorem dX1_seatsAt_0 : decode cX1_seatsAt 0 = .ok (.aload_n 0, 1) := by decide +kernel
theorem dX1_seatsAt_1 : decode cX1_seatsAt 1 = .ok (.getfield 30, 3) := by decide +kernel
theorem dX1_seatsAt_4 : decode cX1_seatsAt 4 = .ok (.iload_n 2, 1) := by decide +kernel
theorem dX1_seatsAt_5 : decode cX1_seatsAt 5 = .ok (.invokevirtual 109, 3) := by decide +kernel
theorem dX1_seatsAt_8 : decode cX1_seatsAt 8 = .ok (.astore_n 3, 1) := by decide +kernel
theorem dX1_seatsAt_9 : decode cX1_seatsAt 9 = .ok (.bipush 100, 2) := by decide +kernel
theorem dX1_seatsAt_11 : decode cX1_seatsAt 11 = .ok (.aload_n 3, 1) := by decide +kernel
theorem dX1_seatsAt_12 : decode cX1_seatsAt 12 = .ok (.getfield 136, 3) := by decide +kernel
theorem dX1_seatsAt_15 : decode cX1_seatsAt 15 = .ok (.imul, 1) := by decide +kernel
theorem dX1_seatsAt_16 : decode cX1_seatsAt 16 = .ok (.istore 4, 2) := by decide +kernel
theorem dX1_seatsAt_18 : decode cX1_seatsAt 18 = .ok (.aload_n 0, 1) := by decide +kernel
theorem dX1_seatsAt_19 : decode cX1_seatsAt 19 = .ok (.getfield 21, 3) := by decide +kernel
theorem dX1_seatsAt_22 : decode cX1_seatsAt 22 = .ok (.iload_n 2, 1) := by decide +kernel
theorem dX1_seatsAt_23 : decode cX1_seatsAt 23 = .ok (.iaload, 1) := by decide +kernel
theorem dX1_seatsAt_24 : decode cX1_seatsAt 24 = .ok (.iconst 3, 1) := by decide +kernel
theorem dX1_seatsAt_25 : decode cX1_seatsAt 25 = .ok (.invokestatic 138, 3) := by decide +kernel
theorem dX1_seatsAt_28 : decode cX1_seatsAt 28 = .ok (.istore 5, 2) := by decide +kernel
theorem dX1_seatsAt_30 : decode cX1_seatsAt 30 = .ok (.iload 5, 2) := by decide +kernel
theorem dX1_seatsAt_32 : decode cX1_seatsAt 32 = .ok (.ifCond .le 19, 3) := by decide +kernel
theorem dX1_seatsAt_35 : decode cX1_seatsAt 35 = .ok (.bipush 70, 2) := by decide +kernel
theorem dX1_seatsAt_37 : decode cX1_seatsAt 37 = .ok (.iload 4, 2) := by decide +kernel
theorem dX1_seatsAt_39 : decode cX1_seatsAt 39 = .ok (.imul, 1) := by decide +kernel
theorem dX1_seatsAt_40 : decode cX1_seatsAt 40 = .ok (.bipush 100, 2) := by decide +kernel
theorem dX1_seatsAt_42 : decode cX1_seatsAt 42 = .ok (.idiv, 1) := by decide +kernel
theorem dX1_seatsAt_43 : decode cX1_seatsAt 43 = .ok (.istore 4, 2) := by decide +kernel
theorem dX1_seatsAt_45 : decode cX1_seatsAt 45 = .ok (.iinc 5 (-1), 3) := by decide +kernel
theorem dX1_seatsAt_48 : decode cX1_seatsAt 48 = .ok (.goto (-18), 3) := by decide +kernel
theorem dX1_seatsAt_51 : decode cX1_seatsAt 51 = .ok (.aload_n 3, 1) := by decide +kernel
theorem dX1_seatsAt_52 : decode cX1_seatsAt 52 = .ok (.iconst 1, 1) := by decide +kernel
theorem dX1_seatsAt_53 : decode cX1_seatsAt 53 = .ok (.invokevirtual 130, 3) := by decide +kernel
theorem dX1_seatsAt_56 : decode cX1_seatsAt 56 = .ok (.ifCond .eq 11, 3) := by decide +kernel
theorem dX1_seatsAt_59 : decode cX1_seatsAt 59 = .ok (.iconst 3, 1) := by decide +kernel
theorem dX1_seatsAt_60 : decode cX1_seatsAt 60 = .ok (.iload 4, 2) := by decide +kernel
theorem dX1_seatsAt_62 : decode cX1_seatsAt 62 = .ok (.imul, 1) := by decide +kernel
theorem dX1_seatsAt_63 : decode cX1_seatsAt 63 = .ok (.iconst 2, 1) := by decide +kernel
theorem dX1_seatsAt_64 : decode cX1_seatsAt 64 = .ok (.idiv, 1) := by decide +kernel
theorem dX1_seatsAt_65 : decode cX1_seatsAt 65 = .ok (.istore 4, 2) := by decide +kernel
theorem dX1_seatsAt_67 : decode cX1_seatsAt 67 = .ok (.aload_n 0, 1) := by decide +kernel
theorem dX1_seatsAt_68 : decode cX1_seatsAt 68 = .ok (.iload_n 1, 1) := by decide +kernel
theorem dX1_seatsAt_69 : decode cX1_seatsAt 69 = .ok (.iconst 1, 1) := by decide +kernel
theorem dX1_seatsAt_70 : decode cX1_seatsAt 70 = .ok (.isub, 1) := by decide +kernel
theorem dX1_seatsAt_71 : decode cX1_seatsAt 71 = .ok (.iload_n 2, 1) := by decide +kernel
theorem dX1_seatsAt_72 : decode cX1_seatsAt 72 = .ok (.invokevirtual 143, 3) := by decide +kernel
theorem dX1_seatsAt_75 : decode cX1_seatsAt 75 = .ok (.ifCond .ne 14, 3) := by decide +kernel
theorem dX1_seatsAt_78 : decode cX1_seatsAt 78 = .ok (.aload_n 0, 1) := by decide +kernel
theorem dX1_seatsAt_79 : decode cX1_seatsAt 79 = .ok (.iload_n 1, 1) := by decide +kernel
theorem dX1_seatsAt_80 : decode cX1_seatsAt 80 = .ok (.iconst 1, 1) := by decide +kernel
theorem dX1_seatsAt_81 : decode cX1_seatsAt 81 = .ok (.iadd, 1) := by decide +kernel
theorem dX1_seatsAt_82 : decode cX1_seatsAt 82 = .ok (.iload_n 2, 1) := by decide +kernel
theorem dX1_seatsAt_83 : decode cX1_seatsAt 83 = .ok (.invokevirtual 143, 3) := by decide +kernel
theorem dX1_seatsAt_86 : decode cX1_seatsAt 86 = .ok (.ifCond .eq 6, 3) := by decide +kernel
theorem dX1_seatsAt_89 : decode cX1_seatsAt 89 = .ok (.iinc 4 50, 3) := by decide +kernel
theorem dX1_seatsAt_92 : decode cX1_seatsAt 92 = .ok (.iload 4, 2) := by decide +kernel
theorem dX1_seatsAt_94 : decode cX1_seatsAt 94 = .ok (.ireturn, 1) := by decide +kernel
theorem dX1_isDrawnBy_0 : decode cX1_isDrawnBy 0 = .ok (.aload_n 0, 1) := by decide +kernel
theorem dX1_isDrawnBy_1 : decode cX1_isDrawnBy 1 = .ok (.iload_n 1, 1) := by decide +kernel
theorem dX1_isDrawnBy_2 : decode cX1_isDrawnBy 2 = .ok (.invokevirtual 78, 3) := by decide +kernel
theorem dX1_isDrawnBy_5 : decode cX1_isDrawnBy 5 = .ok (.istore_n 3, 1) := by decide +kernel
theorem dX1_isDrawnBy_6 : decode cX1_isDrawnBy 6 = .ok (.iload_n 3, 1) := by decide +kernel
theorem dX1_isDrawnBy_7 : decode cX1_isDrawnBy 7 = .ok (.iconst (-1), 1) := by decide +kernel
theorem dX1_isDrawnBy_8 : decode cX1_isDrawnBy 8 = .ok (.if_icmp .eq 27, 3) := by decide +kernel
theorem dX1_isDrawnBy_11 : decode cX1_isDrawnBy 11 = .ok (.iload_n 3, 1) := by decide +kernel
theorem dX1_isDrawnBy_12 : decode cX1_isDrawnBy 12 = .ok (.iload_n 2, 1) := by decide +kernel
theorem dX1_isDrawnBy_13 : decode cX1_isDrawnBy 13 = .ok (.if_icmp .eq 22, 3) := by decide +kernel
theorem dX1_isDrawnBy_16 : decode cX1_isDrawnBy 16 = .ok (.aload_n 0, 1) := by decide +kernel
theorem dX1_isDrawnBy_17 : decode cX1_isDrawnBy 17 = .ok (.getfield 30, 3) := by decide +kernel
theorem dX1_isDrawnBy_20 : decode cX1_isDrawnBy 20 = .ok (.iload_n 3, 1) := by decide +kernel
theorem dX1_isDrawnBy_21 : decode cX1_isDrawnBy 21 = .ok (.invokevirtual 109, 3) := by decide +kernel
theorem dX1_isDrawnBy_24 : decode cX1_isDrawnBy 24 = .ok (.getfield 133, 3) := by decide +kernel
theorem dX1_isDrawnBy_27 : decode cX1_isDrawnBy 27 = .ok (.iconst 4, 1) := by decide +kernel
theorem dX1_isDrawnBy_28 : decode cX1_isDrawnBy 28 = .ok (.if_icmp .ne 7, 3) := by decide +kernel
theorem dX1_isDrawnBy_31 : decode cX1_isDrawnBy 31 = .ok (.iconst 1, 1) := by decide +kernel
theorem dX1_isDrawnBy_32 : decode cX1_isDrawnBy 32 = .ok (.goto 4, 3) := by decide +kernel
theorem dX1_isDrawnBy_35 : decode cX1_isDrawnBy 35 = .ok (.iconst 0, 1) := by decide +kernel
theorem dX1_isDrawnBy_36 : decode cX1_isDrawnBy 36 = .ok (.ireturn, 1) := by decide +kernel
theorem dX1_isCastOn_0 : decode cX1_isCastOn 0 = .ok (.aload_n 0, 1) := by decide +kernel
theorem dX1_isCastOn_1 : decode cX1_isCastOn 1 = .ok (.iload_n 1, 1) := by decide +kernel
theorem dX1_isCastOn_2 : decode cX1_isCastOn 2 = .ok (.invokevirtual 78, 3) := by decide +kernel
theorem dX1_isCastOn_5 : decode cX1_isCastOn 5 = .ok (.istore_n 3, 1) := by decide +kernel
theorem dX1_isCastOn_6 : decode cX1_isCastOn 6 = .ok (.iload_n 3, 1) := by decide +kernel
theorem dX1_isCastOn_7 : decode cX1_isCastOn 7 = .ok (.iconst (-1), 1) := by decide +kernel
theorem dX1_isCastOn_8 : decode cX1_isCastOn 8 = .ok (.if_icmp .eq 22, 3) := by decide +kernel
theorem dX1_isCastOn_11 : decode cX1_isCastOn 11 = .ok (.aload_n 0, 1) := by decide +kernel
theorem dX1_isCastOn_12 : decode cX1_isCastOn 12 = .ok (.getfield 30, 3) := by decide +kernel
theorem dX1_isCastOn_15 : decode cX1_isCastOn 15 = .ok (.iload_n 3, 1) := by decide +kernel
theorem dX1_isCastOn_16 : decode cX1_isCastOn 16 = .ok (.invokevirtual 109, 3) := by decide +kernel
theorem dX1_isCastOn_19 : decode cX1_isCastOn 19 = .ok (.getfield 113, 3) := by decide +kernel
theorem dX1_isCastOn_22 : decode cX1_isCastOn 22 = .ok (.iload_n 2, 1) := by decide +kernel
theorem dX1_isCastOn_23 : decode cX1_isCastOn 23 = .ok (.if_icmp .ne 7, 3) := by decide +kernel
theorem dX1_isCastOn_26 : decode cX1_isCastOn 26 = .ok (.iconst 1, 1) := by decide +kernel
theorem dX1_isCastOn_27 : decode cX1_isCastOn 27 = .ok (.goto 4, 3) := by decide +kernel
theorem dX1_isCastOn_30 : decode cX1_isCastOn 30 = .ok (.iconst 0, 1) := by decide +kernel
theorem dX1_isCastOn_31 : decode cX1_isCastOn 31 = .ok (.ireturn, 1) := by decide +kernel
theorem dX1_titleOn_0 : decode cX1_titleOn 0 = .ok (.iload_n 1, 1) := by decide +kernel
theorem dX1_titleOn_1 : decode cX1_titleOn 1 = .ok (.ifCond .lt 9, 3) := by decide +kernel
theorem dX1_titleOn_4 : decode cX1_titleOn 4 = .ok (.iload_n 1, 1) := by decide +kernel
theorem dX1_titleOn_5 : decode cX1_titleOn 5 = .ok (.bipush 12, 2) := by decide +kernel
theorem dX1_titleOn_7 : decode cX1_titleOn 7 = .ok (.if_icmp .lt 5, 3) := by decide +kernel
theorem dX1_titleOn_10 : decode cX1_titleOn 10 = .ok (.iconst (-1), 1) := by decide +kernel
theorem dX1_titleOn_11 : decode cX1_titleOn 11 = .ok (.ireturn, 1) := by decide +kernel
theorem dX1_titleOn_12 : decode cX1_titleOn 12 = .ok (.aload_n 0, 1) := by decide +kernel
theorem dX1_titleOn_13 : decode cX1_titleOn 13 = .ok (.getfield 9, 3) := by decide +kernel
theorem dX1_titleOn_16 : decode cX1_titleOn 16 = .ok (.iload_n 1, 1) := by decide +kernel
theorem dX1_titleOn_17 : decode cX1_titleOn 17 = .ok (.iaload, 1) := by decide +kernel
theorem dX1_titleOn_18 : decode cX1_titleOn 18 = .ok (.istore_n 2, 1) := by decide +kernel
theorem dX1_titleOn_19 : decode cX1_titleOn 19 = .ok (.iload_n 2, 1) := by decide +kernel
theorem dX1_titleOn_20 : decode cX1_titleOn 20 = .ok (.ifCond .lt 18, 3) := by decide +kernel
theorem dX1_titleOn_23 : decode cX1_titleOn 23 = .ok (.iload_n 2, 1) := by decide +kernel
theorem dX1_titleOn_24 : decode cX1_titleOn 24 = .ok (.aload_n 0, 1) := by decide +kernel
theorem dX1_titleOn_25 : decode cX1_titleOn 25 = .ok (.getfield 30, 3) := by decide +kernel
theorem dX1_titleOn_28 : decode cX1_titleOn 28 = .ok (.getfield 70, 3) := by decide +kernel
theorem dX1_titleOn_31 : decode cX1_titleOn 31 = .ok (.if_icmp .ge 7, 3) := by decide +kernel
theorem dX1_titleOn_34 : decode cX1_titleOn 34 = .ok (.iload_n 2, 1) := by decide +kernel
theorem dX1_titleOn_35 : decode cX1_titleOn 35 = .ok (.goto 4, 3) := by decide +kernel
theorem dX1_titleOn_38 : decode cX1_titleOn 38 = .ok (.iconst (-1), 1) := by decide +kernel
theorem dX1_titleOn_39 : decode cX1_titleOn 39 = .ok (.ireturn, 1) := by decide +kernel
theorem dX2_init_0 : decode cX2_init 0 = .ok (.aload_n 0, 1) := by decide +kernel
theorem dX2_init_1 : decode cX2_init 1 = .ok (.invokespecial 3, 3) := by decide +kernel
theorem dX2_init_4 : decode cX2_init 4 = .ok (.aload_n 0, 1) := by decide +kernel
theorem dX2_init_5 : decode cX2_init 5 = .ok (.iconst 4, 1) := by decide +kernel
theorem dX2_init_6 : decode cX2_init 6 = .ok (.newarray .int, 2) := by decide +kernel
theorem dX2_init_8 : decode cX2_init 8 = .ok (.putfield 9, 3) := by decide +kernel
theorem dX2_init_11 : decode cX2_init 11 = .ok (.aload_n 0, 1) := by decide +kernel
theorem dX2_init_12 : decode cX2_init 12 = .ok (.bipush 12, 2) := by decide +kernel
theorem dX2_init_14 : decode cX2_init 14 = .ok (.newarray .int, 2) := by decide +kernel
theorem dX2_init_16 : decode cX2_init 16 = .ok (.putfield 15, 3) := by decide +kernel
theorem dX2_init_19 : decode cX2_init 19 = .ok (.aload_n 0, 1) := by decide +kernel
theorem dX2_init_20 : decode cX2_init 20 = .ok (.aload_n 1, 1) := by decide +kernel
theorem dX2_init_21 : decode cX2_init 21 = .ok (.putfield 18, 3) := by decide +kernel
theorem dX2_init_24 : decode cX2_init 24 = .ok (.aload_n 0, 1) := by decide +kernel
theorem dX2_init_25 : decode cX2_init 25 = .ok (.aload_n 2, 1) := by decide +kernel
theorem dX2_init_26 : decode cX2_init 26 = .ok (.putfield 22, 3) := by decide +kernel
theorem dX2_init_29 : decode cX2_init 29 = .ok (.return_, 1) := by decide +kernel
theorem dX2_seek_0 : decode cX2_seek 0 = .ok (.aload_n 0, 1) := by decide +kernel
theorem dX2_seek_1 : decode cX2_seek 1 = .ok (.aload_n 1, 1) := by decide +kernel
theorem dX2_seek_2 : decode cX2_seek 2 = .ok (.iload_n 2, 1) := by decide +kernel
theorem dX2_seek_3 : decode cX2_seek 3 = .ok (.iload_n 3, 1) := by decide +kernel
theorem dX2_seek_4 : decode cX2_seek 4 = .ok (.invokevirtual 26, 3) := by decide +kernel
theorem dX2_seek_7 : decode cX2_seek 7 = .ok (.aload_n 1, 1) := by decide +kernel
theorem dX2_seek_8 : decode cX2_seek 8 = .ok (.getfield 30, 3) := by decide +kernel
theorem dX2_seek_11 : decode cX2_seek 11 = .ok (.iconst 0, 1) := by decide +kernel
theorem dX2_seek_12 : decode cX2_seek 12 = .ok (.aload_n 0, 1) := by decide +kernel
theorem dX2_seek_13 : decode cX2_seek 13 = .ok (.getfield 22, 3) := by decide +kernel
theorem dX2_seek_16 : decode cX2_seek 16 = .ok (.getfield 30, 3) := by decide +kernel
theorem dX2_seek_19 : decode cX2_seek 19 = .ok (.iconst 0, 1) := by decide +kernel
theorem dX2_seek_20 : decode cX2_seek 20 = .ok (.bipush 12, 2) := by decide +kernel
theorem dX2_seek_22 : decode cX2_seek 22 = .ok (.invokestatic 33, 3) := by decide +kernel
theorem dX2_seek_25 : decode cX2_seek 25 = .ok (.iconst 1, 1) := by decide +kernel
theorem dX2_seek_26 : decode cX2_seek 26 = .ok (.istore 4, 2) := by decide +kernel
theorem dX2_seek_28 : decode cX2_seek 28 = .ok (.iconst 0, 1) := by decide +kernel
theorem dX2_seek_29 : decode cX2_seek 29 = .ok (.istore 5, 2) := by decide +kernel
theorem dX2_seek_31 : decode cX2_seek 31 = .ok (.iload 5, 2) := by decide +kernel
theorem dX2_seek_33 : decode cX2_seek 33 = .ok (.aload_n 0, 1) := by decide +kernel
theorem dX2_seek_34 : decode cX2_seek 34 = .ok (.getfield 39, 3) := by decide +kernel
theorem dX2_seek_37 : decode cX2_seek 37 = .ok (.if_icmp .ge 23, 3) := by decide +kernel
theorem dX2_seek_40 : decode cX2_seek 40 = .ok (.iload 4, 2) := by decide +kernel
theorem dX2_seek_42 : decode cX2_seek 42 = .ok (.aload_n 0, 1) := by decide +kernel
theorem dX2_seek_43 : decode cX2_seek 43 = .ok (.getfield 18, 3) := by decide +kernel
theorem dX2_seek_46 : decode cX2_seek 46 = .ok (.getfield 43, 3) := by decide +kernel
theorem dX2_seek_49 : decode cX2_seek 49 = .ok (.iconst 1, 1) := by decide +kernel
theorem dX2_seek_50 : decode cX2_seek 50 = .ok (.iadd, 1) := by decide +kernel
theorem dX2_seek_51 : decode cX2_seek 51 = .ok (.imul, 1) := by decide +kernel
theorem dX2_seek_52 : decode cX2_seek 52 = .ok (.istore 4, 2) := by decide +kernel
theorem dX2_seek_54 : decode cX2_seek 54 = .ok (.iinc 5 1, 3) := by decide +kernel
theorem dX2_seek_57 : decode cX2_seek 57 = .ok (.goto (-26), 3) := by decide +kernel
theorem dX2_seek_60 : decode cX2_seek 60 = .ok (.iconst 0, 1) := by decide +kernel
theorem dX2_seek_61 : decode cX2_seek 61 = .ok (.istore 5, 2) := by decide +kernel
theorem dX2_seek_63 : decode cX2_seek 63 = .ok (.iload 5, 2) := by decide +kernel
theorem dX2_seek_65 : decode cX2_seek 65 = .ok (.iload 4, 2) := by decide +kernel
theorem dX2_seek_67 : decode cX2_seek 67 = .ok (.if_icmp .ge 38, 3) := by decide +kernel
theorem dX2_seek_70 : decode cX2_seek 70 = .ok (.aload_n 0, 1) := by decide +kernel
theorem dX2_seek_71 : decode cX2_seek 71 = .ok (.iload 5, 2) := by decide +kernel
theorem dX2_seek_73 : decode cX2_seek 73 = .ok (.invokevirtual 48, 3) := by decide +kernel
theorem dX2_seek_76 : decode cX2_seek 76 = .ok (.aload_n 0, 1) := by decide +kernel
theorem dX2_seek_77 : decode cX2_seek 77 = .ok (.getfield 22, 3) := by decide +kernel
theorem dX2_seek_80 : decode cX2_seek 80 = .ok (.invokevirtual 52, 3) := by decide +kernel
theorem dX2_seek_83 : decode cX2_seek 83 = .ok (.iload 5, 2) := by decide +kernel
theorem dX2_seek_85 : decode cX2_seek 85 = .ok (.ifCond .eq 10, 3) := by decide +kernel
theorem dX2_seek_88 : decode cX2_seek 88 = .ok (.aload_n 0, 1) := by decide +kernel
theorem dX2_seek_89 : decode cX2_seek 89 = .ok (.invokevirtual 55, 3) := by decide +kernel
theorem dX2_seek_92 : decode cX2_seek 92 = .ok (.ifCond .eq 7, 3) := by decide +kernel
theorem dX2_seek_95 : decode cX2_seek 95 = .ok (.aload_n 0, 1) := by decide +kernel
theorem dX2_seek_96 : decode cX2_seek 96 = .ok (.invokevirtual 59, 3) := by decide +kernel
theorem dX2_seek_99 : decode cX2_seek 99 = .ok (.iinc 5 1, 3) := by decide +kernel
theorem dX2_seek_102 : decode cX2_seek 102 = .ok (.goto (-39), 3) := by decide +kernel
theorem dX2_seek_105 : decode cX2_seek 105 = .ok (.return_, 1) := by decide +kernel
theorem dX2_gatherOpen_0 : decode cX2_gatherOpen 0 = .ok (.aload_n 0, 1) := by decide +kernel
theorem dX2_gatherOpen_1 : decode cX2_gatherOpen 1 = .ok (.iconst 0, 1) := by decide +kernel
theorem dX2_gatherOpen_2 : decode cX2_gatherOpen 2 = .ok (.putfield 39, 3) := by decide +kernel
theorem dX2_gatherOpen_5 : decode cX2_gatherOpen 5 = .ok (.iload_n 2, 1) := by decide +kernel
theorem dX2_gatherOpen_6 : decode cX2_gatherOpen 6 = .ok (.istore 4, 2) := by decide +kernel
theorem dX2_gatherOpen_8 : decode cX2_gatherOpen 8 = .ok (.iload 4, 2) := by decide +kernel
theorem dX2_gatherOpen_10 : decode cX2_gatherOpen 10 = .ok (.iload_n 3, 1) := by decide +kernel
theorem dX2_gatherOpen_11 : decode cX2_gatherOpen 11 = .ok (.if_icmp .gt 47, 3) := by decide +kernel
theorem dX2_gatherOpen_14 : decode cX2_gatherOpen 14 = .ok (.aload_n 0, 1) := by decide +kernel
theorem dX2_gatherOpen_15 : decode cX2_gatherOpen 15 = .ok (.getfield 39, 3) := by decide +kernel
theorem dX2_gatherOpen_18 : decode cX2_gatherOpen 18 = .ok (.iconst 4, 1) := by decide +kernel
theorem dX2_gatherOpen_19 : decode cX2_gatherOpen 19 = .ok (.if_icmp .ge 39, 3) := by decide +kernel
theorem dX2_gatherOpen_22 : decode cX2_gatherOpen 22 = .ok (.aload_n 1, 1) := by decide +kernel
theorem dX2_gatherOpen_23 : decode cX2_gatherOpen 23 = .ok (.iload 4, 2) := by decide +kernel
theorem dX2_gatherOpen_25 : decode cX2_gatherOpen 25 = .ok (.invokevirtual 62, 3) := by decide +kernel
theorem dX2_gatherOpen_28 : decode cX2_gatherOpen 28 = .ok (.ifCond .eq 24, 3) := by decide +kernel
theorem dX2_gatherOpen_31 : decode cX2_gatherOpen 31 = .ok (.aload_n 0, 1) := by decide +kernel
theorem dX2_gatherOpen_32 : decode cX2_gatherOpen 32 = .ok (.getfield 9, 3) := by decide +kernel
theorem dX2_gatherOpen_35 : decode cX2_gatherOpen 35 = .ok (.aload_n 0, 1) := by decide +kernel
theorem dX2_gatherOpen_36 : decode cX2_gatherOpen 36 = .ok (.getfield 39, 3) := by decide +kernel
theorem dX2_gatherOpen_39 : decode cX2_gatherOpen 39 = .ok (.iload 4, 2) := by decide +kernel
theorem dX2_gatherOpen_41 : decode cX2_gatherOpen 41 = .ok (.iastore, 1) := by decide +kernel
theorem dX2_gatherOpen_42 : decode cX2_gatherOpen 42 = .ok (.aload_n 0, 1) := by decide +kernel
theorem dX2_gatherOpen_43 : decode cX2_gatherOpen 43 = .ok (.dup, 1) := by decide +kernel
theorem dX2_gatherOpen_44 : decode cX2_gatherOpen 44 = .ok (.getfield 39, 3) := by decide +kernel
theorem dX2_gatherOpen_47 : decode cX2_gatherOpen 47 = .ok (.iconst 1, 1) := by decide +kernel
theorem dX2_gatherOpen_48 : decode cX2_gatherOpen 48 = .ok (.iadd, 1) := by decide +kernel
theorem dX2_gatherOpen_49 : decode cX2_gatherOpen 49 = .ok (.putfield 39, 3) := by decide +kernel
theorem dX2_gatherOpen_52 : decode cX2_gatherOpen 52 = .ok (.iinc 4 1, 3) := by decide +kernel
theorem dX2_gatherOpen_55 : decode cX2_gatherOpen 55 = .ok (.goto (-47), 3) := by decide +kernel
theorem dX2_gatherOpen_58 : decode cX2_gatherOpen 58 = .ok (.return_, 1) := by decide +kernel
theorem dX2_fill_0 : decode cX2_fill 0 = .ok (.aload_n 0, 1) := by decide +kernel
theorem dX2_fill_1 : decode cX2_fill 1 = .ok (.getfield 18, 3) := by decide +kernel
theorem dX2_fill_4 : decode cX2_fill 4 = .ok (.getfield 43, 3) := by decide +kernel
theorem dX2_fill_7 : decode cX2_fill 7 = .ok (.iconst 1, 1) := by decide +kernel
theorem dX2_fill_8 : decode cX2_fill 8 = .ok (.iadd, 1) := by decide +kernel
theorem dX2_fill_9 : decode cX2_fill 9 = .ok (.istore_n 2, 1) := by decide +kernel
theorem dX2_fill_10 : decode cX2_fill 10 = .ok (.iload_n 1, 1) := by decide +kernel
theorem dX2_fill_11 : decode cX2_fill 11 = .ok (.istore_n 3, 1) := by decide +kernel
theorem dX2_fill_12 : decode cX2_fill 12 = .ok (.aload_n 0, 1) := by decide +kernel
theorem dX2_fill_13 : decode cX2_fill 13 = .ok (.getfield 39, 3) := by decide +kernel
theorem dX2_fill_16 : decode cX2_fill 16 = .ok (.iconst 1, 1) := by decide +kernel
theorem dX2_fill_17 : decode cX2_fill 17 = .ok (.isub, 1) := by decide +kernel
theorem dX2_fill_18 : decode cX2_fill 18 = .ok (.istore 4, 2) := by decide +kernel
theorem dX2_fill_20 : decode cX2_fill 20 = .ok (.iload 4, 2) := by decide +kernel
theorem dX2_fill_22 : decode cX2_fill 22 = .ok (.ifCond .lt 33, 3) := by decide +kernel
theorem dX2_fill_25 : decode cX2_fill 25 = .ok (.aload_n 0, 1) := by decide +kernel
theorem dX2_fill_26 : decode cX2_fill 26 = .ok (.getfield 22, 3) := by decide +kernel
theorem dX2_fill_29 : decode cX2_fill 29 = .ok (.getfield 30, 3) := by decide +kernel
theorem dX2_fill_32 : decode cX2_fill 32 = .ok (.aload_n 0, 1) := by decide +kernel
theorem dX2_fill_33 : decode cX2_fill 33 = .ok (.getfield 9, 3) := by decide +kernel
theorem dX2_fill_36 : decode cX2_fill 36 = .ok (.iload 4, 2) := by decide +kernel
theorem dX2_fill_38 : decode cX2_fill 38 = .ok (.iaload, 1) := by decide +kernel
theorem dX2_fill_39 : decode cX2_fill 39 = .ok (.iload_n 3, 1) := by decide +kernel
theorem dX2_fill_40 : decode cX2_fill 40 = .ok (.iload_n 2, 1) := by decide +kernel
theorem dX2_fill_41 : decode cX2_fill 41 = .ok (.irem, 1) := by decide +kernel
theorem dX2_fill_42 : decode cX2_fill 42 = .ok (.iconst 1, 1) := by decide +kernel
theorem dX2_fill_43 : decode cX2_fill 43 = .ok (.isub, 1) := by decide +kernel
theorem dX2_fill_44 : decode cX2_fill 44 = .ok (.iastore, 1) := by decide +kernel
theorem dX2_fill_45 : decode cX2_fill 45 = .ok (.iload_n 3, 1) := by decide +kernel
theorem dX2_fill_46 : decode cX2_fill 46 = .ok (.iload_n 2, 1) := by decide +kernel
theorem dX2_fill_47 : decode cX2_fill 47 = .ok (.idiv, 1) := by decide +kernel
theorem dX2_fill_48 : decode cX2_fill 48 = .ok (.istore_n 3, 1) := by decide +kernel
theorem dX2_fill_49 : decode cX2_fill 49 = .ok (.iinc 4 (-1), 3) := by decide +kernel
theorem dX2_fill_52 : decode cX2_fill 52 = .ok (.goto (-32), 3) := by decide +kernel
theorem dX2_fill_55 : decode cX2_fill 55 = .ok (.return_, 1) := by decide +kernel
theorem dX2_isBetter_0 : decode cX2_isBetter 0 = .ok (.aload_n 0, 1) := by decide +kernel
theorem dX2_isBetter_1 : decode cX2_isBetter 1 = .ok (.getfield 22, 3) := by decide +kernel
theorem dX2_isBetter_4 : decode cX2_isBetter 4 = .ok (.getfield 66, 3) := by decide +kernel
theorem dX2_isBetter_7 : decode cX2_isBetter 7 = .ok (.aload_n 0, 1) := by decide +kernel
theorem dX2_isBetter_8 : decode cX2_isBetter 8 = .ok (.getfield 69, 3) := by decide +kernel
theorem dX2_isBetter_11 : decode cX2_isBetter 11 = .ok (.if_icmp .lt 31, 3) := by decide +kernel
theorem dX2_isBetter_14 : decode cX2_isBetter 14 = .ok (.aload_n 0, 1) := by decide +kernel
theorem dX2_isBetter_15 : decode cX2_isBetter 15 = .ok (.getfield 22, 3) := by decide +kernel
theorem dX2_isBetter_18 : decode cX2_isBetter 18 = .ok (.getfield 66, 3) := by decide +kernel
theorem dX2_isBetter_21 : decode cX2_isBetter 21 = .ok (.aload_n 0, 1) := by decide +kernel
theorem dX2_isBetter_22 : decode cX2_isBetter 22 = .ok (.getfield 69, 3) := by decide +kernel
theorem dX2_isBetter_25 : decode cX2_isBetter 25 = .ok (.if_icmp .ne 21, 3) := by decide +kernel
theorem dX2_isBetter_28 : decode cX2_isBetter 28 = .ok (.aload_n 0, 1) := by decide +kernel
theorem dX2_isBetter_29 : decode cX2_isBetter 29 = .ok (.getfield 22, 3) := by decide +kernel
theorem dX2_isBetter_32 : decode cX2_isBetter 32 = .ok (.getfield 70, 3) := by decide +kernel
theorem dX2_isBetter_35 : decode cX2_isBetter 35 = .ok (.aload_n 0, 1) := by decide +kernel
theorem dX2_isBetter_36 : decode cX2_isBetter 36 = .ok (.getfield 73, 3) := by decide +kernel
theorem dX2_isBetter_39 : decode cX2_isBetter 39 = .ok (.if_icmp .le 7, 3) := by decide +kernel
theorem dX2_isBetter_42 : decode cX2_isBetter 42 = .ok (.iconst 1, 1) := by decide +kernel
theorem dX2_isBetter_43 : decode cX2_isBetter 43 = .ok (.goto 4, 3) := by decide +kernel
theorem dX2_isBetter_46 : decode cX2_isBetter 46 = .ok (.iconst 0, 1) := by decide +kernel
theorem dX2_isBetter_47 : decode cX2_isBetter 47 = .ok (.ireturn, 1) := by decide +kernel
theorem dX2_keep_0 : decode cX2_keep 0 = .ok (.aload_n 0, 1) := by decide +kernel
theorem dX2_keep_1 : decode cX2_keep 1 = .ok (.aload_n 0, 1) := by decide +kernel
theorem dX2_keep_2 : decode cX2_keep 2 = .ok (.getfield 22, 3) := by decide +kernel
theorem dX2_keep_5 : decode cX2_keep 5 = .ok (.getfield 66, 3) := by decide +kernel
theorem dX2_keep_8 : decode cX2_keep 8 = .ok (.putfield 69, 3) := by decide +kernel
theorem dX2_keep_11 : decode cX2_keep 11 = .ok (.aload_n 0, 1) := by decide +kernel
theorem dX2_keep_12 : decode cX2_keep 12 = .ok (.aload_n 0, 1) := by decide +kernel
theorem dX2_keep_13 : decode cX2_keep 13 = .ok (.getfield 22, 3) := by decide +kernel
theorem dX2_keep_16 : decode cX2_keep 16 = .ok (.getfield 70, 3) := by decide +kernel
theorem dX2_keep_19 : decode cX2_keep 19 = .ok (.putfield 73, 3) := by decide +kernel
theorem dX2_keep_22 : decode cX2_keep 22 = .ok (.aload_n 0, 1) := by decide +kernel
theorem dX2_keep_23 : decode cX2_keep 23 = .ok (.getfield 22, 3) := by decide +kernel
theorem dX2_keep_26 : decode cX2_keep 26 = .ok (.getfield 30, 3) := by decide +kernel
