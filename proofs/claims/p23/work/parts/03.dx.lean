theorem dX0_init_0 : decode cX0_init 0 = .ok (.aload_n 0, 1) := by decide +kernel
theorem dX0_init_1 : decode cX0_init 1 = .ok (.invokespecial 3, 3) := by decide +kernel
theorem dX0_init_4 : decode cX0_init 4 = .ok (.aload_n 0, 1) := by decide +kernel
theorem dX0_init_5 : decode cX0_init 5 = .ok (.iconst 5, 1) := by decide +kernel
theorem dX0_init_6 : decode cX0_init 6 = .ok (.newarray .int, 2) := by decide +kernel
theorem dX0_init_8 : decode cX0_init 8 = .ok (.putfield 9, 3) := by decide +kernel
theorem dX0_init_11 : decode cX0_init 11 = .ok (.aload_n 0, 1) := by decide +kernel
theorem dX0_init_12 : decode cX0_init 12 = .ok (.bipush 25, 2) := by decide +kernel
theorem dX0_init_14 : decode cX0_init 14 = .ok (.newarray .int, 2) := by decide +kernel
theorem dX0_init_16 : decode cX0_init 16 = .ok (.putfield 15, 3) := by decide +kernel
theorem dX0_init_19 : decode cX0_init 19 = .ok (.iconst 0, 1) := by decide +kernel
theorem dX0_init_20 : decode cX0_init 20 = .ok (.istore_n 1, 1) := by decide +kernel
theorem dX0_init_21 : decode cX0_init 21 = .ok (.iload_n 1, 1) := by decide +kernel
theorem dX0_init_22 : decode cX0_init 22 = .ok (.bipush 25, 2) := by decide +kernel
theorem dX0_init_24 : decode cX0_init 24 = .ok (.if_icmp .ge 17, 3) := by decide +kernel
theorem dX0_init_27 : decode cX0_init 27 = .ok (.aload_n 0, 1) := by decide +kernel
theorem dX0_init_28 : decode cX0_init 28 = .ok (.getfield 15, 3) := by decide +kernel
theorem dX0_init_31 : decode cX0_init 31 = .ok (.iload_n 1, 1) := by decide +kernel
theorem dX0_init_32 : decode cX0_init 32 = .ok (.ldc 18, 2) := by decide +kernel
theorem dX0_init_34 : decode cX0_init 34 = .ok (.iastore, 1) := by decide +kernel
theorem dX0_init_35 : decode cX0_init 35 = .ok (.iinc 1 1, 3) := by decide +kernel
theorem dX0_init_38 : decode cX0_init 38 = .ok (.goto (-17), 3) := by decide +kernel
theorem dX0_init_41 : decode cX0_init 41 = .ok (.return_, 1) := by decide +kernel
theorem dX0_allow_0 : decode cX0_allow 0 = .ok (.iconst 0, 1) := by decide +kernel
theorem dX0_allow_1 : decode cX0_allow 1 = .ok (.istore_n 2, 1) := by decide +kernel
theorem dX0_allow_2 : decode cX0_allow 2 = .ok (.iload_n 2, 1) := by decide +kernel
theorem dX0_allow_3 : decode cX0_allow 3 = .ok (.iconst 5, 1) := by decide +kernel
theorem dX0_allow_4 : decode cX0_allow 4 = .ok (.if_icmp .ge 26, 3) := by decide +kernel
theorem dX0_allow_7 : decode cX0_allow 7 = .ok (.aload_n 1, 1) := by decide +kernel
theorem dX0_allow_8 : decode cX0_allow 8 = .ok (.getfield 19, 3) := by decide +kernel
theorem dX0_allow_11 : decode cX0_allow 11 = .ok (.iload_n 2, 1) := by decide +kernel
theorem dX0_allow_12 : decode cX0_allow 12 = .ok (.iaload, 1) := by decide +kernel
theorem dX0_allow_13 : decode cX0_allow 13 = .ok (.aload_n 0, 1) := by decide +kernel
theorem dX0_allow_14 : decode cX0_allow 14 = .ok (.getfield 9, 3) := by decide +kernel
theorem dX0_allow_17 : decode cX0_allow 17 = .ok (.iload_n 2, 1) := by decide +kernel
theorem dX0_allow_18 : decode cX0_allow 18 = .ok (.iaload, 1) := by decide +kernel
theorem dX0_allow_19 : decode cX0_allow 19 = .ok (.if_icmp .ge 5, 3) := by decide +kernel
theorem dX0_allow_22 : decode cX0_allow 22 = .ok (.iconst 0, 1) := by decide +kernel
theorem dX0_allow_23 : decode cX0_allow 23 = .ok (.ireturn, 1) := by decide +kernel
theorem dX0_allow_24 : decode cX0_allow 24 = .ok (.iinc 2 1, 3) := by decide +kernel
theorem dX0_allow_27 : decode cX0_allow 27 = .ok (.goto (-25), 3) := by decide +kernel
theorem dX0_allow_30 : decode cX0_allow 30 = .ok (.iconst 0, 1) := by decide +kernel
theorem dX0_allow_31 : decode cX0_allow 31 = .ok (.istore_n 2, 1) := by decide +kernel
theorem dX0_allow_32 : decode cX0_allow 32 = .ok (.iload_n 2, 1) := by decide +kernel
theorem dX0_allow_33 : decode cX0_allow 33 = .ok (.bipush 25, 2) := by decide +kernel
theorem dX0_allow_35 : decode cX0_allow 35 = .ok (.if_icmp .ge 26, 3) := by decide +kernel
theorem dX0_allow_38 : decode cX0_allow 38 = .ok (.aload_n 1, 1) := by decide +kernel
theorem dX0_allow_39 : decode cX0_allow 39 = .ok (.getfield 24, 3) := by decide +kernel
theorem dX0_allow_42 : decode cX0_allow 42 = .ok (.iload_n 2, 1) := by decide +kernel
theorem dX0_allow_43 : decode cX0_allow 43 = .ok (.iaload, 1) := by decide +kernel
theorem dX0_allow_44 : decode cX0_allow 44 = .ok (.aload_n 0, 1) := by decide +kernel
theorem dX0_allow_45 : decode cX0_allow 45 = .ok (.getfield 15, 3) := by decide +kernel
theorem dX0_allow_48 : decode cX0_allow 48 = .ok (.iload_n 2, 1) := by decide +kernel
theorem dX0_allow_49 : decode cX0_allow 49 = .ok (.iaload, 1) := by decide +kernel
theorem dX0_allow_50 : decode cX0_allow 50 = .ok (.if_icmp .le 5, 3) := by decide +kernel
theorem dX0_allow_53 : decode cX0_allow 53 = .ok (.iconst 0, 1) := by decide +kernel
theorem dX0_allow_54 : decode cX0_allow 54 = .ok (.ireturn, 1) := by decide +kernel
theorem dX0_allow_55 : decode cX0_allow 55 = .ok (.iinc 2 1, 3) := by decide +kernel
theorem dX0_allow_58 : decode cX0_allow 58 = .ok (.goto (-26), 3) := by decide +kernel
theorem dX0_allow_61 : decode cX0_allow 61 = .ok (.iconst 1, 1) := by decide +kernel
theorem dX0_allow_62 : decode cX0_allow 62 = .ok (.ireturn, 1) := by decide +kernel
theorem dX1_init_0 : decode cX1_init 0 = .ok (.aload_n 0, 1) := by decide +kernel
theorem dX1_init_1 : decode cX1_init 1 = .ok (.invokespecial 3, 3) := by decide +kernel
theorem dX1_init_4 : decode cX1_init 4 = .ok (.aload_n 0, 1) := by decide +kernel
theorem dX1_init_5 : decode cX1_init 5 = .ok (.bipush 40, 2) := by decide +kernel
theorem dX1_init_7 : decode cX1_init 7 = .ok (.newarray .int, 2) := by decide +kernel
theorem dX1_init_9 : decode cX1_init 9 = .ok (.putfield 9, 3) := by decide +kernel
theorem dX1_init_12 : decode cX1_init 12 = .ok (.aload_n 0, 1) := by decide +kernel
theorem dX1_init_13 : decode cX1_init 13 = .ok (.bipush 40, 2) := by decide +kernel
theorem dX1_init_15 : decode cX1_init 15 = .ok (.newarray .int, 2) := by decide +kernel
theorem dX1_init_17 : decode cX1_init 17 = .ok (.putfield 15, 3) := by decide +kernel
theorem dX1_init_20 : decode cX1_init 20 = .ok (.aload_n 0, 1) := by decide +kernel
theorem dX1_init_21 : decode cX1_init 21 = .ok (.bipush 40, 2) := by decide +kernel
theorem dX1_init_23 : decode cX1_init 23 = .ok (.newarray .int, 2) := by decide +kernel
theorem dX1_init_25 : decode cX1_init 25 = .ok (.putfield 18, 3) := by decide +kernel
theorem dX1_init_28 : decode cX1_init 28 = .ok (.aload_n 0, 1) := by decide +kernel
theorem dX1_init_29 : decode cX1_init 29 = .ok (.bipush 40, 2) := by decide +kernel
theorem dX1_init_31 : decode cX1_init 31 = .ok (.newarray .int, 2) := by decide +kernel
theorem dX1_init_33 : decode cX1_init 33 = .ok (.putfield 21, 3) := by decide +kernel
theorem dX1_init_36 : decode cX1_init 36 = .ok (.return_, 1) := by decide +kernel
theorem dX1_enter_0 : decode cX1_enter 0 = .ok (.aload_n 0, 1) := by decide +kernel
theorem dX1_enter_1 : decode cX1_enter 1 = .ok (.getfield 24, 3) := by decide +kernel
theorem dX1_enter_4 : decode cX1_enter 4 = .ok (.istore 5, 2) := by decide +kernel
theorem dX1_enter_6 : decode cX1_enter 6 = .ok (.aload_n 0, 1) := by decide +kernel
theorem dX1_enter_7 : decode cX1_enter 7 = .ok (.getfield 9, 3) := by decide +kernel
theorem dX1_enter_10 : decode cX1_enter 10 = .ok (.iload 5, 2) := by decide +kernel
theorem dX1_enter_12 : decode cX1_enter 12 = .ok (.iload_n 1, 1) := by decide +kernel
theorem dX1_enter_13 : decode cX1_enter 13 = .ok (.iastore, 1) := by decide +kernel
theorem dX1_enter_14 : decode cX1_enter 14 = .ok (.aload_n 0, 1) := by decide +kernel
theorem dX1_enter_15 : decode cX1_enter 15 = .ok (.getfield 15, 3) := by decide +kernel
theorem dX1_enter_18 : decode cX1_enter 18 = .ok (.iload 5, 2) := by decide +kernel
theorem dX1_enter_20 : decode cX1_enter 20 = .ok (.iload_n 2, 1) := by decide +kernel
theorem dX1_enter_21 : decode cX1_enter 21 = .ok (.iastore, 1) := by decide +kernel
theorem dX1_enter_22 : decode cX1_enter 22 = .ok (.aload_n 0, 1) := by decide +kernel
theorem dX1_enter_23 : decode cX1_enter 23 = .ok (.getfield 18, 3) := by decide +kernel
theorem dX1_enter_26 : decode cX1_enter 26 = .ok (.iload 5, 2) := by decide +kernel
theorem dX1_enter_28 : decode cX1_enter 28 = .ok (.iload_n 3, 1) := by decide +kernel
theorem dX1_enter_29 : decode cX1_enter 29 = .ok (.iastore, 1) := by decide +kernel
theorem dX1_enter_30 : decode cX1_enter 30 = .ok (.aload_n 0, 1) := by decide +kernel
theorem dX1_enter_31 : decode cX1_enter 31 = .ok (.getfield 21, 3) := by decide +kernel
theorem dX1_enter_34 : decode cX1_enter 34 = .ok (.iload 5, 2) := by decide +kernel
theorem dX1_enter_36 : decode cX1_enter 36 = .ok (.iload 4, 2) := by decide +kernel
theorem dX1_enter_38 : decode cX1_enter 38 = .ok (.iastore, 1) := by decide +kernel
theorem dX1_enter_39 : decode cX1_enter 39 = .ok (.aload_n 0, 1) := by decide +kernel
theorem dX1_enter_40 : decode cX1_enter 40 = .ok (.dup, 1) := by decide +kernel
theorem dX1_enter_41 : decode cX1_enter 41 = .ok (.getfield 24, 3) := by decide +kernel
theorem dX1_enter_44 : decode cX1_enter 44 = .ok (.iconst 1, 1) := by decide +kernel
theorem dX1_enter_45 : decode cX1_enter 45 = .ok (.iadd, 1) := by decide +kernel
theorem dX1_enter_46 : decode cX1_enter 46 = .ok (.putfield 24, 3) := by decide +kernel
theorem dX1_enter_49 : decode cX1_enter 49 = .ok (.iload 5, 2) := by decide +kernel
theorem dX1_enter_51 : decode cX1_enter 51 = .ok (.ireturn, 1) := by decide +kernel
theorem dX2_init_0 : decode cX2_init 0 = .ok (.aload_n 0, 1) := by decide +kernel
theorem dX2_init_1 : decode cX2_init 1 = .ok (.invokespecial 3, 3) := by decide +kernel
theorem dX2_init_4 : decode cX2_init 4 = .ok (.aload_n 0, 1) := by decide +kernel
theorem dX2_init_5 : decode cX2_init 5 = .ok (.bipush 60, 2) := by decide +kernel
theorem dX2_init_7 : decode cX2_init 7 = .ok (.newarray .int, 2) := by decide +kernel
theorem dX2_init_9 : decode cX2_init 9 = .ok (.putfield 9, 3) := by decide +kernel
theorem dX2_init_12 : decode cX2_init 12 = .ok (.aload_n 0, 1) := by decide +kernel
theorem dX2_init_13 : decode cX2_init 13 = .ok (.bipush 60, 2) := by decide +kernel
theorem dX2_init_15 : decode cX2_init 15 = .ok (.newarray .int, 2) := by decide +kernel
theorem dX2_init_17 : decode cX2_init 17 = .ok (.putfield 15, 3) := by decide +kernel
theorem dX2_init_20 : decode cX2_init 20 = .ok (.aload_n 0, 1) := by decide +kernel
theorem dX2_init_21 : decode cX2_init 21 = .ok (.bipush 60, 2) := by decide +kernel
theorem dX2_init_23 : decode cX2_init 23 = .ok (.newarray .int, 2) := by decide +kernel
theorem dX2_init_25 : decode cX2_init 25 = .ok (.putfield 18, 3) := by decide +kernel
theorem dX2_init_28 : decode cX2_init 28 = .ok (.aload_n 0, 1) := by decide +kernel
theorem dX2_init_29 : decode cX2_init 29 = .ok (.bipush 60, 2) := by decide +kernel
theorem dX2_init_31 : decode cX2_init 31 = .ok (.newarray .int, 2) := by decide +kernel
theorem dX2_init_33 : decode cX2_init 33 = .ok (.putfield 21, 3) := by decide +kernel
theorem dX2_init_36 : decode cX2_init 36 = .ok (.aload_n 0, 1) := by decide +kernel
theorem dX2_init_37 : decode cX2_init 37 = .ok (.bipush 60, 2) := by decide +kernel
theorem dX2_init_39 : decode cX2_init 39 = .ok (.newarray .boolean, 2) := by decide +kernel
theorem dX2_init_41 : decode cX2_init 41 = .ok (.putfield 24, 3) := by decide +kernel
theorem dX2_init_44 : decode cX2_init 44 = .ok (.aload_n 0, 1) := by decide +kernel
theorem dX2_init_45 : decode cX2_init 45 = .ok (.bipush 60, 2) := by decide +kernel
theorem dX2_init_47 : decode cX2_init 47 = .ok (.newarray .int, 2) := by decide +kernel
theorem dX2_init_49 : decode cX2_init 49 = .ok (.putfield 28, 3) := by decide +kernel
theorem dX2_init_52 : decode cX2_init 52 = .ok (.return_, 1) := by decide +kernel
theorem dX2_enter_0 : decode cX2_enter 0 = .ok (.aload_n 0, 1) := by decide +kernel
theorem dX2_enter_1 : decode cX2_enter 1 = .ok (.getfield 31, 3) := by decide +kernel
theorem dX2_enter_4 : decode cX2_enter 4 = .ok (.istore 5, 2) := by decide +kernel
theorem dX2_enter_6 : decode cX2_enter 6 = .ok (.aload_n 0, 1) := by decide +kernel
theorem dX2_enter_7 : decode cX2_enter 7 = .ok (.getfield 9, 3) := by decide +kernel
theorem dX2_enter_10 : decode cX2_enter 10 = .ok (.iload 5, 2) := by decide +kernel
theorem dX2_enter_12 : decode cX2_enter 12 = .ok (.iload_n 1, 1) := by decide +kernel
theorem dX2_enter_13 : decode cX2_enter 13 = .ok (.iastore, 1) := by decide +kernel
theorem dX2_enter_14 : decode cX2_enter 14 = .ok (.aload_n 0, 1) := by decide +kernel
theorem dX2_enter_15 : decode cX2_enter 15 = .ok (.getfield 15, 3) := by decide +kernel
theorem dX2_enter_18 : decode cX2_enter 18 = .ok (.iload 5, 2) := by decide +kernel
theorem dX2_enter_20 : decode cX2_enter 20 = .ok (.iload_n 2, 1) := by decide +kernel
theorem dX2_enter_21 : decode cX2_enter 21 = .ok (.iastore, 1) := by decide +kernel
theorem dX2_enter_22 : decode cX2_enter 22 = .ok (.aload_n 0, 1) := by decide +kernel
theorem dX2_enter_23 : decode cX2_enter 23 = .ok (.getfield 18, 3) := by decide +kernel
theorem dX2_enter_26 : decode cX2_enter 26 = .ok (.iload 5, 2) := by decide +kernel
theorem dX2_enter_28 : decode cX2_enter 28 = .ok (.iload_n 3, 1) := by decide +kernel
theorem dX2_enter_29 : decode cX2_enter 29 = .ok (.iastore, 1) := by decide +kernel
theorem dX2_enter_30 : decode cX2_enter 30 = .ok (.aload_n 0, 1) := by decide +kernel
theorem dX2_enter_31 : decode cX2_enter 31 = .ok (.getfield 21, 3) := by decide +kernel
theorem dX2_enter_34 : decode cX2_enter 34 = .ok (.iload 5, 2) := by decide +kernel
theorem dX2_enter_36 : decode cX2_enter 36 = .ok (.iload 4, 2) := by decide +kernel
theorem dX2_enter_38 : decode cX2_enter 38 = .ok (.iastore, 1) := by decide +kernel
theorem dX2_enter_39 : decode cX2_enter 39 = .ok (.aload_n 0, 1) := by decide +kernel
theorem dX2_enter_40 : decode cX2_enter 40 = .ok (.getfield 24, 3) := by decide +kernel
theorem dX2_enter_43 : decode cX2_enter 43 = .ok (.iload 5, 2) := by decide +kernel
theorem dX2_enter_45 : decode cX2_enter 45 = .ok (.iconst 1, 1) := by decide +kernel
theorem dX2_enter_46 : decode cX2_enter 46 = .ok (.bastore, 1) := by decide +kernel
theorem dX2_enter_47 : decode cX2_enter 47 = .ok (.aload_n 0, 1) := by decide +kernel
theorem dX2_enter_48 : decode cX2_enter 48 = .ok (.getfield 31, 3) := by decide +kernel
theorem dX2_enter_51 : decode cX2_enter 51 = .ok (.istore 6, 2) := by decide +kernel
theorem dX2_enter_53 : decode cX2_enter 53 = .ok (.iload 6, 2) := by decide +kernel
theorem dX2_enter_55 : decode cX2_enter 55 = .ok (.ifCond .le 44, 3) := by decide +kernel
theorem dX2_enter_58 : decode cX2_enter 58 = .ok (.aload_n 0, 1) := by decide +kernel
theorem dX2_enter_59 : decode cX2_enter 59 = .ok (.getfield 21, 3) := by decide +kernel
theorem dX2_enter_62 : decode cX2_enter 62 = .ok (.aload_n 0, 1) := by decide +kernel
theorem dX2_enter_63 : decode cX2_enter 63 = .ok (.getfield 28, 3) := by decide +kernel
theorem dX2_enter_66 : decode cX2_enter 66 = .ok (.iload 6, 2) := by decide +kernel
theorem dX2_enter_68 : decode cX2_enter 68 = .ok (.iconst 1, 1) := by decide +kernel
theorem dX2_enter_69 : decode cX2_enter 69 = .ok (.isub, 1) := by decide +kernel
theorem dX2_enter_70 : decode cX2_enter 70 = .ok (.iaload, 1) := by decide +kernel
theorem dX2_enter_71 : decode cX2_enter 71 = .ok (.iaload, 1) := by decide +kernel
theorem dX2_enter_72 : decode cX2_enter 72 = .ok (.iload 4, 2) := by decide +kernel
theorem dX2_enter_74 : decode cX2_enter 74 = .ok (.if_icmp .ge 25, 3) := by decide +kernel
theorem dX2_enter_77 : decode cX2_enter 77 = .ok (.aload_n 0, 1) := by decide +kernel
theorem dX2_enter_78 : decode cX2_enter 78 = .ok (.getfield 28, 3) := by decide +kernel
theorem dX2_enter_81 : decode cX2_enter 81 = .ok (.iload 6, 2) := by decide +kernel
theorem dX2_enter_83 : decode cX2_enter 83 = .ok (.aload_n 0, 1) := by decide +kernel
theorem dX2_enter_84 : decode cX2_enter 84 = .ok (.getfield 28, 3) := by decide +kernel
theorem dX2_enter_87 : decode cX2_enter 87 = .ok (.iload 6, 2) := by decide +kernel
theorem dX2_enter_89 : decode cX2_enter 89 = .ok (.iconst 1, 1) := by decide +kernel
theorem dX2_enter_90 : decode cX2_enter 90 = .ok (.isub, 1) := by decide +kernel
theorem dX2_enter_91 : decode cX2_enter 91 = .ok (.iaload, 1) := by decide +kernel
theorem dX2_enter_92 : decode cX2_enter 92 = .ok (.iastore, 1) := by decide +kernel
theorem dX2_enter_93 : decode cX2_enter 93 = .ok (.iinc 6 (-1), 3) := by decide +kernel
theorem dX2_enter_96 : decode cX2_enter 96 = .ok (.goto (-43), 3) := by decide +kernel
theorem dX2_enter_99 : decode cX2_enter 99 = .ok (.aload_n 0, 1) := by decide +kernel
theorem dX2_enter_100 : decode cX2_enter 100 = .ok (.getfield 28, 3) := by decide +kernel
theorem dX2_enter_103 : decode cX2_enter 103 = .ok (.iload 6, 2) := by decide +kernel
theorem dX2_enter_105 : decode cX2_enter 105 = .ok (.iload 5, 2) := by decide +kernel
theorem dX2_enter_107 : decode cX2_enter 107 = .ok (.iastore, 1) := by decide +kernel
theorem dX2_enter_108 : decode cX2_enter 108 = .ok (.aload_n 0, 1) := by decide +kernel
theorem dX2_enter_109 : decode cX2_enter 109 = .ok (.dup, 1) := by decide +kernel
theorem dX2_enter_110 : decode cX2_enter 110 = .ok (.getfield 31, 3) := by decide +kernel
theorem dX2_enter_113 : decode cX2_enter 113 = .ok (.iconst 1, 1) := by decide +kernel
theorem dX2_enter_114 : decode cX2_enter 114 = .ok (.iadd, 1) := by decide +kernel
theorem dX2_enter_115 : decode cX2_enter 115 = .ok (.putfield 31, 3) := by decide +kernel
theorem dX2_enter_118 : decode cX2_enter 118 = .ok (.iload 5, 2) := by decide +kernel
theorem dX2_enter_120 : decode cX2_enter 120 = .ok (.ireturn, 1) := by decide +kernel
theorem dX2_apply_0 : decode cX2_apply 0 = .ok (.aload_n 2, 1) := by decide +kernel
theorem dX2_apply_1 : decode cX2_apply 1 = .ok (.aload_n 0, 1) := by decide +kernel
theorem dX2_apply_2 : decode cX2_apply 2 = .ok (.getfield 9, 3) := by decide +kernel
theorem dX2_apply_5 : decode cX2_apply 5 = .ok (.iload_n 1, 1) := by decide +kernel
theorem dX2_apply_6 : decode cX2_apply 6 = .ok (.iaload, 1) := by decide +kernel
theorem dX2_apply_7 : decode cX2_apply 7 = .ok (.aload_n 0, 1) := by decide +kernel
theorem dX2_apply_8 : decode cX2_apply 8 = .ok (.getfield 15, 3) := by decide +kernel
theorem dX2_apply_11 : decode cX2_apply 11 = .ok (.iload_n 1, 1) := by decide +kernel
theorem dX2_apply_12 : decode cX2_apply 12 = .ok (.iaload, 1) := by decide +kernel
theorem dX2_apply_13 : decode cX2_apply 13 = .ok (.aload_n 0, 1) := by decide +kernel
theorem dX2_apply_14 : decode cX2_apply 14 = .ok (.getfield 18, 3) := by decide +kernel
theorem dX2_apply_17 : decode cX2_apply 17 = .ok (.iload_n 1, 1) := by decide +kernel
theorem dX2_apply_18 : decode cX2_apply 18 = .ok (.iaload, 1) := by decide +kernel
theorem dX2_apply_19 : decode cX2_apply 19 = .ok (.invokevirtual 35, 3) := by decide +kernel
theorem dX2_apply_22 : decode cX2_apply 22 = .ok (.aload_n 2, 1) := by decide +kernel
theorem dX2_apply_23 : decode cX2_apply 23 = .ok (.aload_n 0, 1) := by decide +kernel
theorem dX2_apply_24 : decode cX2_apply 24 = .ok (.getfield 9, 3) := by decide +kernel
theorem dX2_apply_27 : decode cX2_apply 27 = .ok (.iload_n 1, 1) := by decide +kernel
theorem dX2_apply_28 : decode cX2_apply 28 = .ok (.iaload, 1) := by decide +kernel
theorem dX2_apply_29 : decode cX2_apply 29 = .ok (.aload_n 0, 1) := by decide +kernel
theorem dX2_apply_30 : decode cX2_apply 30 = .ok (.getfield 15, 3) := by decide +kernel
theorem dX2_apply_33 : decode cX2_apply 33 = .ok (.iload_n 1, 1) := by decide +kernel
theorem dX2_apply_34 : decode cX2_apply 34 = .ok (.iaload, 1) := by decide +kernel
theorem dX2_apply_35 : decode cX2_apply 35 = .ok (.aload_n 0, 1) := by decide +kernel
theorem dX2_apply_36 : decode cX2_apply 36 = .ok (.getfield 18, 3) := by decide +kernel
theorem dX2_apply_39 : decode cX2_apply 39 = .ok (.iload_n 1, 1) := by decide +kernel
theorem dX2_apply_40 : decode cX2_apply 40 = .ok (.iaload, 1) := by decide +kernel
theorem dX2_apply_41 : decode cX2_apply 41 = .ok (.invokevirtual 41, 3) := by decide +kernel
theorem dX2_apply_44 : decode cX2_apply 44 = .ok (.return_, 1) := by decide +kernel
theorem dX2_waitsAt_0 : decode cX2_waitsAt 0 = .ok (.aload_n 0, 1) := by decide +kernel
theorem dX2_waitsAt_1 : decode cX2_waitsAt 1 = .ok (.getfield 24, 3) := by decide +kernel
theorem dX2_waitsAt_4 : decode cX2_waitsAt 4 = .ok (.iload_n 1, 1) := by decide +kernel
theorem dX2_waitsAt_5 : decode cX2_waitsAt 5 = .ok (.baload, 1) := by decide +kernel
theorem dX2_waitsAt_6 : decode cX2_waitsAt 6 = .ok (.ifCond .eq 17, 3) := by decide +kernel
theorem dX2_waitsAt_9 : decode cX2_waitsAt 9 = .ok (.aload_n 0, 1) := by decide +kernel
theorem dX2_waitsAt_10 : decode cX2_waitsAt 10 = .ok (.getfield 9, 3) := by decide +kernel
theorem dX2_waitsAt_13 : decode cX2_waitsAt 13 = .ok (.iload_n 1, 1) := by decide +kernel
theorem dX2_waitsAt_14 : decode cX2_waitsAt 14 = .ok (.iaload, 1) := by decide +kernel
theorem dX2_waitsAt_15 : decode cX2_waitsAt 15 = .ok (.iload_n 2, 1) := by decide +kernel
theorem dX2_waitsAt_16 : decode cX2_waitsAt 16 = .ok (.if_icmp .ne 7, 3) := by decide +kernel
theorem dX2_waitsAt_19 : decode cX2_waitsAt 19 = .ok (.iconst 1, 1) := by decide +kernel
theorem dX2_waitsAt_20 : decode cX2_waitsAt 20 = .ok (.goto 4, 3) := by decide +kernel
theorem dX2_waitsAt_23 : decode cX2_waitsAt 23 = .ok (.iconst 0, 1) := by decide +kernel
theorem dX2_waitsAt_24 : decode cX2_waitsAt 24 = .ok (.ireturn, 1) := by decide +kernel
theorem dX2_inQueue_0 : decode cX2_inQueue 0 = .ok (.iconst 0, 1) := by decide +kernel
theorem dX2_inQueue_1 : decode cX2_inQueue 1 = .ok (.istore_n 3, 1) := by decide +kernel
theorem dX2_inQueue_2 : decode cX2_inQueue 2 = .ok (.iconst 0, 1) := by decide +kernel
theorem dX2_inQueue_3 : decode cX2_inQueue 3 = .ok (.istore 4, 2) := by decide +kernel
theorem dX2_inQueue_5 : decode cX2_inQueue 5 = .ok (.iload 4, 2) := by decide +kernel
theorem dX2_inQueue_7 : decode cX2_inQueue 7 = .ok (.aload_n 0, 1) := by decide +kernel
theorem dX2_inQueue_8 : decode cX2_inQueue 8 = .ok (.getfield 31, 3) := by decide +kernel
theorem dX2_inQueue_11 : decode cX2_inQueue 11 = .ok (.if_icmp .ge 40, 3) := by decide +kernel
theorem dX2_inQueue_14 : decode cX2_inQueue 14 = .ok (.aload_n 0, 1) := by decide +kernel
theorem dX2_inQueue_15 : decode cX2_inQueue 15 = .ok (.aload_n 0, 1) := by decide +kernel
theorem dX2_inQueue_16 : decode cX2_inQueue 16 = .ok (.getfield 28, 3) := by decide +kernel
theorem dX2_inQueue_19 : decode cX2_inQueue 19 = .ok (.iload 4, 2) := by decide +kernel
theorem dX2_inQueue_21 : decode cX2_inQueue 21 = .ok (.iaload, 1) := by decide +kernel
theorem dX2_inQueue_22 : decode cX2_inQueue 22 = .ok (.iload_n 1, 1) := by decide +kernel
theorem dX2_inQueue_23 : decode cX2_inQueue 23 = .ok (.invokevirtual 44, 3) := by decide +kernel
theorem dX2_inQueue_26 : decode cX2_inQueue 26 = .ok (.ifCond .eq 19, 3) := by decide +kernel
theorem dX2_inQueue_29 : decode cX2_inQueue 29 = .ok (.iload_n 3, 1) := by decide +kernel
theorem dX2_inQueue_30 : decode cX2_inQueue 30 = .ok (.iload_n 2, 1) := by decide +kernel
theorem dX2_inQueue_31 : decode cX2_inQueue 31 = .ok (.if_icmp .ne 11, 3) := by decide +kernel
theorem dX2_inQueue_34 : decode cX2_inQueue 34 = .ok (.aload_n 0, 1) := by decide +kernel
theorem dX2_inQueue_35 : decode cX2_inQueue 35 = .ok (.getfield 28, 3) := by decide +kernel
theorem dX2_inQueue_38 : decode cX2_inQueue 38 = .ok (.iload 4, 2) := by decide +kernel
theorem dX2_inQueue_40 : decode cX2_inQueue 40 = .ok (.iaload, 1) := by decide +kernel
theorem dX2_inQueue_41 : decode cX2_inQueue 41 = .ok (.ireturn, 1) := by decide +kernel
theorem dX2_inQueue_42 : decode cX2_inQueue 42 = .ok (.iinc 3 1, 3) := by decide +kernel
theorem dX2_inQueue_45 : decode cX2_inQueue 45 = .ok (.iinc 4 1, 3) := by decide +kernel
theorem dX2_inQueue_48 : decode cX2_inQueue 48 = .ok (.goto (-43), 3) := by decide +kernel
theorem dX2_inQueue_51 : decode cX2_inQueue 51 = .ok (.iconst (-1), 1) := by decide +kernel
theorem dX2_inQueue_52 : decode cX2_inQueue 52 = .ok (.ireturn, 1) := by decide +kernel
theorem dX2_countWaiting_0 : decode cX2_countWaiting 0 = .ok (.iconst 0, 1) := by decide +kernel
theorem dX2_countWaiting_1 : decode cX2_countWaiting 1 = .ok (.istore_n 1, 1) := by decide +kernel
theorem dX2_countWaiting_2 : decode cX2_countWaiting 2 = .ok (.iconst 0, 1) := by decide +kernel
theorem dX2_countWaiting_3 : decode cX2_countWaiting 3 = .ok (.istore_n 2, 1) := by decide +kernel
theorem dX2_countWaiting_4 : decode cX2_countWaiting 4 = .ok (.iload_n 2, 1) := by decide +kernel
theorem dX2_countWaiting_5 : decode cX2_countWaiting 5 = .ok (.aload_n 0, 1) := by decide +kernel
theorem dX2_countWaiting_6 : decode cX2_countWaiting 6 = .ok (.getfield 31, 3) := by decide +kernel
theorem dX2_countWaiting_9 : decode cX2_countWaiting 9 = .ok (.if_icmp .ge 21, 3) := by decide +kernel
theorem dX2_countWaiting_12 : decode cX2_countWaiting 12 = .ok (.aload_n 0, 1) := by decide +kernel
theorem dX2_countWaiting_13 : decode cX2_countWaiting 13 = .ok (.getfield 24, 3) := by decide +kernel
theorem dX2_countWaiting_16 : decode cX2_countWaiting 16 = .ok (.iload_n 2, 1) := by decide +kernel
theorem dX2_countWaiting_17 : decode cX2_countWaiting 17 = .ok (.baload, 1) := by decide +kernel
theorem dX2_countWaiting_18 : decode cX2_countWaiting 18 = .ok (.ifCond .eq 6, 3) := by decide +kernel
theorem dX2_countWaiting_21 : decode cX2_countWaiting 21 = .ok (.iinc 1 1, 3) := by decide +kernel
theorem dX2_countWaiting_24 : decode cX2_countWaiting 24 = .ok (.iinc 2 1, 3) := by decide +kernel
theorem dX2_countWaiting_27 : decode cX2_countWaiting 27 = .ok (.goto (-23), 3) := by decide +kernel
theorem dX2_countWaiting_30 : decode cX2_countWaiting 30 = .ok (.iload_n 1, 1) := by decide +kernel
theorem dX2_countWaiting_31 : decode cX2_countWaiting 31 = .ok (.ireturn, 1) := by decide +kernel
theorem dX2_dropAllOf_0 : decode cX2_dropAllOf 0 = .ok (.iconst 0, 1) := by decide +kernel
theorem dX2_dropAllOf_1 : decode cX2_dropAllOf 1 = .ok (.istore_n 2, 1) := by decide +kernel
theorem dX2_dropAllOf_2 : decode cX2_dropAllOf 2 = .ok (.iload_n 2, 1) := by decide +kernel
theorem dX2_dropAllOf_3 : decode cX2_dropAllOf 3 = .ok (.aload_n 0, 1) := by decide +kernel
theorem dX2_dropAllOf_4 : decode cX2_dropAllOf 4 = .ok (.getfield 31, 3) := by decide +kernel
theorem dX2_dropAllOf_7 : decode cX2_dropAllOf 7 = .ok (.if_icmp .ge 36, 3) := by decide +kernel
theorem dX2_dropAllOf_10 : decode cX2_dropAllOf 10 = .ok (.aload_n 0, 1) := by decide +kernel
theorem dX2_dropAllOf_11 : decode cX2_dropAllOf 11 = .ok (.getfield 9, 3) := by decide +kernel
theorem dX2_dropAllOf_14 : decode cX2_dropAllOf 14 = .ok (.iload_n 2, 1) := by decide +kernel
theorem dX2_dropAllOf_15 : decode cX2_dropAllOf 15 = .ok (.iaload, 1) := by decide +kernel
theorem dX2_dropAllOf_16 : decode cX2_dropAllOf 16 = .ok (.iload_n 1, 1) := by decide +kernel
theorem dX2_dropAllOf_17 : decode cX2_dropAllOf 17 = .ok (.if_icmp .eq 13, 3) := by decide +kernel
theorem dX2_dropAllOf_20 : decode cX2_dropAllOf 20 = .ok (.aload_n 0, 1) := by decide +kernel
theorem dX2_dropAllOf_21 : decode cX2_dropAllOf 21 = .ok (.getfield 15, 3) := by decide +kernel
theorem dX2_dropAllOf_24 : decode cX2_dropAllOf 24 = .ok (.iload_n 2, 1) := by decide +kernel
theorem dX2_dropAllOf_25 : decode cX2_dropAllOf 25 = .ok (.iaload, 1) := by decide +kernel
theorem dX2_dropAllOf_26 : decode cX2_dropAllOf 26 = .ok (.iload_n 1, 1) := by decide +kernel
theorem dX2_dropAllOf_27 : decode cX2_dropAllOf 27 = .ok (.if_icmp .ne 10, 3) := by decide +kernel
theorem dX2_dropAllOf_30 : decode cX2_dropAllOf 30 = .ok (.aload_n 0, 1) := by decide +kernel
theorem dX2_dropAllOf_31 : decode cX2_dropAllOf 31 = .ok (.getfield 24, 3) := by decide +kernel
theorem dX2_dropAllOf_34 : decode cX2_dropAllOf 34 = .ok (.iload_n 2, 1) := by decide +kernel
theorem dX2_dropAllOf_35 : decode cX2_dropAllOf 35 = .ok (.iconst 0, 1) := by decide +kernel
theorem dX2_dropAllOf_36 : decode cX2_dropAllOf 36 = .ok (.bastore, 1) := by decide +kernel
theorem dX2_dropAllOf_37 : decode cX2_dropAllOf 37 = .ok (.iinc 2 1, 3) := by decide +kernel
theorem dX2_dropAllOf_40 : decode cX2_dropAllOf 40 = .ok (.goto (-38), 3) := by decide +kernel
theorem dX2_dropAllOf_43 : decode cX2_dropAllOf 43 = .ok (.return_, 1) := by decide +kernel
theorem dX3_init_0 : decode cX3_init 0 = .ok (.aload_n 0, 1) := by decide +kernel
theorem dX3_init_1 : decode cX3_init 1 = .ok (.invokespecial 3, 3) := by decide +kernel
theorem dX3_init_4 : decode cX3_init 4 = .ok (.aload_n 0, 1) := by decide +kernel
theorem dX3_init_5 : decode cX3_init 5 = .ok (.iconst 5, 1) := by decide +kernel
theorem dX3_init_6 : decode cX3_init 6 = .ok (.newarray .int, 2) := by decide +kernel
theorem dX3_init_8 : decode cX3_init 8 = .ok (.putfield 9, 3) := by decide +kernel
theorem dX3_init_11 : decode cX3_init 11 = .ok (.aload_n 0, 1) := by decide +kernel
theorem dX3_init_12 : decode cX3_init 12 = .ok (.bipush 25, 2) := by decide +kernel
theorem dX3_init_14 : decode cX3_init 14 = .ok (.newarray .int, 2) := by decide +kernel
theorem dX3_init_16 : decode cX3_init 16 = .ok (.putfield 15, 3) := by decide +kernel
theorem dX3_init_19 : decode cX3_init 19 = .ok (.return_, 1) := by decide +kernel
theorem dX3_move_0 : decode cX3_move 0 = .ok (.aload_n 0, 1) := by decide +kernel
theorem dX3_move_1 : decode cX3_move 1 = .ok (.getfield 9, 3) := by decide +kernel
theorem dX3_move_4 : decode cX3_move 4 = .ok (.iload_n 1, 1) := by decide +kernel
theorem dX3_move_5 : decode cX3_move 5 = .ok (.dup2, 1) := by decide +kernel
theorem dX3_move_6 : decode cX3_move 6 = .ok (.iaload, 1) := by decide +kernel
theorem dX3_move_7 : decode cX3_move 7 = .ok (.iload_n 3, 1) := by decide +kernel
theorem dX3_move_8 : decode cX3_move 8 = .ok (.isub, 1) := by decide +kernel
theorem dX3_move_9 : decode cX3_move 9 = .ok (.iastore, 1) := by decide +kernel
theorem dX3_move_10 : decode cX3_move 10 = .ok (.aload_n 0, 1) := by decide +kernel
theorem dX3_move_11 : decode cX3_move 11 = .ok (.getfield 9, 3) := by decide +kernel
theorem dX3_move_14 : decode cX3_move 14 = .ok (.iload_n 2, 1) := by decide +kernel
theorem dX3_move_15 : decode cX3_move 15 = .ok (.dup2, 1) := by decide +kernel
theorem dX3_move_16 : decode cX3_move 16 = .ok (.iaload, 1) := by decide +kernel
theorem dX3_move_17 : decode cX3_move 17 = .ok (.iload_n 3, 1) := by decide +kernel
theorem dX3_move_18 : decode cX3_move 18 = .ok (.iadd, 1) := by decide +kernel
theorem dX3_move_19 : decode cX3_move 19 = .ok (.iastore, 1) := by decide +kernel
theorem dX3_move_20 : decode cX3_move 20 = .ok (.return_, 1) := by decide +kernel
theorem dX3_notePaid_0 : decode cX3_notePaid 0 = .ok (.aload_n 0, 1) := by decide +kernel
theorem dX3_notePaid_1 : decode cX3_notePaid 1 = .ok (.getfield 15, 3) := by decide +kernel
theorem dX3_notePaid_4 : decode cX3_notePaid 4 = .ok (.iload_n 1, 1) := by decide +kernel
theorem dX3_notePaid_5 : decode cX3_notePaid 5 = .ok (.iload_n 2, 1) := by decide +kernel
theorem dX3_notePaid_6 : decode cX3_notePaid 6 = .ok (.invokestatic 18, 3) := by decide +kernel
theorem dX3_notePaid_9 : decode cX3_notePaid 9 = .ok (.dup2, 1) := by decide +kernel
theorem dX3_notePaid_10 : decode cX3_notePaid 10 = .ok (.iaload, 1) := by decide +kernel
theorem dX3_notePaid_11 : decode cX3_notePaid 11 = .ok (.iload_n 3, 1) := by decide +kernel
theorem dX3_notePaid_12 : decode cX3_notePaid 12 = .ok (.iadd, 1) := by decide +kernel
theorem dX3_notePaid_13 : decode cX3_notePaid 13 = .ok (.iastore, 1) := by decide +kernel
theorem dX3_notePaid_14 : decode cX3_notePaid 14 = .ok (.aload_n 0, 1) := by decide +kernel
theorem dX3_notePaid_15 : decode cX3_notePaid 15 = .ok (.getfield 15, 3) := by decide +kernel
theorem dX3_notePaid_18 : decode cX3_notePaid 18 = .ok (.iload_n 2, 1) := by decide +kernel
theorem dX3_notePaid_19 : decode cX3_notePaid 19 = .ok (.iload_n 1, 1) := by decide +kernel
theorem dX3_notePaid_20 : decode cX3_notePaid 20 = .ok (.invokestatic 18, 3) := by decide +kernel
theorem dX3_notePaid_23 : decode cX3_notePaid 23 = .ok (.dup2, 1) := by decide +kernel
theorem dX3_notePaid_24 : decode cX3_notePaid 24 = .ok (.iaload, 1) := by decide +kernel
theorem dX3_notePaid_25 : decode cX3_notePaid 25 = .ok (.iload_n 3, 1) := by decide +kernel
theorem dX3_notePaid_26 : decode cX3_notePaid 26 = .ok (.isub, 1) := by decide +kernel
theorem dX3_notePaid_27 : decode cX3_notePaid 27 = .ok (.iastore, 1) := by decide +kernel
theorem dX3_notePaid_28 : decode cX3_notePaid 28 = .ok (.return_, 1) := by decide +kernel
theorem dX3_forgetPaid_0 : decode cX3_forgetPaid 0 = .ok (.iconst 0, 1) := by decide +kernel
theorem dX3_forgetPaid_1 : decode cX3_forgetPaid 1 = .ok (.istore_n 1, 1) := by decide +kernel
theorem dX3_forgetPaid_2 : decode cX3_forgetPaid 2 = .ok (.iload_n 1, 1) := by decide +kernel
theorem dX3_forgetPaid_3 : decode cX3_forgetPaid 3 = .ok (.bipush 25, 2) := by decide +kernel
theorem dX3_forgetPaid_5 : decode cX3_forgetPaid 5 = .ok (.if_icmp .ge 16, 3) := by decide +kernel
theorem dX3_forgetPaid_8 : decode cX3_forgetPaid 8 = .ok (.aload_n 0, 1) := by decide +kernel
theorem dX3_forgetPaid_9 : decode cX3_forgetPaid 9 = .ok (.getfield 15, 3) := by decide +kernel
theorem dX3_forgetPaid_12 : decode cX3_forgetPaid 12 = .ok (.iload_n 1, 1) := by decide +kernel
theorem dX3_forgetPaid_13 : decode cX3_forgetPaid 13 = .ok (.iconst 0, 1) := by decide +kernel
theorem dX3_forgetPaid_14 : decode cX3_forgetPaid 14 = .ok (.iastore, 1) := by decide +kernel
theorem dX3_forgetPaid_15 : decode cX3_forgetPaid 15 = .ok (.iinc 1 1, 3) := by decide +kernel
theorem dX3_forgetPaid_18 : decode cX3_forgetPaid 18 = .ok (.goto (-16), 3) := by decide +kernel
theorem dX3_forgetPaid_21 : decode cX3_forgetPaid 21 = .ok (.return_, 1) := by decide +kernel
theorem dX3_copy_0 : decode cX3_copy 0 = .ok (.aload_n 1, 1) := by decide +kernel
theorem dX3_copy_1 : decode cX3_copy 1 = .ok (.getfield 9, 3) := by decide +kernel
theorem dX3_copy_4 : decode cX3_copy 4 = .ok (.iconst 0, 1) := by decide +kernel
theorem dX3_copy_5 : decode cX3_copy 5 = .ok (.aload_n 0, 1) := by decide +kernel
theorem dX3_copy_6 : decode cX3_copy 6 = .ok (.getfield 9, 3) := by decide +kernel
theorem dX3_copy_9 : decode cX3_copy 9 = .ok (.iconst 0, 1) := by decide +kernel
theorem dX3_copy_10 : decode cX3_copy 10 = .ok (.iconst 5, 1) := by decide +kernel
theorem dX3_copy_11 : decode cX3_copy 11 = .ok (.invokestatic 22, 3) := by decide +kernel
theorem dX3_copy_14 : decode cX3_copy 14 = .ok (.aload_n 1, 1) := by decide +kernel
theorem dX3_copy_15 : decode cX3_copy 15 = .ok (.getfield 15, 3) := by decide +kernel
theorem dX3_copy_18 : decode cX3_copy 18 = .ok (.iconst 0, 1) := by decide +kernel
theorem dX3_copy_19 : decode cX3_copy 19 = .ok (.aload_n 0, 1) := by decide +kernel
theorem dX3_copy_20 : decode cX3_copy 20 = .ok (.getfield 15, 3) := by decide +kernel
theorem dX3_copy_23 : decode cX3_copy 23 = .ok (.iconst 0, 1) := by decide +kernel
theorem dX3_copy_24 : decode cX3_copy 24 = .ok (.bipush 25, 2) := by decide +kernel
theorem dX3_copy_26 : decode cX3_copy 26 = .ok (.invokestatic 22, 3) := by decide +kernel
theorem dX3_copy_29 : decode cX3_copy 29 = .ok (.return_, 1) := by decide +kernel
theorem dX4_init_0 : decode cX4_init 0 = .ok (.aload_n 0, 1) := by decide +kernel
theorem dX4_init_1 : decode cX4_init 1 = .ok (.invokespecial 1, 3) := by decide +kernel
theorem dX4_init_4 : decode cX4_init 4 = .ok (.aload_n 0, 1) := by decide +kernel
theorem dX4_init_5 : decode cX4_init 5 = .ok (.new 7, 3) := by decide +kernel
theorem dX4_init_8 : decode cX4_init 8 = .ok (.dup, 1) := by decide +kernel
theorem dX4_init_9 : decode cX4_init 9 = .ok (.invokespecial 9, 3) := by decide +kernel
theorem dX4_init_12 : decode cX4_init 12 = .ok (.putfield 10, 3) := by decide +kernel
theorem dX4_init_15 : decode cX4_init 15 = .ok (.aload_n 0, 1) := by decide +kernel
theorem dX4_init_16 : decode cX4_init 16 = .ok (.new 7, 3) := by decide +kernel
theorem dX4_init_19 : decode cX4_init 19 = .ok (.dup, 1) := by decide +kernel
theorem dX4_init_20 : decode cX4_init 20 = .ok (.invokespecial 9, 3) := by decide +kernel
theorem dX4_init_23 : decode cX4_init 23 = .ok (.putfield 16, 3) := by decide +kernel
theorem dX4_init_26 : decode cX4_init 26 = .ok (.aload_n 0, 1) := by decide +kernel
theorem dX4_init_27 : decode cX4_init 27 = .ok (.new 19, 3) := by decide +kernel
theorem dX4_init_30 : decode cX4_init 30 = .ok (.dup, 1) := by decide +kernel
theorem dX4_init_31 : decode cX4_init 31 = .ok (.invokespecial 21, 3) := by decide +kernel
theorem dX4_init_34 : decode cX4_init 34 = .ok (.putfield 22, 3) := by decide +kernel
theorem dX4_init_37 : decode cX4_init 37 = .ok (.aload_n 0, 1) := by decide +kernel
theorem dX4_init_38 : decode cX4_init 38 = .ok (.new 26, 3) := by decide +kernel
theorem dX4_init_41 : decode cX4_init 41 = .ok (.dup, 1) := by decide +kernel
theorem dX4_init_42 : decode cX4_init 42 = .ok (.invokespecial 28, 3) := by decide +kernel
theorem dX4_init_45 : decode cX4_init 45 = .ok (.putfield 29, 3) := by decide +kernel
theorem dX4_init_48 : decode cX4_init 48 = .ok (.aload_n 0, 1) := by decide +kernel
theorem dX4_init_49 : decode cX4_init 49 = .ok (.new 33, 3) := by decide +kernel
theorem dX4_init_52 : decode cX4_init 52 = .ok (.dup, 1) := by decide +kernel
theorem dX4_init_53 : decode cX4_init 53 = .ok (.invokespecial 35, 3) := by decide +kernel
theorem dX4_init_56 : decode cX4_init 56 = .ok (.putfield 36, 3) := by decide +kernel
theorem dX4_init_59 : decode cX4_init 59 = .ok (.aload_n 0, 1) := by decide +kernel
theorem dX4_init_60 : decode cX4_init 60 = .ok (.iconst 5, 1) := by decide +kernel
theorem dX4_init_61 : decode cX4_init 61 = .ok (.newarray .boolean, 2) := by decide +kernel
theorem dX4_init_63 : decode cX4_init 63 = .ok (.putfield 40, 3) := by decide +kernel
theorem dX4_init_66 : decode cX4_init 66 = .ok (.aload_n 0, 1) := by decide +kernel
theorem dX4_init_67 : decode cX4_init 67 = .ok (.iconst 5, 1) := by decide +kernel
theorem dX4_init_68 : decode cX4_init 68 = .ok (.newarray .int, 2) := by decide +kernel
theorem dX4_init_70 : decode cX4_init 70 = .ok (.putfield 44, 3) := by decide +kernel
theorem dX4_init_73 : decode cX4_init 73 = .ok (.aload_n 0, 1) := by decide +kernel
theorem dX4_init_74 : decode cX4_init 74 = .ok (.bipush 10, 2) := by decide +kernel
theorem dX4_init_76 : decode cX4_init 76 = .ok (.newarray .int, 2) := by decide +kernel
theorem dX4_init_78 : decode cX4_init 78 = .ok (.putfield 48, 3) := by decide +kernel
theorem dX4_init_81 : decode cX4_init 81 = .ok (.aload_n 0, 1) := by decide +kernel
theorem dX4_init_82 : decode cX4_init 82 = .ok (.bipush 100, 2) := by decide +kernel
theorem dX4_init_84 : decode cX4_init 84 = .ok (.putfield 51, 3) := by decide +kernel
theorem dX4_init_87 : decode cX4_init 87 = .ok (.aload_n 0, 1) := by decide +kernel
theorem dX4_init_88 : decode cX4_init 88 = .ok (.bipush 100, 2) := by decide +kernel
theorem dX4_init_90 : decode cX4_init 90 = .ok (.putfield 55, 3) := by decide +kernel
theorem dX4_init_93 : decode cX4_init 93 = .ok (.aload_n 0, 1) := by decide +kernel
theorem dX4_init_94 : decode cX4_init 94 = .ok (.sipush 200, 3) := by decide +kernel
theorem dX4_init_97 : decode cX4_init 97 = .ok (.putfield 58, 3) := by decide +kernel
theorem dX4_init_100 : decode cX4_init 100 = .ok (.return_, 1) := by decide +kernel
theorem dX4_fund_0 : decode cX4_fund 0 = .ok (.iload_n 1, 1) := by decide +kernel
theorem dX4_fund_1 : decode cX4_fund 1 = .ok (.invokestatic 61, 3) := by decide +kernel
theorem dX4_fund_4 : decode cX4_fund 4 = .ok (.iload_n 2, 1) := by decide +kernel
theorem dX4_fund_5 : decode cX4_fund 5 = .ok (.iconst 1, 1) := by decide +kernel
theorem dX4_fund_6 : decode cX4_fund 6 = .ok (.ldc 65, 2) := by decide +kernel
theorem dX4_fund_8 : decode cX4_fund 8 = .ok (.invokestatic 66, 3) := by decide +kernel
theorem dX4_fund_11 : decode cX4_fund 11 = .ok (.aload_n 0, 1) := by decide +kernel
theorem dX4_fund_12 : decode cX4_fund 12 = .ok (.iload_n 1, 1) := by decide +kernel
theorem dX4_fund_13 : decode cX4_fund 13 = .ok (.invokevirtual 70, 3) := by decide +kernel
theorem dX4_fund_16 : decode cX4_fund 16 = .ok (.aload_n 0, 1) := by decide +kernel
theorem dX4_fund_17 : decode cX4_fund 17 = .ok (.getfield 10, 3) := by decide +kernel
theorem dX4_fund_20 : decode cX4_fund 20 = .ok (.getfield 73, 3) := by decide +kernel
theorem dX4_fund_23 : decode cX4_fund 23 = .ok (.iload_n 1, 1) := by decide +kernel
theorem dX4_fund_24 : decode cX4_fund 24 = .ok (.iaload, 1) := by decide +kernel
theorem dX4_fund_25 : decode cX4_fund 25 = .ok (.iload_n 2, 1) := by decide +kernel
theorem dX4_fund_26 : decode cX4_fund 26 = .ok (.iadd, 1) := by decide +kernel
theorem dX4_fund_27 : decode cX4_fund 27 = .ok (.ldc 76, 2) := by decide +kernel
theorem dX4_fund_29 : decode cX4_fund 29 = .ok (.if_icmp .le 13, 3) := by decide +kernel
theorem dX4_fund_32 : decode cX4_fund 32 = .ok (.new 77, 3) := by decide +kernel
theorem dX4_fund_35 : decode cX4_fund 35 = .ok (.dup, 1) := by decide +kernel
theorem dX4_fund_36 : decode cX4_fund 36 = .ok (.ldc 79, 2) := by decide +kernel
theorem dX4_fund_38 : decode cX4_fund 38 = .ok (.invokespecial 81, 3) := by decide +kernel
theorem dX4_fund_41 : decode cX4_fund 41 = .ok (.athrow, 1) := by decide +kernel
theorem dX4_fund_42 : decode cX4_fund 42 = .ok (.aload_n 0, 1) := by decide +kernel
theorem dX4_fund_43 : decode cX4_fund 43 = .ok (.getfield 10, 3) := by decide +kernel
theorem dX4_fund_46 : decode cX4_fund 46 = .ok (.getfield 73, 3) := by decide +kernel
theorem dX4_fund_49 : decode cX4_fund 49 = .ok (.iload_n 1, 1) := by decide +kernel
theorem dX4_fund_50 : decode cX4_fund 50 = .ok (.dup2, 1) := by decide +kernel
theorem dX4_fund_51 : decode cX4_fund 51 = .ok (.iaload, 1) := by decide +kernel
theorem dX4_fund_52 : decode cX4_fund 52 = .ok (.iload_n 2, 1) := by decide +kernel
theorem dX4_fund_53 : decode cX4_fund 53 = .ok (.iadd, 1) := by decide +kernel
theorem dX4_fund_54 : decode cX4_fund 54 = .ok (.iastore, 1) := by decide +kernel
theorem dX4_fund_55 : decode cX4_fund 55 = .ok (.aload_n 0, 1) := by decide +kernel
theorem dX4_fund_56 : decode cX4_fund 56 = .ok (.getfield 10, 3) := by decide +kernel
theorem dX4_fund_59 : decode cX4_fund 59 = .ok (.getfield 73, 3) := by decide +kernel
theorem dX4_fund_62 : decode cX4_fund 62 = .ok (.iload_n 1, 1) := by decide +kernel
theorem dX4_fund_63 : decode cX4_fund 63 = .ok (.iaload, 1) := by decide +kernel
theorem dX4_fund_64 : decode cX4_fund 64 = .ok (.ireturn, 1) := by decide +kernel
theorem dX4_setFloor_0 : decode cX4_setFloor 0 = .ok (.iload_n 1, 1) := by decide +kernel
theorem dX4_setFloor_1 : decode cX4_setFloor 1 = .ok (.invokestatic 61, 3) := by decide +kernel
theorem dX4_setFloor_4 : decode cX4_setFloor 4 = .ok (.iload_n 2, 1) := by decide +kernel
theorem dX4_setFloor_5 : decode cX4_setFloor 5 = .ok (.ldc 84, 2) := by decide +kernel
theorem dX4_setFloor_7 : decode cX4_setFloor 7 = .ok (.iconst 0, 1) := by decide +kernel
theorem dX4_setFloor_8 : decode cX4_setFloor 8 = .ok (.aload_n 0, 1) := by decide +kernel
theorem dX4_setFloor_9 : decode cX4_setFloor 9 = .ok (.getfield 10, 3) := by decide +kernel
theorem dX4_setFloor_12 : decode cX4_setFloor 12 = .ok (.getfield 73, 3) := by decide +kernel
theorem dX4_setFloor_15 : decode cX4_setFloor 15 = .ok (.iload_n 1, 1) := by decide +kernel
theorem dX4_setFloor_16 : decode cX4_setFloor 16 = .ok (.iaload, 1) := by decide +kernel
theorem dX4_setFloor_17 : decode cX4_setFloor 17 = .ok (.invokestatic 85, 3) := by decide +kernel
theorem dX4_setFloor_20 : decode cX4_setFloor 20 = .ok (.invokestatic 66, 3) := by decide +kernel
theorem dX4_setFloor_23 : decode cX4_setFloor 23 = .ok (.aload_n 0, 1) := by decide +kernel
theorem dX4_setFloor_24 : decode cX4_setFloor 24 = .ok (.getfield 22, 3) := by decide +kernel
theorem dX4_setFloor_27 : decode cX4_setFloor 27 = .ok (.getfield 91, 3) := by decide +kernel
theorem dX4_setFloor_30 : decode cX4_setFloor 30 = .ok (.iload_n 1, 1) := by decide +kernel
theorem dX4_setFloor_31 : decode cX4_setFloor 31 = .ok (.iaload, 1) := by decide +kernel
theorem dX4_setFloor_32 : decode cX4_setFloor 32 = .ok (.istore_n 3, 1) := by decide +kernel
theorem dX4_setFloor_33 : decode cX4_setFloor 33 = .ok (.aload_n 0, 1) := by decide +kernel
theorem dX4_setFloor_34 : decode cX4_setFloor 34 = .ok (.getfield 22, 3) := by decide +kernel
theorem dX4_setFloor_37 : decode cX4_setFloor 37 = .ok (.getfield 91, 3) := by decide +kernel
theorem dX4_setFloor_40 : decode cX4_setFloor 40 = .ok (.iload_n 1, 1) := by decide +kernel
theorem dX4_setFloor_41 : decode cX4_setFloor 41 = .ok (.iload_n 2, 1) := by decide +kernel
theorem dX4_setFloor_42 : decode cX4_setFloor 42 = .ok (.iastore, 1) := by decide +kernel
theorem dX4_setFloor_43 : decode cX4_setFloor 43 = .ok (.iload_n 3, 1) := by decide +kernel
theorem dX4_setFloor_44 : decode cX4_setFloor 44 = .ok (.ireturn, 1) := by decide +kernel
theorem dX4_setBound_0 : decode cX4_setBound 0 = .ok (.iload_n 1, 1) := by decide +kernel
theorem dX4_setBound_1 : decode cX4_setBound 1 = .ok (.invokestatic 61, 3) := by decide +kernel
theorem dX4_setBound_4 : decode cX4_setBound 4 = .ok (.iload_n 2, 1) := by decide +kernel
theorem dX4_setBound_5 : decode cX4_setBound 5 = .ok (.invokestatic 61, 3) := by decide +kernel
theorem dX4_setBound_8 : decode cX4_setBound 8 = .ok (.iload_n 1, 1) := by decide +kernel
theorem dX4_setBound_9 : decode cX4_setBound 9 = .ok (.iload_n 2, 1) := by decide +kernel
theorem dX4_setBound_10 : decode cX4_setBound 10 = .ok (.invokestatic 94, 3) := by decide +kernel
theorem dX4_setBound_13 : decode cX4_setBound 13 = .ok (.iload_n 1, 1) := by decide +kernel
theorem dX4_setBound_14 : decode cX4_setBound 14 = .ok (.iload_n 2, 1) := by decide +kernel
theorem dX4_setBound_15 : decode cX4_setBound 15 = .ok (.invokestatic 98, 3) := by decide +kernel
theorem dX4_setBound_18 : decode cX4_setBound 18 = .ok (.istore 4, 2) := by decide +kernel
theorem dX4_setBound_20 : decode cX4_setBound 20 = .ok (.iload_n 3, 1) := by decide +kernel
theorem dX4_setBound_21 : decode cX4_setBound 21 = .ok (.iconst 0, 1) := by decide +kernel
theorem dX4_setBound_22 : decode cX4_setBound 22 = .ok (.aload_n 0, 1) := by decide +kernel
theorem dX4_setBound_23 : decode cX4_setBound 23 = .ok (.getfield 10, 3) := by decide +kernel
theorem dX4_setBound_26 : decode cX4_setBound 26 = .ok (.getfield 101, 3) := by decide +kernel
theorem dX4_setBound_29 : decode cX4_setBound 29 = .ok (.iload 4, 2) := by decide +kernel
theorem dX4_setBound_31 : decode cX4_setBound 31 = .ok (.iaload, 1) := by decide +kernel
theorem dX4_setBound_32 : decode cX4_setBound 32 = .ok (.invokestatic 104, 3) := by decide +kernel
theorem dX4_setBound_35 : decode cX4_setBound 35 = .ok (.ldc 65, 2) := by decide +kernel
theorem dX4_setBound_37 : decode cX4_setBound 37 = .ok (.invokestatic 66, 3) := by decide +kernel
theorem dX4_setBound_40 : decode cX4_setBound 40 = .ok (.aload_n 0, 1) := by decide +kernel
theorem dX4_setBound_41 : decode cX4_setBound 41 = .ok (.getfield 22, 3) := by decide +kernel
theorem dX4_setBound_44 : decode cX4_setBound 44 = .ok (.getfield 107, 3) := by decide +kernel
theorem dX4_setBound_47 : decode cX4_setBound 47 = .ok (.iload 4, 2) := by decide +kernel
theorem dX4_setBound_49 : decode cX4_setBound 49 = .ok (.iaload, 1) := by decide +kernel
theorem dX4_setBound_50 : decode cX4_setBound 50 = .ok (.istore 5, 2) := by decide +kernel
theorem dX4_setBound_52 : decode cX4_setBound 52 = .ok (.aload_n 0, 1) := by decide +kernel
theorem dX4_setBound_53 : decode cX4_setBound 53 = .ok (.getfield 22, 3) := by decide +kernel
theorem dX4_setBound_56 : decode cX4_setBound 56 = .ok (.getfield 107, 3) := by decide +kernel
theorem dX4_setBound_59 : decode cX4_setBound 59 = .ok (.iload 4, 2) := by decide +kernel
theorem dX4_setBound_61 : decode cX4_setBound 61 = .ok (.iload_n 3, 1) := by decide +kernel
theorem dX4_setBound_62 : decode cX4_setBound 62 = .ok (.iastore, 1) := by decide +kernel
theorem dX4_setBound_63 : decode cX4_setBound 63 = .ok (.iload 5, 2) := by decide +kernel
theorem dX4_setBound_65 : decode cX4_setBound 65 = .ok (.ireturn, 1) := by decide +kernel
theorem dX4_givePapers_0 : decode cX4_givePapers 0 = .ok (.iload_n 1, 1) := by decide +kernel
theorem dX4_givePapers_1 : decode cX4_givePapers 1 = .ok (.invokestatic 61, 3) := by decide +kernel
theorem dX4_givePapers_4 : decode cX4_givePapers 4 = .ok (.iload_n 2, 1) := by decide +kernel
theorem dX4_givePapers_5 : decode cX4_givePapers 5 = .ok (.iconst 1, 1) := by decide +kernel
theorem dX4_givePapers_6 : decode cX4_givePapers 6 = .ok (.sipush 1000, 3) := by decide +kernel
theorem dX4_givePapers_9 : decode cX4_givePapers 9 = .ok (.invokestatic 66, 3) := by decide +kernel
theorem dX4_givePapers_12 : decode cX4_givePapers 12 = .ok (.aload_n 0, 1) := by decide +kernel
theorem dX4_givePapers_13 : decode cX4_givePapers 13 = .ok (.iload_n 1, 1) := by decide +kernel
theorem dX4_givePapers_14 : decode cX4_givePapers 14 = .ok (.invokevirtual 70, 3) := by decide +kernel
theorem dX4_givePapers_17 : decode cX4_givePapers 17 = .ok (.aload_n 0, 1) := by decide +kernel
theorem dX4_givePapers_18 : decode cX4_givePapers 18 = .ok (.getfield 44, 3) := by decide +kernel
theorem dX4_givePapers_21 : decode cX4_givePapers 21 = .ok (.iload_n 1, 1) := by decide +kernel
theorem dX4_givePapers_22 : decode cX4_givePapers 22 = .ok (.iaload, 1) := by decide +kernel
theorem dX4_givePapers_23 : decode cX4_givePapers 23 = .ok (.iload_n 2, 1) := by decide +kernel
theorem dX4_givePapers_24 : decode cX4_givePapers 24 = .ok (.iadd, 1) := by decide +kernel
theorem dX4_givePapers_25 : decode cX4_givePapers 25 = .ok (.ldc 110, 2) := by decide +kernel
theorem dX4_givePapers_27 : decode cX4_givePapers 27 = .ok (.if_icmp .le 13, 3) := by decide +kernel
theorem dX4_givePapers_30 : decode cX4_givePapers 30 = .ok (.new 77, 3) := by decide +kernel
theorem dX4_givePapers_33 : decode cX4_givePapers 33 = .ok (.dup, 1) := by decide +kernel
theorem dX4_givePapers_34 : decode cX4_givePapers 34 = .ok (.ldc 111, 2) := by decide +kernel
theorem dX4_givePapers_36 : decode cX4_givePapers 36 = .ok (.invokespecial 81, 3) := by decide +kernel
theorem dX4_givePapers_39 : decode cX4_givePapers 39 = .ok (.athrow, 1) := by decide +kernel
theorem dX4_givePapers_40 : decode cX4_givePapers 40 = .ok (.aload_n 0, 1) := by decide +kernel
theorem dX4_givePapers_41 : decode cX4_givePapers 41 = .ok (.getfield 44, 3) := by decide +kernel
theorem dX4_givePapers_44 : decode cX4_givePapers 44 = .ok (.iload_n 1, 1) := by decide +kernel
theorem dX4_givePapers_45 : decode cX4_givePapers 45 = .ok (.dup2, 1) := by decide +kernel
theorem dX4_givePapers_46 : decode cX4_givePapers 46 = .ok (.iaload, 1) := by decide +kernel
theorem dX4_givePapers_47 : decode cX4_givePapers 47 = .ok (.iload_n 2, 1) := by decide +kernel
theorem dX4_givePapers_48 : decode cX4_givePapers 48 = .ok (.iadd, 1) := by decide +kernel
theorem dX4_givePapers_49 : decode cX4_givePapers 49 = .ok (.iastore, 1) := by decide +kernel
theorem dX4_givePapers_50 : decode cX4_givePapers 50 = .ok (.aload_n 0, 1) := by decide +kernel
theorem dX4_givePapers_51 : decode cX4_givePapers 51 = .ok (.getfield 44, 3) := by decide +kernel
theorem dX4_givePapers_54 : decode cX4_givePapers 54 = .ok (.iload_n 1, 1) := by decide +kernel
theorem dX4_givePapers_55 : decode cX4_givePapers 55 = .ok (.iaload, 1) := by decide +kernel
theorem dX4_givePapers_56 : decode cX4_givePapers 56 = .ok (.ireturn, 1) := by decide +kernel
theorem dX4_account_0 : decode cX4_account 0 = .ok (.iload_n 1, 1) := by decide +kernel
theorem dX4_account_1 : decode cX4_account 1 = .ok (.invokestatic 61, 3) := by decide +kernel
theorem dX4_account_4 : decode cX4_account 4 = .ok (.aload_n 0, 1) := by decide +kernel
theorem dX4_account_5 : decode cX4_account 5 = .ok (.getfield 10, 3) := by decide +kernel
theorem dX4_account_8 : decode cX4_account 8 = .ok (.getfield 73, 3) := by decide +kernel
theorem dX4_account_11 : decode cX4_account 11 = .ok (.iload_n 1, 1) := by decide +kernel
theorem dX4_account_12 : decode cX4_account 12 = .ok (.iaload, 1) := by decide +kernel
theorem dX4_account_13 : decode cX4_account 13 = .ok (.ireturn, 1) := by decide +kernel
theorem dX4_papers_0 : decode cX4_papers 0 = .ok (.iload_n 1, 1) := by decide +kernel
theorem dX4_papers_1 : decode cX4_papers 1 = .ok (.invokestatic 61, 3) := by decide +kernel
theorem dX4_papers_4 : decode cX4_papers 4 = .ok (.aload_n 0, 1) := by decide +kernel
theorem dX4_papers_5 : decode cX4_papers 5 = .ok (.getfield 44, 3) := by decide +kernel
theorem dX4_papers_8 : decode cX4_papers 8 = .ok (.iload_n 1, 1) := by decide +kernel
theorem dX4_papers_9 : decode cX4_papers 9 = .ok (.iaload, 1) := by decide +kernel
theorem dX4_papers_10 : decode cX4_papers 10 = .ok (.ireturn, 1) := by decide +kernel
theorem dX4_isOpen_0 : decode cX4_isOpen 0 = .ok (.iload_n 1, 1) := by decide +kernel
theorem dX4_isOpen_1 : decode cX4_isOpen 1 = .ok (.invokestatic 61, 3) := by decide +kernel
theorem dX4_isOpen_4 : decode cX4_isOpen 4 = .ok (.aload_n 0, 1) := by decide +kernel
theorem dX4_isOpen_5 : decode cX4_isOpen 5 = .ok (.getfield 40, 3) := by decide +kernel
theorem dX4_isOpen_8 : decode cX4_isOpen 8 = .ok (.iload_n 1, 1) := by decide +kernel
theorem dX4_isOpen_9 : decode cX4_isOpen 9 = .ok (.baload, 1) := by decide +kernel
theorem dX4_isOpen_10 : decode cX4_isOpen 10 = .ok (.ifCond .ne 7, 3) := by decide +kernel
theorem dX4_isOpen_13 : decode cX4_isOpen 13 = .ok (.iconst 1, 1) := by decide +kernel
theorem dX4_isOpen_14 : decode cX4_isOpen 14 = .ok (.goto 4, 3) := by decide +kernel
theorem dX4_isOpen_17 : decode cX4_isOpen 17 = .ok (.iconst 0, 1) := by decide +kernel
theorem dX4_isOpen_18 : decode cX4_isOpen 18 = .ok (.ireturn, 1) := by decide +kernel
theorem dX4_paid_0 : decode cX4_paid 0 = .ok (.iload_n 1, 1) := by decide +kernel
theorem dX4_paid_1 : decode cX4_paid 1 = .ok (.invokestatic 61, 3) := by decide +kernel
theorem dX4_paid_4 : decode cX4_paid 4 = .ok (.iload_n 2, 1) := by decide +kernel
theorem dX4_paid_5 : decode cX4_paid 5 = .ok (.invokestatic 61, 3) := by decide +kernel
theorem dX4_paid_8 : decode cX4_paid 8 = .ok (.aload_n 0, 1) := by decide +kernel
theorem dX4_paid_9 : decode cX4_paid 9 = .ok (.getfield 10, 3) := by decide +kernel
theorem dX4_paid_12 : decode cX4_paid 12 = .ok (.getfield 101, 3) := by decide +kernel
theorem dX4_paid_15 : decode cX4_paid 15 = .ok (.iload_n 1, 1) := by decide +kernel
theorem dX4_paid_16 : decode cX4_paid 16 = .ok (.iload_n 2, 1) := by decide +kernel
theorem dX4_paid_17 : decode cX4_paid 17 = .ok (.invokestatic 98, 3) := by decide +kernel
theorem dX4_paid_20 : decode cX4_paid 20 = .ok (.iaload, 1) := by decide +kernel
theorem dX4_paid_21 : decode cX4_paid 21 = .ok (.ireturn, 1) := by decide +kernel
theorem dX4_pay_0 : decode cX4_pay 0 = .ok (.iload_n 1, 1) := by decide +kernel
theorem dX4_pay_1 : decode cX4_pay 1 = .ok (.invokestatic 61, 3) := by decide +kernel
theorem dX4_pay_4 : decode cX4_pay 4 = .ok (.iload_n 2, 1) := by decide +kernel
theorem dX4_pay_5 : decode cX4_pay 5 = .ok (.invokestatic 61, 3) := by decide +kernel
theorem dX4_pay_8 : decode cX4_pay 8 = .ok (.iload_n 1, 1) := by decide +kernel
theorem dX4_pay_9 : decode cX4_pay 9 = .ok (.iload_n 2, 1) := by decide +kernel
theorem dX4_pay_10 : decode cX4_pay 10 = .ok (.invokestatic 94, 3) := by decide +kernel
theorem dX4_pay_13 : decode cX4_pay 13 = .ok (.iload_n 3, 1) := by decide +kernel
theorem dX4_pay_14 : decode cX4_pay 14 = .ok (.iconst 1, 1) := by decide +kernel
theorem dX4_pay_15 : decode cX4_pay 15 = .ok (.ldc 110, 2) := by decide +kernel
theorem dX4_pay_17 : decode cX4_pay 17 = .ok (.invokestatic 66, 3) := by decide +kernel
theorem dX4_pay_20 : decode cX4_pay 20 = .ok (.iload 4, 2) := by decide +kernel
theorem dX4_pay_22 : decode cX4_pay 22 = .ok (.iconst 0, 1) := by decide +kernel
theorem dX4_pay_23 : decode cX4_pay 23 = .ok (.iconst 2, 1) := by decide +kernel
theorem dX4_pay_24 : decode cX4_pay 24 = .ok (.invokestatic 66, 3) := by decide +kernel
theorem dX4_pay_27 : decode cX4_pay 27 = .ok (.aload_n 0, 1) := by decide +kernel
theorem dX4_pay_28 : decode cX4_pay 28 = .ok (.iload_n 1, 1) := by decide +kernel
theorem dX4_pay_29 : decode cX4_pay 29 = .ok (.invokevirtual 70, 3) := by decide +kernel
theorem dX4_pay_32 : decode cX4_pay 32 = .ok (.aload_n 0, 1) := by decide +kernel
theorem dX4_pay_33 : decode cX4_pay 33 = .ok (.iload_n 2, 1) := by decide +kernel
theorem dX4_pay_34 : decode cX4_pay 34 = .ok (.invokevirtual 70, 3) := by decide +kernel
theorem dX4_pay_37 : decode cX4_pay 37 = .ok (.aload_n 0, 1) := by decide +kernel
theorem dX4_pay_38 : decode cX4_pay 38 = .ok (.getfield 29, 3) := by decide +kernel
theorem dX4_pay_41 : decode cX4_pay 41 = .ok (.getfield 113, 3) := by decide +kernel
theorem dX4_pay_44 : decode cX4_pay 44 = .ok (.bipush 60, 2) := by decide +kernel
theorem dX4_pay_46 : decode cX4_pay 46 = .ok (.if_icmp .lt 13, 3) := by decide +kernel
theorem dX4_pay_49 : decode cX4_pay 49 = .ok (.new 77, 3) := by decide +kernel
theorem dX4_pay_52 : decode cX4_pay 52 = .ok (.dup, 1) := by decide +kernel
theorem dX4_pay_53 : decode cX4_pay 53 = .ok (.ldc 116, 2) := by decide +kernel
theorem dX4_pay_55 : decode cX4_pay 55 = .ok (.invokespecial 81, 3) := by decide +kernel
theorem dX4_pay_58 : decode cX4_pay 58 = .ok (.athrow, 1) := by decide +kernel
theorem dX4_pay_59 : decode cX4_pay 59 = .ok (.aload_n 0, 1) := by decide +kernel
theorem dX4_pay_60 : decode cX4_pay 60 = .ok (.getfield 29, 3) := by decide +kernel
theorem dX4_pay_63 : decode cX4_pay 63 = .ok (.iload_n 1, 1) := by decide +kernel
theorem dX4_pay_64 : decode cX4_pay 64 = .ok (.iload_n 2, 1) := by decide +kernel
theorem dX4_pay_65 : decode cX4_pay 65 = .ok (.iload_n 3, 1) := by decide +kernel
theorem dX4_pay_66 : decode cX4_pay 66 = .ok (.iload 4, 2) := by decide +kernel
theorem dX4_pay_68 : decode cX4_pay 68 = .ok (.invokevirtual 118, 3) := by decide +kernel
theorem dX4_pay_71 : decode cX4_pay 71 = .ok (.ireturn, 1) := by decide +kernel
theorem dX4_drop_0 : decode cX4_drop 0 = .ok (.aload_n 0, 1) := by decide +kernel
theorem dX4_drop_1 : decode cX4_drop 1 = .ok (.iload_n 1, 1) := by decide +kernel
theorem dX4_drop_2 : decode cX4_drop 2 = .ok (.invokevirtual 122, 3) := by decide +kernel
theorem dX4_drop_5 : decode cX4_drop 5 = .ok (.aload_n 0, 1) := by decide +kernel
theorem dX4_drop_6 : decode cX4_drop 6 = .ok (.getfield 29, 3) := by decide +kernel
theorem dX4_drop_9 : decode cX4_drop 9 = .ok (.getfield 125, 3) := by decide +kernel
theorem dX4_drop_12 : decode cX4_drop 12 = .ok (.iload_n 1, 1) := by decide +kernel
theorem dX4_drop_13 : decode cX4_drop 13 = .ok (.baload, 1) := by decide +kernel
theorem dX4_drop_14 : decode cX4_drop 14 = .ok (.ifCond .ne 13, 3) := by decide +kernel
theorem dX4_drop_17 : decode cX4_drop 17 = .ok (.new 77, 3) := by decide +kernel
theorem dX4_drop_20 : decode cX4_drop 20 = .ok (.dup, 1) := by decide +kernel
theorem dX4_drop_21 : decode cX4_drop 21 = .ok (.ldc 128, 2) := by decide +kernel
theorem dX4_drop_23 : decode cX4_drop 23 = .ok (.invokespecial 81, 3) := by decide +kernel
theorem dX4_drop_26 : decode cX4_drop 26 = .ok (.athrow, 1) := by decide +kernel
theorem dX4_drop_27 : decode cX4_drop 27 = .ok (.aload_n 0, 1) := by decide +kernel
theorem dX4_drop_28 : decode cX4_drop 28 = .ok (.getfield 29, 3) := by decide +kernel
theorem dX4_drop_31 : decode cX4_drop 31 = .ok (.getfield 125, 3) := by decide +kernel
theorem dX4_drop_34 : decode cX4_drop 34 = .ok (.iload_n 1, 1) := by decide +kernel
theorem dX4_drop_35 : decode cX4_drop 35 = .ok (.iconst 0, 1) := by decide +kernel
theorem dX4_drop_36 : decode cX4_drop 36 = .ok (.bastore, 1) := by decide +kernel
theorem dX4_drop_37 : decode cX4_drop 37 = .ok (.aload_n 0, 1) := by decide +kernel
theorem dX4_drop_38 : decode cX4_drop 38 = .ok (.getfield 29, 3) := by decide +kernel
theorem dX4_drop_41 : decode cX4_drop 41 = .ok (.invokevirtual 130, 3) := by decide +kernel
theorem dX4_drop_44 : decode cX4_drop 44 = .ok (.ireturn, 1) := by decide +kernel
theorem dX4_setSmall_0 : decode cX4_setSmall 0 = .ok (.iload_n 1, 1) := by decide +kernel
theorem dX4_setSmall_1 : decode cX4_setSmall 1 = .ok (.iconst 0, 1) := by decide +kernel
theorem dX4_setSmall_2 : decode cX4_setSmall 2 = .ok (.ldc 110, 2) := by decide +kernel
theorem dX4_setSmall_4 : decode cX4_setSmall 4 = .ok (.invokestatic 66, 3) := by decide +kernel
theorem dX4_setSmall_7 : decode cX4_setSmall 7 = .ok (.aload_n 0, 1) := by decide +kernel
theorem dX4_setSmall_8 : decode cX4_setSmall 8 = .ok (.getfield 51, 3) := by decide +kernel
theorem dX4_setSmall_11 : decode cX4_setSmall 11 = .ok (.istore_n 2, 1) := by decide +kernel
theorem dX4_setSmall_12 : decode cX4_setSmall 12 = .ok (.aload_n 0, 1) := by decide +kernel
theorem dX4_setSmall_13 : decode cX4_setSmall 13 = .ok (.iload_n 1, 1) := by decide +kernel
theorem dX4_setSmall_14 : decode cX4_setSmall 14 = .ok (.putfield 51, 3) := by decide +kernel
theorem dX4_setSmall_17 : decode cX4_setSmall 17 = .ok (.iload_n 2, 1) := by decide +kernel
theorem dX4_setSmall_18 : decode cX4_setSmall 18 = .ok (.ireturn, 1) := by decide +kernel
theorem dX4_run_0 : decode cX4_run 0 = .ok (.iconst 0, 1) := by decide +kernel
theorem dX4_run_1 : decode cX4_run 1 = .ok (.istore_n 1, 1) := by decide +kernel
theorem dX4_run_2 : decode cX4_run 2 = .ok (.iconst 0, 1) := by decide +kernel
theorem dX4_run_3 : decode cX4_run 3 = .ok (.istore_n 2, 1) := by decide +kernel
theorem dX4_run_4 : decode cX4_run 4 = .ok (.iload_n 2, 1) := by decide +kernel
theorem dX4_run_5 : decode cX4_run 5 = .ok (.bipush 60, 2) := by decide +kernel
theorem dX4_run_7 : decode cX4_run 7 = .ok (.if_icmp .gt 33, 3) := by decide +kernel
theorem dX4_run_10 : decode cX4_run 10 = .ok (.aload_n 0, 1) := by decide +kernel
theorem dX4_run_11 : decode cX4_run 11 = .ok (.invokevirtual 134, 3) := by decide +kernel
theorem dX4_run_14 : decode cX4_run 14 = .ok (.istore_n 3, 1) := by decide +kernel
theorem dX4_run_15 : decode cX4_run 15 = .ok (.iload_n 3, 1) := by decide +kernel
theorem dX4_run_16 : decode cX4_run 16 = .ok (.ifCond .ne 8, 3) := by decide +kernel
theorem dX4_run_19 : decode cX4_run 19 = .ok (.aload_n 0, 1) := by decide +kernel
theorem dX4_run_20 : decode cX4_run 20 = .ok (.invokevirtual 137, 3) := by decide +kernel
theorem dX4_run_23 : decode cX4_run 23 = .ok (.istore_n 3, 1) := by decide +kernel
theorem dX4_run_24 : decode cX4_run 24 = .ok (.iload_n 3, 1) := by decide +kernel
theorem dX4_run_25 : decode cX4_run 25 = .ok (.ifCond .ne 5, 3) := by decide +kernel
theorem dX4_run_28 : decode cX4_run 28 = .ok (.iload_n 1, 1) := by decide +kernel
theorem dX4_run_29 : decode cX4_run 29 = .ok (.ireturn, 1) := by decide +kernel
theorem dX4_run_30 : decode cX4_run 30 = .ok (.iload_n 1, 1) := by decide +kernel
theorem dX4_run_31 : decode cX4_run 31 = .ok (.iload_n 3, 1) := by decide +kernel
theorem dX4_run_32 : decode cX4_run 32 = .ok (.iadd, 1) := by decide +kernel
theorem dX4_run_33 : decode cX4_run 33 = .ok (.istore_n 1, 1) := by decide +kernel
theorem dX4_run_34 : decode cX4_run 34 = .ok (.iinc 2 1, 3) := by decide +kernel
theorem dX4_run_37 : decode cX4_run 37 = .ok (.goto (-33), 3) := by decide +kernel
theorem dX4_run_40 : decode cX4_run 40 = .ok (.iload_n 1, 1) := by decide +kernel
theorem dX4_run_41 : decode cX4_run 41 = .ok (.ireturn, 1) := by decide +kernel
theorem dX4_queued_0 : decode cX4_queued 0 = .ok (.iload_n 1, 1) := by decide +kernel
theorem dX4_queued_1 : decode cX4_queued 1 = .ok (.invokestatic 61, 3) := by decide +kernel
theorem dX4_queued_4 : decode cX4_queued 4 = .ok (.iload_n 2, 1) := by decide +kernel
theorem dX4_queued_5 : decode cX4_queued 5 = .ok (.ifCond .ge 13, 3) := by decide +kernel
theorem dX4_queued_8 : decode cX4_queued 8 = .ok (.new 140, 3) := by decide +kernel
theorem dX4_queued_11 : decode cX4_queued 11 = .ok (.dup, 1) := by decide +kernel
theorem dX4_queued_12 : decode cX4_queued 12 = .ok (.ldc 142, 2) := by decide +kernel
theorem dX4_queued_14 : decode cX4_queued 14 = .ok (.invokespecial 144, 3) := by decide +kernel
theorem dX4_queued_17 : decode cX4_queued 17 = .ok (.athrow, 1) := by decide +kernel
theorem dX4_queued_18 : decode cX4_queued 18 = .ok (.aload_n 0, 1) := by decide +kernel
theorem dX4_queued_19 : decode cX4_queued 19 = .ok (.getfield 29, 3) := by decide +kernel
theorem dX4_queued_22 : decode cX4_queued 22 = .ok (.iload_n 1, 1) := by decide +kernel
theorem dX4_queued_23 : decode cX4_queued 23 = .ok (.iload_n 2, 1) := by decide +kernel
theorem dX4_queued_24 : decode cX4_queued 24 = .ok (.invokevirtual 145, 3) := by decide +kernel
theorem dX4_queued_27 : decode cX4_queued 27 = .ok (.ireturn, 1) := by decide +kernel
theorem dX4_why_0 : decode cX4_why 0 = .ok (.aload_n 0, 1) := by decide +kernel
theorem dX4_why_1 : decode cX4_why 1 = .ok (.iload_n 1, 1) := by decide +kernel
theorem dX4_why_2 : decode cX4_why 2 = .ok (.invokevirtual 122, 3) := by decide +kernel
theorem dX4_why_5 : decode cX4_why 5 = .ok (.aload_n 0, 1) := by decide +kernel
theorem dX4_why_6 : decode cX4_why 6 = .ok (.iload_n 1, 1) := by decide +kernel
theorem dX4_why_7 : decode cX4_why 7 = .ok (.invokevirtual 148, 3) := by decide +kernel
theorem dX4_why_10 : decode cX4_why 10 = .ok (.ireturn, 1) := by decide +kernel
theorem dX4_canAny_0 : decode cX4_canAny 0 = .ok (.aload_n 0, 1) := by decide +kernel
theorem dX4_canAny_1 : decode cX4_canAny 1 = .ok (.getfield 29, 3) := by decide +kernel
theorem dX4_canAny_4 : decode cX4_canAny 4 = .ok (.invokevirtual 130, 3) := by decide +kernel
theorem dX4_canAny_7 : decode cX4_canAny 7 = .ok (.bipush 10, 2) := by decide +kernel
theorem dX4_canAny_9 : decode cX4_canAny 9 = .ok (.if_icmp .le 13, 3) := by decide +kernel
theorem dX4_canAny_12 : decode cX4_canAny 12 = .ok (.new 77, 3) := by decide +kernel
theorem dX4_canAny_15 : decode cX4_canAny 15 = .ok (.dup, 1) := by decide +kernel
theorem dX4_canAny_16 : decode cX4_canAny 16 = .ok (.ldc 152, 2) := by decide +kernel
theorem dX4_canAny_18 : decode cX4_canAny 18 = .ok (.invokespecial 81, 3) := by decide +kernel
theorem dX4_canAny_21 : decode cX4_canAny 21 = .ok (.athrow, 1) := by decide +kernel
theorem dX4_canAny_22 : decode cX4_canAny 22 = .ok (.aload_n 0, 1) := by decide +kernel
theorem dX4_canAny_23 : decode cX4_canAny 23 = .ok (.invokevirtual 154, 3) := by decide +kernel
theorem dX4_canAny_26 : decode cX4_canAny 26 = .ok (.istore_n 1, 1) := by decide +kernel
theorem dX4_canAny_27 : decode cX4_canAny 27 = .ok (.iconst 1, 1) := by decide +kernel
theorem dX4_canAny_28 : decode cX4_canAny 28 = .ok (.istore_n 2, 1) := by decide +kernel
theorem dX4_canAny_29 : decode cX4_canAny 29 = .ok (.iload_n 2, 1) := by decide +kernel
theorem dX4_canAny_30 : decode cX4_canAny 30 = .ok (.iconst 1, 1) := by decide +kernel
theorem dX4_canAny_31 : decode cX4_canAny 31 = .ok (.iload_n 1, 1) := by decide +kernel
theorem dX4_canAny_32 : decode cX4_canAny 32 = .ok (.ishl, 1) := by decide +kernel
theorem dX4_canAny_33 : decode cX4_canAny 33 = .ok (.if_icmp .ge 20, 3) := by decide +kernel
theorem dX4_canAny_36 : decode cX4_canAny 36 = .ok (.aload_n 0, 1) := by decide +kernel
theorem dX4_canAny_37 : decode cX4_canAny 37 = .ok (.iload_n 2, 1) := by decide +kernel
theorem dX4_canAny_38 : decode cX4_canAny 38 = .ok (.iload_n 1, 1) := by decide +kernel
theorem dX4_canAny_39 : decode cX4_canAny 39 = .ok (.invokevirtual 157, 3) := by decide +kernel
theorem dX4_canAny_42 : decode cX4_canAny 42 = .ok (.ifCond .eq 5, 3) := by decide +kernel
theorem dX4_canAny_45 : decode cX4_canAny 45 = .ok (.iconst 1, 1) := by decide +kernel
theorem dX4_canAny_46 : decode cX4_canAny 46 = .ok (.ireturn, 1) := by decide +kernel
theorem dX4_canAny_47 : decode cX4_canAny 47 = .ok (.iinc 2 1, 3) := by decide +kernel
theorem dX4_canAny_50 : decode cX4_canAny 50 = .ok (.goto (-21), 3) := by decide +kernel
theorem dX4_canAny_53 : decode cX4_canAny 53 = .ok (.iconst 0, 1) := by decide +kernel
theorem dX4_canAny_54 : decode cX4_canAny 54 = .ok (.ireturn, 1) := by decide +kernel
theorem dX4_setPrice_0 : decode cX4_setPrice 0 = .ok (.iload_n 1, 1) := by decide +kernel
theorem dX4_setPrice_1 : decode cX4_setPrice 1 = .ok (.iconst 1, 1) := by decide +kernel
theorem dX4_setPrice_2 : decode cX4_setPrice 2 = .ok (.sipush 1000, 3) := by decide +kernel
theorem dX4_setPrice_5 : decode cX4_setPrice 5 = .ok (.invokestatic 66, 3) := by decide +kernel
theorem dX4_setPrice_8 : decode cX4_setPrice 8 = .ok (.iload_n 2, 1) := by decide +kernel
theorem dX4_setPrice_9 : decode cX4_setPrice 9 = .ok (.iconst 0, 1) := by decide +kernel
theorem dX4_setPrice_10 : decode cX4_setPrice 10 = .ok (.sipush 1000, 3) := by decide +kernel
theorem dX4_setPrice_13 : decode cX4_setPrice 13 = .ok (.invokestatic 66, 3) := by decide +kernel
theorem dX4_setPrice_16 : decode cX4_setPrice 16 = .ok (.aload_n 0, 1) := by decide +kernel
theorem dX4_setPrice_17 : decode cX4_setPrice 17 = .ok (.iload_n 1, 1) := by decide +kernel
theorem dX4_setPrice_18 : decode cX4_setPrice 18 = .ok (.putfield 55, 3) := by decide +kernel
theorem dX4_setPrice_21 : decode cX4_setPrice 21 = .ok (.aload_n 0, 1) := by decide +kernel
theorem dX4_setPrice_22 : decode cX4_setPrice 22 = .ok (.iload_n 2, 1) := by decide +kernel
theorem dX4_setPrice_23 : decode cX4_setPrice 23 = .ok (.putfield 58, 3) := by decide +kernel
theorem dX4_setPrice_26 : decode cX4_setPrice 26 = .ok (.return_, 1) := by decide +kernel
theorem dX4_lend_0 : decode cX4_lend 0 = .ok (.iload_n 1, 1) := by decide +kernel
theorem dX4_lend_1 : decode cX4_lend 1 = .ok (.invokestatic 61, 3) := by decide +kernel
theorem dX4_lend_4 : decode cX4_lend 4 = .ok (.iload_n 2, 1) := by decide +kernel
theorem dX4_lend_5 : decode cX4_lend 5 = .ok (.invokestatic 61, 3) := by decide +kernel
theorem dX4_lend_8 : decode cX4_lend 8 = .ok (.iload_n 1, 1) := by decide +kernel
theorem dX4_lend_9 : decode cX4_lend 9 = .ok (.iload_n 2, 1) := by decide +kernel
theorem dX4_lend_10 : decode cX4_lend 10 = .ok (.invokestatic 94, 3) := by decide +kernel
theorem dX4_lend_13 : decode cX4_lend 13 = .ok (.iload_n 3, 1) := by decide +kernel
theorem dX4_lend_14 : decode cX4_lend 14 = .ok (.iconst 1, 1) := by decide +kernel
theorem dX4_lend_15 : decode cX4_lend 15 = .ok (.ldc 110, 2) := by decide +kernel
theorem dX4_lend_17 : decode cX4_lend 17 = .ok (.invokestatic 66, 3) := by decide +kernel
theorem dX4_lend_20 : decode cX4_lend 20 = .ok (.iload 4, 2) := by decide +kernel
theorem dX4_lend_22 : decode cX4_lend 22 = .ok (.iconst 0, 1) := by decide +kernel
theorem dX4_lend_23 : decode cX4_lend 23 = .ok (.sipush 200, 3) := by decide +kernel
theorem dX4_lend_26 : decode cX4_lend 26 = .ok (.invokestatic 66, 3) := by decide +kernel
theorem dX4_lend_29 : decode cX4_lend 29 = .ok (.iload 5, 2) := by decide +kernel
theorem dX4_lend_31 : decode cX4_lend 31 = .ok (.iconst 0, 1) := by decide +kernel
theorem dX4_lend_32 : decode cX4_lend 32 = .ok (.sipush 1000, 3) := by decide +kernel
theorem dX4_lend_35 : decode cX4_lend 35 = .ok (.invokestatic 66, 3) := by decide +kernel
theorem dX4_lend_38 : decode cX4_lend 38 = .ok (.aload_n 0, 1) := by decide +kernel
theorem dX4_lend_39 : decode cX4_lend 39 = .ok (.iload_n 1, 1) := by decide +kernel
theorem dX4_lend_40 : decode cX4_lend 40 = .ok (.invokevirtual 70, 3) := by decide +kernel
theorem dX4_lend_43 : decode cX4_lend 43 = .ok (.aload_n 0, 1) := by decide +kernel
theorem dX4_lend_44 : decode cX4_lend 44 = .ok (.iload_n 2, 1) := by decide +kernel
theorem dX4_lend_45 : decode cX4_lend 45 = .ok (.invokevirtual 70, 3) := by decide +kernel
theorem dX4_lend_48 : decode cX4_lend 48 = .ok (.aload_n 0, 1) := by decide +kernel
theorem dX4_lend_49 : decode cX4_lend 49 = .ok (.iload_n 1, 1) := by decide +kernel
theorem dX4_lend_50 : decode cX4_lend 50 = .ok (.iload_n 2, 1) := by decide +kernel
theorem dX4_lend_51 : decode cX4_lend 51 = .ok (.iload_n 3, 1) := by decide +kernel
theorem dX4_lend_52 : decode cX4_lend 52 = .ok (.iload 5, 2) := by decide +kernel
theorem dX4_lend_54 : decode cX4_lend 54 = .ok (.invokevirtual 161, 3) := by decide +kernel
theorem dX4_lend_57 : decode cX4_lend 57 = .ok (.aload_n 0, 1) := by decide +kernel
theorem dX4_lend_58 : decode cX4_lend 58 = .ok (.getfield 10, 3) := by decide +kernel
theorem dX4_lend_61 : decode cX4_lend 61 = .ok (.iload_n 1, 1) := by decide +kernel
theorem dX4_lend_62 : decode cX4_lend 62 = .ok (.iload_n 2, 1) := by decide +kernel
theorem dX4_lend_63 : decode cX4_lend 63 = .ok (.iload_n 3, 1) := by decide +kernel
theorem dX4_lend_64 : decode cX4_lend 64 = .ok (.invokevirtual 165, 3) := by decide +kernel
theorem dX4_lend_67 : decode cX4_lend 67 = .ok (.aload_n 0, 1) := by decide +kernel
theorem dX4_lend_68 : decode cX4_lend 68 = .ok (.getfield 44, 3) := by decide +kernel
theorem dX4_lend_71 : decode cX4_lend 71 = .ok (.iload_n 2, 1) := by decide +kernel
theorem dX4_lend_72 : decode cX4_lend 72 = .ok (.dup2, 1) := by decide +kernel
theorem dX4_lend_73 : decode cX4_lend 73 = .ok (.iaload, 1) := by decide +kernel
theorem dX4_lend_74 : decode cX4_lend 74 = .ok (.iload 5, 2) := by decide +kernel
theorem dX4_lend_76 : decode cX4_lend 76 = .ok (.isub, 1) := by decide +kernel
theorem dX4_lend_77 : decode cX4_lend 77 = .ok (.iastore, 1) := by decide +kernel
theorem dX4_lend_78 : decode cX4_lend 78 = .ok (.aload_n 0, 1) := by decide +kernel
theorem dX4_lend_79 : decode cX4_lend 79 = .ok (.getfield 36, 3) := by decide +kernel
theorem dX4_lend_82 : decode cX4_lend 82 = .ok (.iload_n 1, 1) := by decide +kernel
theorem dX4_lend_83 : decode cX4_lend 83 = .ok (.iload_n 2, 1) := by decide +kernel
theorem dX4_lend_84 : decode cX4_lend 84 = .ok (.iload_n 3, 1) := by decide +kernel
theorem dX4_lend_85 : decode cX4_lend 85 = .ok (.iload_n 3, 1) := by decide +kernel
theorem dX4_lend_86 : decode cX4_lend 86 = .ok (.iload 4, 2) := by decide +kernel
theorem dX4_lend_88 : decode cX4_lend 88 = .ok (.imul, 1) := by decide +kernel
theorem dX4_lend_89 : decode cX4_lend 89 = .ok (.sipush 1000, 3) := by decide +kernel
theorem dX4_lend_92 : decode cX4_lend 92 = .ok (.idiv, 1) := by decide +kernel
theorem dX4_lend_93 : decode cX4_lend 93 = .ok (.iadd, 1) := by decide +kernel
theorem dX4_lend_94 : decode cX4_lend 94 = .ok (.iload 5, 2) := by decide +kernel
theorem dX4_lend_96 : decode cX4_lend 96 = .ok (.invokevirtual 168, 3) := by decide +kernel
theorem dX4_lend_99 : decode cX4_lend 99 = .ok (.ireturn, 1) := by decide +kernel
theorem dX4_loans_0 : decode cX4_loans 0 = .ok (.aload_n 0, 1) := by decide +kernel
theorem dX4_loans_1 : decode cX4_loans 1 = .ok (.getfield 36, 3) := by decide +kernel
theorem dX4_loans_4 : decode cX4_loans 4 = .ok (.getfield 169, 3) := by decide +kernel
theorem dX4_loans_7 : decode cX4_loans 7 = .ok (.aload_n 0, 1) := by decide +kernel
theorem dX4_loans_8 : decode cX4_loans 8 = .ok (.getfield 36, 3) := by decide +kernel
theorem dX4_loans_11 : decode cX4_loans 11 = .ok (.getfield 170, 3) := by decide +kernel
theorem dX4_loans_14 : decode cX4_loans 14 = .ok (.isub, 1) := by decide +kernel
theorem dX4_loans_15 : decode cX4_loans 15 = .ok (.ireturn, 1) := by decide +kernel
theorem dX4_morning_0 : decode cX4_morning 0 = .ok (.aload_n 0, 1) := by decide +kernel
theorem dX4_morning_1 : decode cX4_morning 1 = .ok (.getfield 10, 3) := by decide +kernel
theorem dX4_morning_4 : decode cX4_morning 4 = .ok (.invokevirtual 173, 3) := by decide +kernel
theorem dX4_morning_7 : decode cX4_morning 7 = .ok (.iconst 0, 1) := by decide +kernel
theorem dX4_morning_8 : decode cX4_morning 8 = .ok (.istore_n 1, 1) := by decide +kernel
theorem dX4_morning_9 : decode cX4_morning 9 = .ok (.aload_n 0, 1) := by decide +kernel
theorem dX4_morning_10 : decode cX4_morning 10 = .ok (.getfield 36, 3) := by decide +kernel
theorem dX4_morning_13 : decode cX4_morning 13 = .ok (.getfield 170, 3) := by decide +kernel
theorem dX4_morning_16 : decode cX4_morning 16 = .ok (.istore_n 2, 1) := by decide +kernel
theorem dX4_morning_17 : decode cX4_morning 17 = .ok (.iload_n 2, 1) := by decide +kernel
theorem dX4_morning_18 : decode cX4_morning 18 = .ok (.aload_n 0, 1) := by decide +kernel
theorem dX4_morning_19 : decode cX4_morning 19 = .ok (.getfield 36, 3) := by decide +kernel
theorem dX4_morning_22 : decode cX4_morning 22 = .ok (.getfield 169, 3) := by decide +kernel
theorem dX4_morning_25 : decode cX4_morning 25 = .ok (.if_icmp .ge 46, 3) := by decide +kernel
theorem dX4_morning_28 : decode cX4_morning 28 = .ok (.aload_n 0, 1) := by decide +kernel
theorem dX4_morning_29 : decode cX4_morning 29 = .ok (.iload_n 2, 1) := by decide +kernel
theorem dX4_morning_30 : decode cX4_morning 30 = .ok (.invokevirtual 176, 3) := by decide +kernel
theorem dX4_morning_33 : decode cX4_morning 33 = .ok (.ifCond .eq 11, 3) := by decide +kernel
theorem dX4_morning_36 : decode cX4_morning 36 = .ok (.aload_n 0, 1) := by decide +kernel
theorem dX4_morning_37 : decode cX4_morning 37 = .ok (.iload_n 2, 1) := by decide +kernel
theorem dX4_morning_38 : decode cX4_morning 38 = .ok (.invokevirtual 180, 3) := by decide +kernel
theorem dX4_morning_41 : decode cX4_morning 41 = .ok (.goto 24, 3) := by decide +kernel
theorem dX4_morning_44 : decode cX4_morning 44 = .ok (.iload_n 1, 1) := by decide +kernel
theorem dX4_morning_45 : decode cX4_morning 45 = .ok (.aload_n 0, 1) := by decide +kernel
theorem dX4_morning_46 : decode cX4_morning 46 = .ok (.aload_n 0, 1) := by decide +kernel
theorem dX4_morning_47 : decode cX4_morning 47 = .ok (.getfield 36, 3) := by decide +kernel
theorem dX4_morning_50 : decode cX4_morning 50 = .ok (.getfield 183, 3) := by decide +kernel
theorem dX4_morning_53 : decode cX4_morning 53 = .ok (.iload_n 2, 1) := by decide +kernel
theorem dX4_morning_54 : decode cX4_morning 54 = .ok (.iaload, 1) := by decide +kernel
theorem dX4_morning_55 : decode cX4_morning 55 = .ok (.invokevirtual 186, 3) := by decide +kernel
theorem dX4_morning_58 : decode cX4_morning 58 = .ok (.iadd, 1) := by decide +kernel
theorem dX4_morning_59 : decode cX4_morning 59 = .ok (.istore_n 1, 1) := by decide +kernel
theorem dX4_morning_60 : decode cX4_morning 60 = .ok (.aload_n 0, 1) := by decide +kernel
theorem dX4_morning_61 : decode cX4_morning 61 = .ok (.iload_n 2, 1) := by decide +kernel
theorem dX4_morning_62 : decode cX4_morning 62 = .ok (.invokevirtual 189, 3) := by decide +kernel
theorem dX4_morning_65 : decode cX4_morning 65 = .ok (.iinc 2 1, 3) := by decide +kernel
theorem dX4_morning_68 : decode cX4_morning 68 = .ok (.goto (-51), 3) := by decide +kernel
theorem dX4_morning_71 : decode cX4_morning 71 = .ok (.aload_n 0, 1) := by decide +kernel
theorem dX4_morning_72 : decode cX4_morning 72 = .ok (.getfield 36, 3) := by decide +kernel
theorem dX4_morning_75 : decode cX4_morning 75 = .ok (.aload_n 0, 1) := by decide +kernel
theorem dX4_morning_76 : decode cX4_morning 76 = .ok (.getfield 36, 3) := by decide +kernel
theorem dX4_morning_79 : decode cX4_morning 79 = .ok (.getfield 169, 3) := by decide +kernel
theorem dX4_morning_82 : decode cX4_morning 82 = .ok (.putfield 170, 3) := by decide +kernel
theorem dX4_morning_85 : decode cX4_morning 85 = .ok (.iload_n 1, 1) := by decide +kernel
theorem dX4_morning_86 : decode cX4_morning 86 = .ok (.ireturn, 1) := by decide +kernel
theorem dX4_sold_0 : decode cX4_sold 0 = .ok (.aload_n 0, 1) := by decide +kernel
theorem dX4_sold_1 : decode cX4_sold 1 = .ok (.getfield 192, 3) := by decide +kernel
theorem dX4_sold_4 : decode cX4_sold 4 = .ok (.ireturn, 1) := by decide +kernel
theorem dX4_requireBank_0 : decode cX4_requireBank 0 = .ok (.iload_n 0, 1) := by decide +kernel
theorem dX4_requireBank_1 : decode cX4_requireBank 1 = .ok (.ifCond .lt 8, 3) := by decide +kernel
theorem dX4_requireBank_4 : decode cX4_requireBank 4 = .ok (.iload_n 0, 1) := by decide +kernel
theorem dX4_requireBank_5 : decode cX4_requireBank 5 = .ok (.iconst 5, 1) := by decide +kernel
theorem dX4_requireBank_6 : decode cX4_requireBank 6 = .ok (.if_icmp .lt 13, 3) := by decide +kernel
theorem dX4_requireBank_9 : decode cX4_requireBank 9 = .ok (.new 140, 3) := by decide +kernel
theorem dX4_requireBank_12 : decode cX4_requireBank 12 = .ok (.dup, 1) := by decide +kernel
theorem dX4_requireBank_13 : decode cX4_requireBank 13 = .ok (.ldc 195, 2) := by decide +kernel
theorem dX4_requireBank_15 : decode cX4_requireBank 15 = .ok (.invokespecial 144, 3) := by decide +kernel
theorem dX4_requireBank_18 : decode cX4_requireBank 18 = .ok (.athrow, 1) := by decide +kernel
theorem dX4_requireBank_19 : decode cX4_requireBank 19 = .ok (.return_, 1) := by decide +kernel
theorem dX4_requireTwo_0 : decode cX4_requireTwo 0 = .ok (.iload_n 0, 1) := by decide +kernel
theorem dX4_requireTwo_1 : decode cX4_requireTwo 1 = .ok (.iload_n 1, 1) := by decide +kernel
theorem dX4_requireTwo_2 : decode cX4_requireTwo 2 = .ok (.if_icmp .ne 13, 3) := by decide +kernel
theorem dX4_requireTwo_5 : decode cX4_requireTwo 5 = .ok (.new 197, 3) := by decide +kernel
theorem dX4_requireTwo_8 : decode cX4_requireTwo 8 = .ok (.dup, 1) := by decide +kernel
theorem dX4_requireTwo_9 : decode cX4_requireTwo 9 = .ok (.ldc 199, 2) := by decide +kernel
theorem dX4_requireTwo_11 : decode cX4_requireTwo 11 = .ok (.invokespecial 201, 3) := by decide +kernel
theorem dX4_requireTwo_14 : decode cX4_requireTwo 14 = .ok (.athrow, 1) := by decide +kernel
theorem dX4_requireTwo_15 : decode cX4_requireTwo 15 = .ok (.return_, 1) := by decide +kernel
theorem dX4_requireRange_0 : decode cX4_requireRange 0 = .ok (.iload_n 0, 1) := by decide +kernel
theorem dX4_requireRange_1 : decode cX4_requireRange 1 = .ok (.iload_n 1, 1) := by decide +kernel
theorem dX4_requireRange_2 : decode cX4_requireRange 2 = .ok (.if_icmp .lt 8, 3) := by decide +kernel
theorem dX4_requireRange_5 : decode cX4_requireRange 5 = .ok (.iload_n 0, 1) := by decide +kernel
theorem dX4_requireRange_6 : decode cX4_requireRange 6 = .ok (.iload_n 2, 1) := by decide +kernel
theorem dX4_requireRange_7 : decode cX4_requireRange 7 = .ok (.if_icmp .le 13, 3) := by decide +kernel
theorem dX4_requireRange_10 : decode cX4_requireRange 10 = .ok (.new 197, 3) := by decide +kernel
theorem dX4_requireRange_13 : decode cX4_requireRange 13 = .ok (.dup, 1) := by decide +kernel
theorem dX4_requireRange_14 : decode cX4_requireRange 14 = .ok (.ldc 202, 2) := by decide +kernel
theorem dX4_requireRange_16 : decode cX4_requireRange 16 = .ok (.invokespecial 201, 3) := by decide +kernel
theorem dX4_requireRange_19 : decode cX4_requireRange 19 = .ok (.athrow, 1) := by decide +kernel
theorem dX4_requireRange_20 : decode cX4_requireRange 20 = .ok (.return_, 1) := by decide +kernel
theorem dX4_requireOpen_0 : decode cX4_requireOpen 0 = .ok (.aload_n 0, 1) := by decide +kernel
theorem dX4_requireOpen_1 : decode cX4_requireOpen 1 = .ok (.getfield 40, 3) := by decide +kernel
theorem dX4_requireOpen_4 : decode cX4_requireOpen 4 = .ok (.iload_n 1, 1) := by decide +kernel
theorem dX4_requireOpen_5 : decode cX4_requireOpen 5 = .ok (.baload, 1) := by decide +kernel
theorem dX4_requireOpen_6 : decode cX4_requireOpen 6 = .ok (.ifCond .eq 13, 3) := by decide +kernel
theorem dX4_requireOpen_9 : decode cX4_requireOpen 9 = .ok (.new 77, 3) := by decide +kernel
theorem dX4_requireOpen_12 : decode cX4_requireOpen 12 = .ok (.dup, 1) := by decide +kernel
theorem dX4_requireOpen_13 : decode cX4_requireOpen 13 = .ok (.ldc 204, 2) := by decide +kernel
theorem dX4_requireOpen_15 : decode cX4_requireOpen 15 = .ok (.invokespecial 81, 3) := by decide +kernel
theorem dX4_requireOpen_18 : decode cX4_requireOpen 18 = .ok (.athrow, 1) := by decide +kernel
theorem dX4_requireOpen_19 : decode cX4_requireOpen 19 = .ok (.return_, 1) := by decide +kernel
theorem dX4_requirePayment_0 : decode cX4_requirePayment 0 = .ok (.iload_n 1, 1) := by decide +kernel
theorem dX4_requirePayment_1 : decode cX4_requirePayment 1 = .ok (.ifCond .lt 14, 3) := by decide +kernel
theorem dX4_requirePayment_4 : decode cX4_requirePayment 4 = .ok (.iload_n 1, 1) := by decide +kernel
theorem dX4_requirePayment_5 : decode cX4_requirePayment 5 = .ok (.aload_n 0, 1) := by decide +kernel
theorem dX4_requirePayment_6 : decode cX4_requirePayment 6 = .ok (.getfield 29, 3) := by decide +kernel
theorem dX4_requirePayment_9 : decode cX4_requirePayment 9 = .ok (.getfield 113, 3) := by decide +kernel
theorem dX4_requirePayment_12 : decode cX4_requirePayment 12 = .ok (.if_icmp .lt 13, 3) := by decide +kernel
theorem dX4_requirePayment_15 : decode cX4_requirePayment 15 = .ok (.new 140, 3) := by decide +kernel
theorem dX4_requirePayment_18 : decode cX4_requirePayment 18 = .ok (.dup, 1) := by decide +kernel
theorem dX4_requirePayment_19 : decode cX4_requirePayment 19 = .ok (.ldc 206, 2) := by decide +kernel
theorem dX4_requirePayment_21 : decode cX4_requirePayment 21 = .ok (.invokespecial 144, 3) := by decide +kernel
theorem dX4_requirePayment_24 : decode cX4_requirePayment 24 = .ok (.athrow, 1) := by decide +kernel
theorem dX4_requirePayment_25 : decode cX4_requirePayment 25 = .ok (.return_, 1) := by decide +kernel
theorem dX4_requireLoanable_0 : decode cX4_requireLoanable 0 = .ok (.aload_n 0, 1) := by decide +kernel
theorem dX4_requireLoanable_1 : decode cX4_requireLoanable 1 = .ok (.getfield 36, 3) := by decide +kernel
theorem dX4_requireLoanable_4 : decode cX4_requireLoanable 4 = .ok (.getfield 169, 3) := by decide +kernel
theorem dX4_requireLoanable_7 : decode cX4_requireLoanable 7 = .ok (.bipush 40, 2) := by decide +kernel
theorem dX4_requireLoanable_9 : decode cX4_requireLoanable 9 = .ok (.if_icmp .lt 13, 3) := by decide +kernel
theorem dX4_requireLoanable_12 : decode cX4_requireLoanable 12 = .ok (.new 77, 3) := by decide +kernel
theorem dX4_requireLoanable_15 : decode cX4_requireLoanable 15 = .ok (.dup, 1) := by decide +kernel
theorem dX4_requireLoanable_16 : decode cX4_requireLoanable 16 = .ok (.ldc 208, 2) := by decide +kernel
theorem dX4_requireLoanable_18 : decode cX4_requireLoanable 18 = .ok (.invokespecial 81, 3) := by decide +kernel
theorem dX4_requireLoanable_21 : decode cX4_requireLoanable 21 = .ok (.athrow, 1) := by decide +kernel
theorem dX4_requireLoanable_22 : decode cX4_requireLoanable 22 = .ok (.aload_n 0, 1) := by decide +kernel
theorem dX4_requireLoanable_23 : decode cX4_requireLoanable 23 = .ok (.getfield 44, 3) := by decide +kernel
theorem dX4_requireLoanable_26 : decode cX4_requireLoanable 26 = .ok (.iload_n 2, 1) := by decide +kernel
theorem dX4_requireLoanable_27 : decode cX4_requireLoanable 27 = .ok (.iaload, 1) := by decide +kernel
theorem dX4_requireLoanable_28 : decode cX4_requireLoanable 28 = .ok (.iload 4, 2) := by decide +kernel
theorem dX4_requireLoanable_30 : decode cX4_requireLoanable 30 = .ok (.if_icmp .lt 13, 3) := by decide +kernel
theorem dX4_requireLoanable_33 : decode cX4_requireLoanable 33 = .ok (.aload_n 0, 1) := by decide +kernel
theorem dX4_requireLoanable_34 : decode cX4_requireLoanable 34 = .ok (.iload 4, 2) := by decide +kernel
theorem dX4_requireLoanable_36 : decode cX4_requireLoanable 36 = .ok (.invokevirtual 210, 3) := by decide +kernel
theorem dX4_requireLoanable_39 : decode cX4_requireLoanable 39 = .ok (.iload_n 3, 1) := by decide +kernel
theorem dX4_requireLoanable_40 : decode cX4_requireLoanable 40 = .ok (.if_icmp .ge 13, 3) := by decide +kernel
theorem dX4_requireLoanable_43 : decode cX4_requireLoanable 43 = .ok (.new 77, 3) := by decide +kernel
theorem dX4_requireLoanable_46 : decode cX4_requireLoanable 46 = .ok (.dup, 1) := by decide +kernel
theorem dX4_requireLoanable_47 : decode cX4_requireLoanable 47 = .ok (.ldc 213, 2) := by decide +kernel
theorem dX4_requireLoanable_49 : decode cX4_requireLoanable 49 = .ok (.invokespecial 81, 3) := by decide +kernel
theorem dX4_requireLoanable_52 : decode cX4_requireLoanable 52 = .ok (.athrow, 1) := by decide +kernel
theorem dX4_requireLoanable_53 : decode cX4_requireLoanable 53 = .ok (.aload_n 0, 1) := by decide +kernel
theorem dX4_requireLoanable_54 : decode cX4_requireLoanable 54 = .ok (.getfield 10, 3) := by decide +kernel
theorem dX4_requireLoanable_57 : decode cX4_requireLoanable 57 = .ok (.getfield 73, 3) := by decide +kernel
theorem dX4_requireLoanable_60 : decode cX4_requireLoanable 60 = .ok (.iload_n 1, 1) := by decide +kernel
theorem dX4_requireLoanable_61 : decode cX4_requireLoanable 61 = .ok (.iaload, 1) := by decide +kernel
theorem dX4_requireLoanable_62 : decode cX4_requireLoanable 62 = .ok (.iload_n 3, 1) := by decide +kernel
theorem dX4_requireLoanable_63 : decode cX4_requireLoanable 63 = .ok (.isub, 1) := by decide +kernel
theorem dX4_requireLoanable_64 : decode cX4_requireLoanable 64 = .ok (.aload_n 0, 1) := by decide +kernel
theorem dX4_requireLoanable_65 : decode cX4_requireLoanable 65 = .ok (.getfield 22, 3) := by decide +kernel
theorem dX4_requireLoanable_68 : decode cX4_requireLoanable 68 = .ok (.getfield 91, 3) := by decide +kernel
theorem dX4_requireLoanable_71 : decode cX4_requireLoanable 71 = .ok (.iload_n 1, 1) := by decide +kernel
theorem dX4_requireLoanable_72 : decode cX4_requireLoanable 72 = .ok (.iaload, 1) := by decide +kernel
theorem dX4_requireLoanable_73 : decode cX4_requireLoanable 73 = .ok (.if_icmp .ge 13, 3) := by decide +kernel
theorem dX4_requireLoanable_76 : decode cX4_requireLoanable 76 = .ok (.new 77, 3) := by decide +kernel
theorem dX4_requireLoanable_79 : decode cX4_requireLoanable 79 = .ok (.dup, 1) := by decide +kernel
theorem dX4_requireLoanable_80 : decode cX4_requireLoanable 80 = .ok (.ldc 215, 2) := by decide +kernel
theorem dX4_requireLoanable_82 : decode cX4_requireLoanable 82 = .ok (.invokespecial 81, 3) := by decide +kernel
theorem dX4_requireLoanable_85 : decode cX4_requireLoanable 85 = .ok (.athrow, 1) := by decide +kernel
theorem dX4_requireLoanable_86 : decode cX4_requireLoanable 86 = .ok (.return_, 1) := by decide +kernel
theorem dX4_pairOf_0 : decode cX4_pairOf 0 = .ok (.iload_n 0, 1) := by decide +kernel
theorem dX4_pairOf_1 : decode cX4_pairOf 1 = .ok (.iconst 5, 1) := by decide +kernel
theorem dX4_pairOf_2 : decode cX4_pairOf 2 = .ok (.imul, 1) := by decide +kernel
theorem dX4_pairOf_3 : decode cX4_pairOf 3 = .ok (.iload_n 1, 1) := by decide +kernel
theorem dX4_pairOf_4 : decode cX4_pairOf 4 = .ok (.iadd, 1) := by decide +kernel
theorem dX4_pairOf_5 : decode cX4_pairOf 5 = .ok (.ireturn, 1) := by decide +kernel
theorem dX4_obstacle_0 : decode cX4_obstacle 0 = .ok (.aload_n 0, 1) := by decide +kernel
theorem dX4_obstacle_1 : decode cX4_obstacle 1 = .ok (.getfield 29, 3) := by decide +kernel
theorem dX4_obstacle_4 : decode cX4_obstacle 4 = .ok (.getfield 125, 3) := by decide +kernel
theorem dX4_obstacle_7 : decode cX4_obstacle 7 = .ok (.iload_n 1, 1) := by decide +kernel
theorem dX4_obstacle_8 : decode cX4_obstacle 8 = .ok (.baload, 1) := by decide +kernel
theorem dX4_obstacle_9 : decode cX4_obstacle 9 = .ok (.ifCond .ne 5, 3) := by decide +kernel
theorem dX4_obstacle_12 : decode cX4_obstacle 12 = .ok (.iconst 3, 1) := by decide +kernel
theorem dX4_obstacle_13 : decode cX4_obstacle 13 = .ok (.ireturn, 1) := by decide +kernel
theorem dX4_obstacle_14 : decode cX4_obstacle 14 = .ok (.aload_n 0, 1) := by decide +kernel
theorem dX4_obstacle_15 : decode cX4_obstacle 15 = .ok (.getfield 29, 3) := by decide +kernel
theorem dX4_obstacle_18 : decode cX4_obstacle 18 = .ok (.getfield 217, 3) := by decide +kernel
theorem dX4_obstacle_21 : decode cX4_obstacle 21 = .ok (.iload_n 1, 1) := by decide +kernel
theorem dX4_obstacle_22 : decode cX4_obstacle 22 = .ok (.iaload, 1) := by decide +kernel
theorem dX4_obstacle_23 : decode cX4_obstacle 23 = .ok (.istore_n 2, 1) := by decide +kernel
theorem dX4_obstacle_24 : decode cX4_obstacle 24 = .ok (.aload_n 0, 1) := by decide +kernel
theorem dX4_obstacle_25 : decode cX4_obstacle 25 = .ok (.getfield 29, 3) := by decide +kernel
theorem dX4_obstacle_28 : decode cX4_obstacle 28 = .ok (.getfield 220, 3) := by decide +kernel
theorem dX4_obstacle_31 : decode cX4_obstacle 31 = .ok (.iload_n 1, 1) := by decide +kernel
theorem dX4_obstacle_32 : decode cX4_obstacle 32 = .ok (.iaload, 1) := by decide +kernel
theorem dX4_obstacle_33 : decode cX4_obstacle 33 = .ok (.istore_n 3, 1) := by decide +kernel
theorem dX4_obstacle_34 : decode cX4_obstacle 34 = .ok (.aload_n 0, 1) := by decide +kernel
theorem dX4_obstacle_35 : decode cX4_obstacle 35 = .ok (.getfield 10, 3) := by decide +kernel
theorem dX4_obstacle_38 : decode cX4_obstacle 38 = .ok (.getfield 73, 3) := by decide +kernel
theorem dX4_obstacle_41 : decode cX4_obstacle 41 = .ok (.iload_n 2, 1) := by decide +kernel
theorem dX4_obstacle_42 : decode cX4_obstacle 42 = .ok (.iaload, 1) := by decide +kernel
theorem dX4_obstacle_43 : decode cX4_obstacle 43 = .ok (.iload_n 3, 1) := by decide +kernel
theorem dX4_obstacle_44 : decode cX4_obstacle 44 = .ok (.isub, 1) := by decide +kernel
theorem dX4_obstacle_45 : decode cX4_obstacle 45 = .ok (.aload_n 0, 1) := by decide +kernel
theorem dX4_obstacle_46 : decode cX4_obstacle 46 = .ok (.getfield 22, 3) := by decide +kernel
theorem dX4_obstacle_49 : decode cX4_obstacle 49 = .ok (.getfield 91, 3) := by decide +kernel
theorem dX4_obstacle_52 : decode cX4_obstacle 52 = .ok (.iload_n 2, 1) := by decide +kernel
theorem dX4_obstacle_53 : decode cX4_obstacle 53 = .ok (.iaload, 1) := by decide +kernel
theorem dX4_obstacle_54 : decode cX4_obstacle 54 = .ok (.if_icmp .ge 5, 3) := by decide +kernel
theorem dX4_obstacle_57 : decode cX4_obstacle 57 = .ok (.iconst 1, 1) := by decide +kernel
theorem dX4_obstacle_58 : decode cX4_obstacle 58 = .ok (.ireturn, 1) := by decide +kernel
theorem dX4_obstacle_59 : decode cX4_obstacle 59 = .ok (.iload_n 2, 1) := by decide +kernel
theorem dX4_obstacle_60 : decode cX4_obstacle 60 = .ok (.aload_n 0, 1) := by decide +kernel
theorem dX4_obstacle_61 : decode cX4_obstacle 61 = .ok (.getfield 29, 3) := by decide +kernel
theorem dX4_obstacle_64 : decode cX4_obstacle 64 = .ok (.getfield 223, 3) := by decide +kernel
theorem dX4_obstacle_67 : decode cX4_obstacle 67 = .ok (.iload_n 1, 1) := by decide +kernel
theorem dX4_obstacle_68 : decode cX4_obstacle 68 = .ok (.iaload, 1) := by decide +kernel
theorem dX4_obstacle_69 : decode cX4_obstacle 69 = .ok (.invokestatic 98, 3) := by decide +kernel
theorem dX4_obstacle_72 : decode cX4_obstacle 72 = .ok (.istore 4, 2) := by decide +kernel
theorem dX4_obstacle_74 : decode cX4_obstacle 74 = .ok (.aload_n 0, 1) := by decide +kernel
theorem dX4_obstacle_75 : decode cX4_obstacle 75 = .ok (.getfield 10, 3) := by decide +kernel
theorem dX4_obstacle_78 : decode cX4_obstacle 78 = .ok (.getfield 101, 3) := by decide +kernel
theorem dX4_obstacle_81 : decode cX4_obstacle 81 = .ok (.iload 4, 2) := by decide +kernel
theorem dX4_obstacle_83 : decode cX4_obstacle 83 = .ok (.iaload, 1) := by decide +kernel
theorem dX4_obstacle_84 : decode cX4_obstacle 84 = .ok (.iload_n 3, 1) := by decide +kernel
theorem dX4_obstacle_85 : decode cX4_obstacle 85 = .ok (.iadd, 1) := by decide +kernel
theorem dX4_obstacle_86 : decode cX4_obstacle 86 = .ok (.aload_n 0, 1) := by decide +kernel
theorem dX4_obstacle_87 : decode cX4_obstacle 87 = .ok (.getfield 22, 3) := by decide +kernel
theorem dX4_obstacle_90 : decode cX4_obstacle 90 = .ok (.getfield 107, 3) := by decide +kernel
theorem dX4_obstacle_93 : decode cX4_obstacle 93 = .ok (.iload 4, 2) := by decide +kernel
theorem dX4_obstacle_95 : decode cX4_obstacle 95 = .ok (.iaload, 1) := by decide +kernel
theorem dX4_obstacle_96 : decode cX4_obstacle 96 = .ok (.if_icmp .le 7, 3) := by decide +kernel
theorem dX4_obstacle_99 : decode cX4_obstacle 99 = .ok (.iconst 2, 1) := by decide +kernel
theorem dX4_obstacle_100 : decode cX4_obstacle 100 = .ok (.goto 4, 3) := by decide +kernel
theorem dX4_obstacle_103 : decode cX4_obstacle 103 = .ok (.iconst 0, 1) := by decide +kernel
theorem dX4_obstacle_104 : decode cX4_obstacle 104 = .ok (.ireturn, 1) := by decide +kernel
theorem dX4_send_0 : decode cX4_send 0 = .ok (.aload_n 0, 1) := by decide +kernel
theorem dX4_send_1 : decode cX4_send 1 = .ok (.getfield 29, 3) := by decide +kernel
theorem dX4_send_4 : decode cX4_send 4 = .ok (.iload_n 1, 1) := by decide +kernel
theorem dX4_send_5 : decode cX4_send 5 = .ok (.aload_n 0, 1) := by decide +kernel
theorem dX4_send_6 : decode cX4_send 6 = .ok (.getfield 10, 3) := by decide +kernel
theorem dX4_send_9 : decode cX4_send 9 = .ok (.invokevirtual 226, 3) := by decide +kernel
theorem dX4_send_12 : decode cX4_send 12 = .ok (.aload_n 0, 1) := by decide +kernel
theorem dX4_send_13 : decode cX4_send 13 = .ok (.getfield 29, 3) := by decide +kernel
theorem dX4_send_16 : decode cX4_send 16 = .ok (.getfield 125, 3) := by decide +kernel
theorem dX4_send_19 : decode cX4_send 19 = .ok (.iload_n 1, 1) := by decide +kernel
theorem dX4_send_20 : decode cX4_send 20 = .ok (.iconst 0, 1) := by decide +kernel
theorem dX4_send_21 : decode cX4_send 21 = .ok (.bastore, 1) := by decide +kernel
theorem dX4_send_22 : decode cX4_send 22 = .ok (.return_, 1) := by decide +kernel
theorem dX4_goThroughBanks_0 : decode cX4_goThroughBanks 0 = .ok (.iconst 0, 1) := by decide +kernel
theorem dX4_goThroughBanks_1 : decode cX4_goThroughBanks 1 = .ok (.istore_n 1, 1) := by decide +kernel
theorem dX4_goThroughBanks_2 : decode cX4_goThroughBanks 2 = .ok (.iconst 0, 1) := by decide +kernel
theorem dX4_goThroughBanks_3 : decode cX4_goThroughBanks 3 = .ok (.istore_n 2, 1) := by decide +kernel
theorem dX4_goThroughBanks_4 : decode cX4_goThroughBanks 4 = .ok (.iload_n 2, 1) := by decide +kernel
theorem dX4_goThroughBanks_5 : decode cX4_goThroughBanks 5 = .ok (.iconst 5, 1) := by decide +kernel
theorem dX4_goThroughBanks_6 : decode cX4_goThroughBanks 6 = .ok (.if_icmp .ge 28, 3) := by decide +kernel
theorem dX4_goThroughBanks_9 : decode cX4_goThroughBanks 9 = .ok (.aload_n 0, 1) := by decide +kernel
theorem dX4_goThroughBanks_10 : decode cX4_goThroughBanks 10 = .ok (.iload_n 2, 1) := by decide +kernel
theorem dX4_goThroughBanks_11 : decode cX4_goThroughBanks 11 = .ok (.invokevirtual 230, 3) := by decide +kernel
theorem dX4_goThroughBanks_14 : decode cX4_goThroughBanks 14 = .ok (.istore_n 3, 1) := by decide +kernel
theorem dX4_goThroughBanks_15 : decode cX4_goThroughBanks 15 = .ok (.iload_n 3, 1) := by decide +kernel
theorem dX4_goThroughBanks_16 : decode cX4_goThroughBanks 16 = .ok (.iconst (-1), 1) := by decide +kernel
theorem dX4_goThroughBanks_17 : decode cX4_goThroughBanks 17 = .ok (.if_icmp .eq 11, 3) := by decide +kernel
theorem dX4_goThroughBanks_20 : decode cX4_goThroughBanks 20 = .ok (.aload_n 0, 1) := by decide +kernel
theorem dX4_goThroughBanks_21 : decode cX4_goThroughBanks 21 = .ok (.iload_n 3, 1) := by decide +kernel
theorem dX4_goThroughBanks_22 : decode cX4_goThroughBanks 22 = .ok (.invokevirtual 233, 3) := by decide +kernel
theorem dX4_goThroughBanks_25 : decode cX4_goThroughBanks 25 = .ok (.iinc 1 1, 3) := by decide +kernel
theorem dX4_goThroughBanks_28 : decode cX4_goThroughBanks 28 = .ok (.iinc 2 1, 3) := by decide +kernel
theorem dX4_goThroughBanks_31 : decode cX4_goThroughBanks 31 = .ok (.goto (-27), 3) := by decide +kernel
theorem dX4_goThroughBanks_34 : decode cX4_goThroughBanks 34 = .ok (.iload_n 1, 1) := by decide +kernel
theorem dX4_goThroughBanks_35 : decode cX4_goThroughBanks 35 = .ok (.ireturn, 1) := by decide +kernel
theorem dX4_nextToGo_0 : decode cX4_nextToGo 0 = .ok (.aload_n 0, 1) := by decide +kernel
theorem dX4_nextToGo_1 : decode cX4_nextToGo 1 = .ok (.getfield 29, 3) := by decide +kernel
theorem dX4_nextToGo_4 : decode cX4_nextToGo 4 = .ok (.iload_n 1, 1) := by decide +kernel
theorem dX4_nextToGo_5 : decode cX4_nextToGo 5 = .ok (.iconst 0, 1) := by decide +kernel
theorem dX4_nextToGo_6 : decode cX4_nextToGo 6 = .ok (.invokevirtual 145, 3) := by decide +kernel
theorem dX4_nextToGo_9 : decode cX4_nextToGo 9 = .ok (.istore_n 2, 1) := by decide +kernel
theorem dX4_nextToGo_10 : decode cX4_nextToGo 10 = .ok (.iload_n 2, 1) := by decide +kernel
theorem dX4_nextToGo_11 : decode cX4_nextToGo 11 = .ok (.iconst (-1), 1) := by decide +kernel
theorem dX4_nextToGo_12 : decode cX4_nextToGo 12 = .ok (.if_icmp .eq 11, 3) := by decide +kernel
theorem dX4_nextToGo_15 : decode cX4_nextToGo 15 = .ok (.aload_n 0, 1) := by decide +kernel
theorem dX4_nextToGo_16 : decode cX4_nextToGo 16 = .ok (.iload_n 2, 1) := by decide +kernel
theorem dX4_nextToGo_17 : decode cX4_nextToGo 17 = .ok (.invokevirtual 148, 3) := by decide +kernel
theorem dX4_nextToGo_20 : decode cX4_nextToGo 20 = .ok (.ifCond .ne 5, 3) := by decide +kernel
theorem dX4_nextToGo_23 : decode cX4_nextToGo 23 = .ok (.iload_n 2, 1) := by decide +kernel
theorem dX4_nextToGo_24 : decode cX4_nextToGo 24 = .ok (.ireturn, 1) := by decide +kernel
theorem dX4_nextToGo_25 : decode cX4_nextToGo 25 = .ok (.aload_n 0, 1) := by decide +kernel
theorem dX4_nextToGo_26 : decode cX4_nextToGo 26 = .ok (.iload_n 1, 1) := by decide +kernel
theorem dX4_nextToGo_27 : decode cX4_nextToGo 27 = .ok (.invokevirtual 236, 3) := by decide +kernel
theorem dX4_nextToGo_30 : decode cX4_nextToGo 30 = .ok (.ireturn, 1) := by decide +kernel
theorem dX4_firstSmallFree_0 : decode cX4_firstSmallFree 0 = .ok (.iconst 0, 1) := by decide +kernel
theorem dX4_firstSmallFree_1 : decode cX4_firstSmallFree 1 = .ok (.istore_n 2, 1) := by decide +kernel
theorem dX4_firstSmallFree_2 : decode cX4_firstSmallFree 2 = .ok (.iload_n 2, 1) := by decide +kernel
theorem dX4_firstSmallFree_3 : decode cX4_firstSmallFree 3 = .ok (.aload_n 0, 1) := by decide +kernel
theorem dX4_firstSmallFree_4 : decode cX4_firstSmallFree 4 = .ok (.getfield 29, 3) := by decide +kernel
theorem dX4_firstSmallFree_7 : decode cX4_firstSmallFree 7 = .ok (.getfield 113, 3) := by decide +kernel
theorem dX4_firstSmallFree_10 : decode cX4_firstSmallFree 10 = .ok (.if_icmp .ge 57, 3) := by decide +kernel
theorem dX4_firstSmallFree_13 : decode cX4_firstSmallFree 13 = .ok (.aload_n 0, 1) := by decide +kernel
theorem dX4_firstSmallFree_14 : decode cX4_firstSmallFree 14 = .ok (.getfield 29, 3) := by decide +kernel
theorem dX4_firstSmallFree_17 : decode cX4_firstSmallFree 17 = .ok (.getfield 239, 3) := by decide +kernel
theorem dX4_firstSmallFree_20 : decode cX4_firstSmallFree 20 = .ok (.iload_n 2, 1) := by decide +kernel
theorem dX4_firstSmallFree_21 : decode cX4_firstSmallFree 21 = .ok (.iaload, 1) := by decide +kernel
theorem dX4_firstSmallFree_22 : decode cX4_firstSmallFree 22 = .ok (.istore_n 3, 1) := by decide +kernel
theorem dX4_firstSmallFree_23 : decode cX4_firstSmallFree 23 = .ok (.aload_n 0, 1) := by decide +kernel
theorem dX4_firstSmallFree_24 : decode cX4_firstSmallFree 24 = .ok (.getfield 29, 3) := by decide +kernel
theorem dX4_firstSmallFree_27 : decode cX4_firstSmallFree 27 = .ok (.iload_n 3, 1) := by decide +kernel
theorem dX4_firstSmallFree_28 : decode cX4_firstSmallFree 28 = .ok (.iload_n 1, 1) := by decide +kernel
theorem dX4_firstSmallFree_29 : decode cX4_firstSmallFree 29 = .ok (.invokevirtual 242, 3) := by decide +kernel
theorem dX4_firstSmallFree_32 : decode cX4_firstSmallFree 32 = .ok (.ifCond .eq 29, 3) := by decide +kernel
theorem dX4_firstSmallFree_35 : decode cX4_firstSmallFree 35 = .ok (.aload_n 0, 1) := by decide +kernel
theorem dX4_firstSmallFree_36 : decode cX4_firstSmallFree 36 = .ok (.getfield 29, 3) := by decide +kernel
theorem dX4_firstSmallFree_39 : decode cX4_firstSmallFree 39 = .ok (.getfield 220, 3) := by decide +kernel
theorem dX4_firstSmallFree_42 : decode cX4_firstSmallFree 42 = .ok (.iload_n 3, 1) := by decide +kernel
theorem dX4_firstSmallFree_43 : decode cX4_firstSmallFree 43 = .ok (.iaload, 1) := by decide +kernel
theorem dX4_firstSmallFree_44 : decode cX4_firstSmallFree 44 = .ok (.aload_n 0, 1) := by decide +kernel
theorem dX4_firstSmallFree_45 : decode cX4_firstSmallFree 45 = .ok (.getfield 51, 3) := by decide +kernel
theorem dX4_firstSmallFree_48 : decode cX4_firstSmallFree 48 = .ok (.if_icmp .gt 13, 3) := by decide +kernel
theorem dX4_firstSmallFree_51 : decode cX4_firstSmallFree 51 = .ok (.aload_n 0, 1) := by decide +kernel
theorem dX4_firstSmallFree_52 : decode cX4_firstSmallFree 52 = .ok (.iload_n 3, 1) := by decide +kernel
theorem dX4_firstSmallFree_53 : decode cX4_firstSmallFree 53 = .ok (.invokevirtual 148, 3) := by decide +kernel
theorem dX4_firstSmallFree_56 : decode cX4_firstSmallFree 56 = .ok (.ifCond .ne 5, 3) := by decide +kernel
theorem dX4_firstSmallFree_59 : decode cX4_firstSmallFree 59 = .ok (.iload_n 3, 1) := by decide +kernel
theorem dX4_firstSmallFree_60 : decode cX4_firstSmallFree 60 = .ok (.ireturn, 1) := by decide +kernel
theorem dX4_firstSmallFree_61 : decode cX4_firstSmallFree 61 = .ok (.iinc 2 1, 3) := by decide +kernel
theorem dX4_firstSmallFree_64 : decode cX4_firstSmallFree 64 = .ok (.goto (-62), 3) := by decide +kernel
theorem dX4_firstSmallFree_67 : decode cX4_firstSmallFree 67 = .ok (.iconst (-1), 1) := by decide +kernel
theorem dX4_firstSmallFree_68 : decode cX4_firstSmallFree 68 = .ok (.ireturn, 1) := by decide +kernel
theorem dX4_sendLargestSet_0 : decode cX4_sendLargestSet 0 = .ok (.iconst 0, 1) := by decide +kernel
theorem dX4_sendLargestSet_1 : decode cX4_sendLargestSet 1 = .ok (.istore_n 1, 1) := by decide +kernel
theorem dX4_sendLargestSet_2 : decode cX4_sendLargestSet 2 = .ok (.iload_n 1, 1) := by decide +kernel
theorem dX4_sendLargestSet_3 : decode cX4_sendLargestSet 3 = .ok (.iconst 5, 1) := by decide +kernel
theorem dX4_sendLargestSet_4 : decode cX4_sendLargestSet 4 = .ok (.if_icmp .ge 24, 3) := by decide +kernel
theorem dX4_sendLargestSet_7 : decode cX4_sendLargestSet 7 = .ok (.aload_n 0, 1) := by decide +kernel
theorem dX4_sendLargestSet_8 : decode cX4_sendLargestSet 8 = .ok (.getfield 48, 3) := by decide +kernel
theorem dX4_sendLargestSet_11 : decode cX4_sendLargestSet 11 = .ok (.iload_n 1, 1) := by decide +kernel
theorem dX4_sendLargestSet_12 : decode cX4_sendLargestSet 12 = .ok (.aload_n 0, 1) := by decide +kernel
theorem dX4_sendLargestSet_13 : decode cX4_sendLargestSet 13 = .ok (.getfield 29, 3) := by decide +kernel
theorem dX4_sendLargestSet_16 : decode cX4_sendLargestSet 16 = .ok (.iload_n 1, 1) := by decide +kernel
theorem dX4_sendLargestSet_17 : decode cX4_sendLargestSet 17 = .ok (.iconst 0, 1) := by decide +kernel
theorem dX4_sendLargestSet_18 : decode cX4_sendLargestSet 18 = .ok (.invokevirtual 145, 3) := by decide +kernel
theorem dX4_sendLargestSet_21 : decode cX4_sendLargestSet 21 = .ok (.iastore, 1) := by decide +kernel
theorem dX4_sendLargestSet_22 : decode cX4_sendLargestSet 22 = .ok (.iinc 1 1, 3) := by decide +kernel
theorem dX4_sendLargestSet_25 : decode cX4_sendLargestSet 25 = .ok (.goto (-23), 3) := by decide +kernel
theorem dX4_sendLargestSet_28 : decode cX4_sendLargestSet 28 = .ok (.iconst 0, 1) := by decide +kernel
theorem dX4_sendLargestSet_29 : decode cX4_sendLargestSet 29 = .ok (.istore_n 1, 1) := by decide +kernel
theorem dX4_sendLargestSet_30 : decode cX4_sendLargestSet 30 = .ok (.iconst 1, 1) := by decide +kernel
theorem dX4_sendLargestSet_31 : decode cX4_sendLargestSet 31 = .ok (.istore_n 2, 1) := by decide +kernel
theorem dX4_sendLargestSet_32 : decode cX4_sendLargestSet 32 = .ok (.iload_n 2, 1) := by decide +kernel
theorem dX4_sendLargestSet_33 : decode cX4_sendLargestSet 33 = .ok (.bipush 32, 2) := by decide +kernel
theorem dX4_sendLargestSet_35 : decode cX4_sendLargestSet 35 = .ok (.if_icmp .ge 31, 3) := by decide +kernel
theorem dX4_sendLargestSet_38 : decode cX4_sendLargestSet 38 = .ok (.iload_n 2, 1) := by decide +kernel
theorem dX4_sendLargestSet_39 : decode cX4_sendLargestSet 39 = .ok (.invokestatic 245, 3) := by decide +kernel
theorem dX4_sendLargestSet_42 : decode cX4_sendLargestSet 42 = .ok (.iload_n 1, 1) := by decide +kernel
theorem dX4_sendLargestSet_43 : decode cX4_sendLargestSet 43 = .ok (.invokestatic 245, 3) := by decide +kernel
theorem dX4_sendLargestSet_46 : decode cX4_sendLargestSet 46 = .ok (.if_icmp .le 14, 3) := by decide +kernel
theorem dX4_sendLargestSet_49 : decode cX4_sendLargestSet 49 = .ok (.aload_n 0, 1) := by decide +kernel
theorem dX4_sendLargestSet_50 : decode cX4_sendLargestSet 50 = .ok (.iload_n 2, 1) := by decide +kernel
theorem dX4_sendLargestSet_51 : decode cX4_sendLargestSet 51 = .ok (.iconst 5, 1) := by decide +kernel
theorem dX4_sendLargestSet_52 : decode cX4_sendLargestSet 52 = .ok (.invokevirtual 157, 3) := by decide +kernel
theorem dX4_sendLargestSet_55 : decode cX4_sendLargestSet 55 = .ok (.ifCond .eq 5, 3) := by decide +kernel
theorem dX4_sendLargestSet_58 : decode cX4_sendLargestSet 58 = .ok (.iload_n 2, 1) := by decide +kernel
theorem dX4_sendLargestSet_59 : decode cX4_sendLargestSet 59 = .ok (.istore_n 1, 1) := by decide +kernel
theorem dX4_sendLargestSet_60 : decode cX4_sendLargestSet 60 = .ok (.iinc 2 1, 3) := by decide +kernel
theorem dX4_sendLargestSet_63 : decode cX4_sendLargestSet 63 = .ok (.goto (-31), 3) := by decide +kernel
theorem dX4_sendLargestSet_66 : decode cX4_sendLargestSet 66 = .ok (.iconst 0, 1) := by decide +kernel
theorem dX4_sendLargestSet_67 : decode cX4_sendLargestSet 67 = .ok (.istore_n 2, 1) := by decide +kernel
theorem dX4_sendLargestSet_68 : decode cX4_sendLargestSet 68 = .ok (.iload_n 2, 1) := by decide +kernel
theorem dX4_sendLargestSet_69 : decode cX4_sendLargestSet 69 = .ok (.iconst 5, 1) := by decide +kernel
theorem dX4_sendLargestSet_70 : decode cX4_sendLargestSet 70 = .ok (.if_icmp .ge 27, 3) := by decide +kernel
theorem dX4_sendLargestSet_73 : decode cX4_sendLargestSet 73 = .ok (.iload_n 1, 1) := by decide +kernel
theorem dX4_sendLargestSet_74 : decode cX4_sendLargestSet 74 = .ok (.iload_n 2, 1) := by decide +kernel
theorem dX4_sendLargestSet_75 : decode cX4_sendLargestSet 75 = .ok (.invokestatic 250, 3) := by decide +kernel
theorem dX4_sendLargestSet_78 : decode cX4_sendLargestSet 78 = .ok (.ifCond .eq 13, 3) := by decide +kernel
theorem dX4_sendLargestSet_81 : decode cX4_sendLargestSet 81 = .ok (.aload_n 0, 1) := by decide +kernel
theorem dX4_sendLargestSet_82 : decode cX4_sendLargestSet 82 = .ok (.aload_n 0, 1) := by decide +kernel
theorem dX4_sendLargestSet_83 : decode cX4_sendLargestSet 83 = .ok (.getfield 48, 3) := by decide +kernel
theorem dX4_sendLargestSet_86 : decode cX4_sendLargestSet 86 = .ok (.iload_n 2, 1) := by decide +kernel
theorem dX4_sendLargestSet_87 : decode cX4_sendLargestSet 87 = .ok (.iaload, 1) := by decide +kernel
theorem dX4_sendLargestSet_88 : decode cX4_sendLargestSet 88 = .ok (.invokevirtual 233, 3) := by decide +kernel
theorem dX4_sendLargestSet_91 : decode cX4_sendLargestSet 91 = .ok (.iinc 2 1, 3) := by decide +kernel
theorem dX4_sendLargestSet_94 : decode cX4_sendLargestSet 94 = .ok (.goto (-26), 3) := by decide +kernel
theorem dX4_sendLargestSet_97 : decode cX4_sendLargestSet 97 = .ok (.iload_n 1, 1) := by decide +kernel
theorem dX4_sendLargestSet_98 : decode cX4_sendLargestSet 98 = .ok (.invokestatic 245, 3) := by decide +kernel
theorem dX4_sendLargestSet_101 : decode cX4_sendLargestSet 101 = .ok (.ireturn, 1) := by decide +kernel
theorem dX4_listWaiting_0 : decode cX4_listWaiting 0 = .ok (.iconst 0, 1) := by decide +kernel
theorem dX4_listWaiting_1 : decode cX4_listWaiting 1 = .ok (.istore_n 1, 1) := by decide +kernel
theorem dX4_listWaiting_2 : decode cX4_listWaiting 2 = .ok (.iconst 0, 1) := by decide +kernel
theorem dX4_listWaiting_3 : decode cX4_listWaiting 3 = .ok (.istore_n 2, 1) := by decide +kernel
theorem dX4_listWaiting_4 : decode cX4_listWaiting 4 = .ok (.iload_n 2, 1) := by decide +kernel
theorem dX4_listWaiting_5 : decode cX4_listWaiting 5 = .ok (.aload_n 0, 1) := by decide +kernel
theorem dX4_listWaiting_6 : decode cX4_listWaiting 6 = .ok (.getfield 29, 3) := by decide +kernel
theorem dX4_listWaiting_9 : decode cX4_listWaiting 9 = .ok (.getfield 113, 3) := by decide +kernel
theorem dX4_listWaiting_12 : decode cX4_listWaiting 12 = .ok (.if_icmp .ge 37, 3) := by decide +kernel
theorem dX4_listWaiting_15 : decode cX4_listWaiting 15 = .ok (.iload_n 1, 1) := by decide +kernel
theorem dX4_listWaiting_16 : decode cX4_listWaiting 16 = .ok (.bipush 10, 2) := by decide +kernel
theorem dX4_listWaiting_18 : decode cX4_listWaiting 18 = .ok (.if_icmp .ge 31, 3) := by decide +kernel
theorem dX4_listWaiting_21 : decode cX4_listWaiting 21 = .ok (.aload_n 0, 1) := by decide +kernel
theorem dX4_listWaiting_22 : decode cX4_listWaiting 22 = .ok (.getfield 29, 3) := by decide +kernel
theorem dX4_listWaiting_25 : decode cX4_listWaiting 25 = .ok (.getfield 125, 3) := by decide +kernel
theorem dX4_listWaiting_28 : decode cX4_listWaiting 28 = .ok (.iload_n 2, 1) := by decide +kernel
theorem dX4_listWaiting_29 : decode cX4_listWaiting 29 = .ok (.baload, 1) := by decide +kernel
theorem dX4_listWaiting_30 : decode cX4_listWaiting 30 = .ok (.ifCond .eq 13, 3) := by decide +kernel
theorem dX4_listWaiting_33 : decode cX4_listWaiting 33 = .ok (.aload_n 0, 1) := by decide +kernel
theorem dX4_listWaiting_34 : decode cX4_listWaiting 34 = .ok (.getfield 48, 3) := by decide +kernel
theorem dX4_listWaiting_37 : decode cX4_listWaiting 37 = .ok (.iload_n 1, 1) := by decide +kernel
theorem dX4_listWaiting_38 : decode cX4_listWaiting 38 = .ok (.iload_n 2, 1) := by decide +kernel
theorem dX4_listWaiting_39 : decode cX4_listWaiting 39 = .ok (.iastore, 1) := by decide +kernel
theorem dX4_listWaiting_40 : decode cX4_listWaiting 40 = .ok (.iinc 1 1, 3) := by decide +kernel
theorem dX4_listWaiting_43 : decode cX4_listWaiting 43 = .ok (.iinc 2 1, 3) := by decide +kernel
theorem dX4_listWaiting_46 : decode cX4_listWaiting 46 = .ok (.goto (-42), 3) := by decide +kernel
theorem dX4_listWaiting_49 : decode cX4_listWaiting 49 = .ok (.iload_n 1, 1) := by decide +kernel
theorem dX4_listWaiting_50 : decode cX4_listWaiting 50 = .ok (.ireturn, 1) := by decide +kernel
theorem dX4_canGoTogether_0 : decode cX4_canGoTogether 0 = .ok (.aload_n 0, 1) := by decide +kernel
theorem dX4_canGoTogether_1 : decode cX4_canGoTogether 1 = .ok (.getfield 16, 3) := by decide +kernel
theorem dX4_canGoTogether_4 : decode cX4_canGoTogether 4 = .ok (.aload_n 0, 1) := by decide +kernel
theorem dX4_canGoTogether_5 : decode cX4_canGoTogether 5 = .ok (.getfield 10, 3) := by decide +kernel
theorem dX4_canGoTogether_8 : decode cX4_canGoTogether 8 = .ok (.invokevirtual 253, 3) := by decide +kernel
theorem dX4_canGoTogether_11 : decode cX4_canGoTogether 11 = .ok (.iconst 0, 1) := by decide +kernel
theorem dX4_canGoTogether_12 : decode cX4_canGoTogether 12 = .ok (.istore_n 3, 1) := by decide +kernel
theorem dX4_canGoTogether_13 : decode cX4_canGoTogether 13 = .ok (.iload_n 3, 1) := by decide +kernel
theorem dX4_canGoTogether_14 : decode cX4_canGoTogether 14 = .ok (.iload_n 2, 1) := by decide +kernel
theorem dX4_canGoTogether_15 : decode cX4_canGoTogether 15 = .ok (.if_icmp .ge 46, 3) := by decide +kernel
theorem dX4_canGoTogether_18 : decode cX4_canGoTogether 18 = .ok (.iload_n 1, 1) := by decide +kernel
theorem dX4_canGoTogether_19 : decode cX4_canGoTogether 19 = .ok (.iload_n 3, 1) := by decide +kernel
theorem dX4_canGoTogether_20 : decode cX4_canGoTogether 20 = .ok (.invokestatic 250, 3) := by decide +kernel
theorem dX4_canGoTogether_23 : decode cX4_canGoTogether 23 = .ok (.ifCond .eq 32, 3) := by decide +kernel
theorem dX4_canGoTogether_26 : decode cX4_canGoTogether 26 = .ok (.aload_n 0, 1) := by decide +kernel
theorem dX4_canGoTogether_27 : decode cX4_canGoTogether 27 = .ok (.getfield 48, 3) := by decide +kernel
theorem dX4_canGoTogether_30 : decode cX4_canGoTogether 30 = .ok (.iload_n 3, 1) := by decide +kernel
theorem dX4_canGoTogether_31 : decode cX4_canGoTogether 31 = .ok (.iaload, 1) := by decide +kernel
theorem dX4_canGoTogether_32 : decode cX4_canGoTogether 32 = .ok (.iconst (-1), 1) := by decide +kernel
theorem dX4_canGoTogether_33 : decode cX4_canGoTogether 33 = .ok (.if_icmp .ne 5, 3) := by decide +kernel
theorem dX4_canGoTogether_36 : decode cX4_canGoTogether 36 = .ok (.iconst 0, 1) := by decide +kernel
theorem dX4_canGoTogether_37 : decode cX4_canGoTogether 37 = .ok (.ireturn, 1) := by decide +kernel
theorem dX4_canGoTogether_38 : decode cX4_canGoTogether 38 = .ok (.aload_n 0, 1) := by decide +kernel
theorem dX4_canGoTogether_39 : decode cX4_canGoTogether 39 = .ok (.getfield 29, 3) := by decide +kernel
theorem dX4_canGoTogether_42 : decode cX4_canGoTogether 42 = .ok (.aload_n 0, 1) := by decide +kernel
theorem dX4_canGoTogether_43 : decode cX4_canGoTogether 43 = .ok (.getfield 48, 3) := by decide +kernel
theorem dX4_canGoTogether_46 : decode cX4_canGoTogether 46 = .ok (.iload_n 3, 1) := by decide +kernel
theorem dX4_canGoTogether_47 : decode cX4_canGoTogether 47 = .ok (.iaload, 1) := by decide +kernel
theorem dX4_canGoTogether_48 : decode cX4_canGoTogether 48 = .ok (.aload_n 0, 1) := by decide +kernel
theorem dX4_canGoTogether_49 : decode cX4_canGoTogether 49 = .ok (.getfield 16, 3) := by decide +kernel
theorem dX4_canGoTogether_52 : decode cX4_canGoTogether 52 = .ok (.invokevirtual 226, 3) := by decide +kernel
theorem dX4_canGoTogether_55 : decode cX4_canGoTogether 55 = .ok (.iinc 3 1, 3) := by decide +kernel
theorem dX4_canGoTogether_58 : decode cX4_canGoTogether 58 = .ok (.goto (-45), 3) := by decide +kernel
theorem dX4_canGoTogether_61 : decode cX4_canGoTogether 61 = .ok (.aload_n 0, 1) := by decide +kernel
theorem dX4_canGoTogether_62 : decode cX4_canGoTogether 62 = .ok (.getfield 22, 3) := by decide +kernel
theorem dX4_canGoTogether_65 : decode cX4_canGoTogether 65 = .ok (.aload_n 0, 1) := by decide +kernel
theorem dX4_canGoTogether_66 : decode cX4_canGoTogether 66 = .ok (.getfield 16, 3) := by decide +kernel
theorem dX4_canGoTogether_69 : decode cX4_canGoTogether 69 = .ok (.invokevirtual 257, 3) := by decide +kernel
theorem dX4_canGoTogether_72 : decode cX4_canGoTogether 72 = .ok (.ireturn, 1) := by decide +kernel
theorem dX4_isIn_0 : decode cX4_isIn 0 = .ok (.iload_n 0, 1) := by decide +kernel
theorem dX4_isIn_1 : decode cX4_isIn 1 = .ok (.iconst 1, 1) := by decide +kernel
theorem dX4_isIn_2 : decode cX4_isIn 2 = .ok (.iload_n 1, 1) := by decide +kernel
theorem dX4_isIn_3 : decode cX4_isIn 3 = .ok (.ishl, 1) := by decide +kernel
theorem dX4_isIn_4 : decode cX4_isIn 4 = .ok (.iand, 1) := by decide +kernel
theorem dX4_isIn_5 : decode cX4_isIn 5 = .ok (.ifCond .eq 7, 3) := by decide +kernel
theorem dX4_isIn_8 : decode cX4_isIn 8 = .ok (.iconst 1, 1) := by decide +kernel
theorem dX4_isIn_9 : decode cX4_isIn 9 = .ok (.goto 4, 3) := by decide +kernel
theorem dX4_isIn_12 : decode cX4_isIn 12 = .ok (.iconst 0, 1) := by decide +kernel
theorem dX4_isIn_13 : decode cX4_isIn 13 = .ok (.ireturn, 1) := by decide +kernel
theorem dX4_pledgeWorth_0 : decode cX4_pledgeWorth 0 = .ok (.iload_n 1, 1) := by decide +kernel
theorem dX4_pledgeWorth_1 : decode cX4_pledgeWorth 1 = .ok (.aload_n 0, 1) := by decide +kernel
theorem dX4_pledgeWorth_2 : decode cX4_pledgeWorth 2 = .ok (.getfield 55, 3) := by decide +kernel
theorem dX4_pledgeWorth_5 : decode cX4_pledgeWorth 5 = .ok (.imul, 1) := by decide +kernel
theorem dX4_pledgeWorth_6 : decode cX4_pledgeWorth 6 = .ok (.sipush 1000, 3) := by decide +kernel
theorem dX4_pledgeWorth_9 : decode cX4_pledgeWorth 9 = .ok (.aload_n 0, 1) := by decide +kernel
theorem dX4_pledgeWorth_10 : decode cX4_pledgeWorth 10 = .ok (.getfield 58, 3) := by decide +kernel
theorem dX4_pledgeWorth_13 : decode cX4_pledgeWorth 13 = .ok (.isub, 1) := by decide +kernel
theorem dX4_pledgeWorth_14 : decode cX4_pledgeWorth 14 = .ok (.imul, 1) := by decide +kernel
theorem dX4_pledgeWorth_15 : decode cX4_pledgeWorth 15 = .ok (.sipush 1000, 3) := by decide +kernel
theorem dX4_pledgeWorth_18 : decode cX4_pledgeWorth 18 = .ok (.idiv, 1) := by decide +kernel
theorem dX4_pledgeWorth_19 : decode cX4_pledgeWorth 19 = .ok (.ireturn, 1) := by decide +kernel
theorem dX4_canRepay_0 : decode cX4_canRepay 0 = .ok (.aload_n 0, 1) := by decide +kernel
theorem dX4_canRepay_1 : decode cX4_canRepay 1 = .ok (.getfield 36, 3) := by decide +kernel
theorem dX4_canRepay_4 : decode cX4_canRepay 4 = .ok (.getfield 183, 3) := by decide +kernel
theorem dX4_canRepay_7 : decode cX4_canRepay 7 = .ok (.iload_n 1, 1) := by decide +kernel
theorem dX4_canRepay_8 : decode cX4_canRepay 8 = .ok (.iaload, 1) := by decide +kernel
theorem dX4_canRepay_9 : decode cX4_canRepay 9 = .ok (.istore_n 2, 1) := by decide +kernel
theorem dX4_canRepay_10 : decode cX4_canRepay 10 = .ok (.aload_n 0, 1) := by decide +kernel
theorem dX4_canRepay_11 : decode cX4_canRepay 11 = .ok (.getfield 40, 3) := by decide +kernel
theorem dX4_canRepay_14 : decode cX4_canRepay 14 = .ok (.iload_n 2, 1) := by decide +kernel
theorem dX4_canRepay_15 : decode cX4_canRepay 15 = .ok (.baload, 1) := by decide +kernel
theorem dX4_canRepay_16 : decode cX4_canRepay 16 = .ok (.ifCond .ne 38, 3) := by decide +kernel
theorem dX4_canRepay_19 : decode cX4_canRepay 19 = .ok (.aload_n 0, 1) := by decide +kernel
theorem dX4_canRepay_20 : decode cX4_canRepay 20 = .ok (.getfield 10, 3) := by decide +kernel
theorem dX4_canRepay_23 : decode cX4_canRepay 23 = .ok (.getfield 73, 3) := by decide +kernel
theorem dX4_canRepay_26 : decode cX4_canRepay 26 = .ok (.iload_n 2, 1) := by decide +kernel
theorem dX4_canRepay_27 : decode cX4_canRepay 27 = .ok (.iaload, 1) := by decide +kernel
theorem dX4_canRepay_28 : decode cX4_canRepay 28 = .ok (.aload_n 0, 1) := by decide +kernel
theorem dX4_canRepay_29 : decode cX4_canRepay 29 = .ok (.getfield 36, 3) := by decide +kernel
theorem dX4_canRepay_32 : decode cX4_canRepay 32 = .ok (.getfield 261, 3) := by decide +kernel
theorem dX4_canRepay_35 : decode cX4_canRepay 35 = .ok (.iload_n 1, 1) := by decide +kernel
theorem dX4_canRepay_36 : decode cX4_canRepay 36 = .ok (.iaload, 1) := by decide +kernel
theorem dX4_canRepay_37 : decode cX4_canRepay 37 = .ok (.isub, 1) := by decide +kernel
theorem dX4_canRepay_38 : decode cX4_canRepay 38 = .ok (.aload_n 0, 1) := by decide +kernel
theorem dX4_canRepay_39 : decode cX4_canRepay 39 = .ok (.getfield 22, 3) := by decide +kernel
theorem dX4_canRepay_42 : decode cX4_canRepay 42 = .ok (.getfield 91, 3) := by decide +kernel
theorem dX4_canRepay_45 : decode cX4_canRepay 45 = .ok (.iload_n 2, 1) := by decide +kernel
theorem dX4_canRepay_46 : decode cX4_canRepay 46 = .ok (.iaload, 1) := by decide +kernel
theorem dX4_canRepay_47 : decode cX4_canRepay 47 = .ok (.if_icmp .lt 7, 3) := by decide +kernel
theorem dX4_canRepay_50 : decode cX4_canRepay 50 = .ok (.iconst 1, 1) := by decide +kernel
theorem dX4_canRepay_51 : decode cX4_canRepay 51 = .ok (.goto 4, 3) := by decide +kernel
theorem dX4_canRepay_54 : decode cX4_canRepay 54 = .ok (.iconst 0, 1) := by decide +kernel
theorem dX4_canRepay_55 : decode cX4_canRepay 55 = .ok (.ireturn, 1) := by decide +kernel
theorem dX4_repay_0 : decode cX4_repay 0 = .ok (.aload_n 0, 1) := by decide +kernel
theorem dX4_repay_1 : decode cX4_repay 1 = .ok (.getfield 36, 3) := by decide +kernel
theorem dX4_repay_4 : decode cX4_repay 4 = .ok (.getfield 183, 3) := by decide +kernel
theorem dX4_repay_7 : decode cX4_repay 7 = .ok (.iload_n 1, 1) := by decide +kernel
theorem dX4_repay_8 : decode cX4_repay 8 = .ok (.iaload, 1) := by decide +kernel
theorem dX4_repay_9 : decode cX4_repay 9 = .ok (.istore_n 2, 1) := by decide +kernel
theorem dX4_repay_10 : decode cX4_repay 10 = .ok (.aload_n 0, 1) := by decide +kernel
theorem dX4_repay_11 : decode cX4_repay 11 = .ok (.getfield 10, 3) := by decide +kernel
theorem dX4_repay_14 : decode cX4_repay 14 = .ok (.iload_n 2, 1) := by decide +kernel
theorem dX4_repay_15 : decode cX4_repay 15 = .ok (.aload_n 0, 1) := by decide +kernel
theorem dX4_repay_16 : decode cX4_repay 16 = .ok (.getfield 36, 3) := by decide +kernel
theorem dX4_repay_19 : decode cX4_repay 19 = .ok (.getfield 264, 3) := by decide +kernel
theorem dX4_repay_22 : decode cX4_repay 22 = .ok (.iload_n 1, 1) := by decide +kernel
theorem dX4_repay_23 : decode cX4_repay 23 = .ok (.iaload, 1) := by decide +kernel
theorem dX4_repay_24 : decode cX4_repay 24 = .ok (.aload_n 0, 1) := by decide +kernel
theorem dX4_repay_25 : decode cX4_repay 25 = .ok (.getfield 36, 3) := by decide +kernel
theorem dX4_repay_28 : decode cX4_repay 28 = .ok (.getfield 261, 3) := by decide +kernel
theorem dX4_repay_31 : decode cX4_repay 31 = .ok (.iload_n 1, 1) := by decide +kernel
theorem dX4_repay_32 : decode cX4_repay 32 = .ok (.iaload, 1) := by decide +kernel
theorem dX4_repay_33 : decode cX4_repay 33 = .ok (.invokevirtual 165, 3) := by decide +kernel
theorem dX4_repay_36 : decode cX4_repay 36 = .ok (.aload_n 0, 1) := by decide +kernel
theorem dX4_repay_37 : decode cX4_repay 37 = .ok (.getfield 44, 3) := by decide +kernel
theorem dX4_repay_40 : decode cX4_repay 40 = .ok (.iload_n 2, 1) := by decide +kernel
theorem dX4_repay_41 : decode cX4_repay 41 = .ok (.dup2, 1) := by decide +kernel
theorem dX4_repay_42 : decode cX4_repay 42 = .ok (.iaload, 1) := by decide +kernel
theorem dX4_repay_43 : decode cX4_repay 43 = .ok (.aload_n 0, 1) := by decide +kernel
theorem dX4_repay_44 : decode cX4_repay 44 = .ok (.getfield 36, 3) := by decide +kernel
theorem dX4_repay_47 : decode cX4_repay 47 = .ok (.getfield 267, 3) := by decide +kernel
theorem dX4_repay_50 : decode cX4_repay 50 = .ok (.iload_n 1, 1) := by decide +kernel
theorem dX4_repay_51 : decode cX4_repay 51 = .ok (.iaload, 1) := by decide +kernel
theorem dX4_repay_52 : decode cX4_repay 52 = .ok (.iadd, 1) := by decide +kernel
theorem dX4_repay_53 : decode cX4_repay 53 = .ok (.iastore, 1) := by decide +kernel
theorem dX4_repay_54 : decode cX4_repay 54 = .ok (.return_, 1) := by decide +kernel
theorem dX4_close_0 : decode cX4_close 0 = .ok (.aload_n 0, 1) := by decide +kernel
theorem dX4_close_1 : decode cX4_close 1 = .ok (.getfield 40, 3) := by decide +kernel
theorem dX4_close_4 : decode cX4_close 4 = .ok (.iload_n 1, 1) := by decide +kernel
theorem dX4_close_5 : decode cX4_close 5 = .ok (.baload, 1) := by decide +kernel
theorem dX4_close_6 : decode cX4_close 6 = .ok (.ifCond .eq 5, 3) := by decide +kernel
theorem dX4_close_9 : decode cX4_close 9 = .ok (.iconst 0, 1) := by decide +kernel
theorem dX4_close_10 : decode cX4_close 10 = .ok (.ireturn, 1) := by decide +kernel
theorem dX4_close_11 : decode cX4_close 11 = .ok (.aload_n 0, 1) := by decide +kernel
theorem dX4_close_12 : decode cX4_close 12 = .ok (.getfield 40, 3) := by decide +kernel
theorem dX4_close_15 : decode cX4_close 15 = .ok (.iload_n 1, 1) := by decide +kernel
theorem dX4_close_16 : decode cX4_close 16 = .ok (.iconst 1, 1) := by decide +kernel
theorem dX4_close_17 : decode cX4_close 17 = .ok (.bastore, 1) := by decide +kernel
theorem dX4_close_18 : decode cX4_close 18 = .ok (.aload_n 0, 1) := by decide +kernel
theorem dX4_close_19 : decode cX4_close 19 = .ok (.getfield 29, 3) := by decide +kernel
theorem dX4_close_22 : decode cX4_close 22 = .ok (.iload_n 1, 1) := by decide +kernel
theorem dX4_close_23 : decode cX4_close 23 = .ok (.invokevirtual 270, 3) := by decide +kernel
theorem dX4_close_26 : decode cX4_close 26 = .ok (.iconst 1, 1) := by decide +kernel
theorem dX4_close_27 : decode cX4_close 27 = .ok (.ireturn, 1) := by decide +kernel
theorem dX4_sellPledge_0 : decode cX4_sellPledge 0 = .ok (.aload_n 0, 1) := by decide +kernel
theorem dX4_sellPledge_1 : decode cX4_sellPledge 1 = .ok (.getfield 36, 3) := by decide +kernel
theorem dX4_sellPledge_4 : decode cX4_sellPledge 4 = .ok (.getfield 267, 3) := by decide +kernel
theorem dX4_sellPledge_7 : decode cX4_sellPledge 7 = .ok (.iload_n 1, 1) := by decide +kernel
theorem dX4_sellPledge_8 : decode cX4_sellPledge 8 = .ok (.iaload, 1) := by decide +kernel
theorem dX4_sellPledge_9 : decode cX4_sellPledge 9 = .ok (.aload_n 0, 1) := by decide +kernel
theorem dX4_sellPledge_10 : decode cX4_sellPledge 10 = .ok (.getfield 55, 3) := by decide +kernel
theorem dX4_sellPledge_13 : decode cX4_sellPledge 13 = .ok (.imul, 1) := by decide +kernel
theorem dX4_sellPledge_14 : decode cX4_sellPledge 14 = .ok (.istore_n 2, 1) := by decide +kernel
theorem dX4_sellPledge_15 : decode cX4_sellPledge 15 = .ok (.iload_n 2, 1) := by decide +kernel
theorem dX4_sellPledge_16 : decode cX4_sellPledge 16 = .ok (.aload_n 0, 1) := by decide +kernel
theorem dX4_sellPledge_17 : decode cX4_sellPledge 17 = .ok (.getfield 36, 3) := by decide +kernel
theorem dX4_sellPledge_20 : decode cX4_sellPledge 20 = .ok (.getfield 261, 3) := by decide +kernel
theorem dX4_sellPledge_23 : decode cX4_sellPledge 23 = .ok (.iload_n 1, 1) := by decide +kernel
theorem dX4_sellPledge_24 : decode cX4_sellPledge 24 = .ok (.iaload, 1) := by decide +kernel
theorem dX4_sellPledge_25 : decode cX4_sellPledge 25 = .ok (.invokestatic 85, 3) := by decide +kernel
theorem dX4_sellPledge_28 : decode cX4_sellPledge 28 = .ok (.istore_n 3, 1) := by decide +kernel
theorem dX4_sellPledge_29 : decode cX4_sellPledge 29 = .ok (.aload_n 0, 1) := by decide +kernel
theorem dX4_sellPledge_30 : decode cX4_sellPledge 30 = .ok (.getfield 10, 3) := by decide +kernel
theorem dX4_sellPledge_33 : decode cX4_sellPledge 33 = .ok (.getfield 73, 3) := by decide +kernel
theorem dX4_sellPledge_36 : decode cX4_sellPledge 36 = .ok (.aload_n 0, 1) := by decide +kernel
theorem dX4_sellPledge_37 : decode cX4_sellPledge 37 = .ok (.getfield 36, 3) := by decide +kernel
theorem dX4_sellPledge_40 : decode cX4_sellPledge 40 = .ok (.getfield 264, 3) := by decide +kernel
theorem dX4_sellPledge_43 : decode cX4_sellPledge 43 = .ok (.iload_n 1, 1) := by decide +kernel
theorem dX4_sellPledge_44 : decode cX4_sellPledge 44 = .ok (.iaload, 1) := by decide +kernel
theorem dX4_sellPledge_45 : decode cX4_sellPledge 45 = .ok (.dup2, 1) := by decide +kernel
theorem dX4_sellPledge_46 : decode cX4_sellPledge 46 = .ok (.iaload, 1) := by decide +kernel
theorem dX4_sellPledge_47 : decode cX4_sellPledge 47 = .ok (.iload_n 3, 1) := by decide +kernel
theorem dX4_sellPledge_48 : decode cX4_sellPledge 48 = .ok (.iadd, 1) := by decide +kernel
theorem dX4_sellPledge_49 : decode cX4_sellPledge 49 = .ok (.iastore, 1) := by decide +kernel
theorem dX4_sellPledge_50 : decode cX4_sellPledge 50 = .ok (.aload_n 0, 1) := by decide +kernel
theorem dX4_sellPledge_51 : decode cX4_sellPledge 51 = .ok (.getfield 10, 3) := by decide +kernel
theorem dX4_sellPledge_54 : decode cX4_sellPledge 54 = .ok (.getfield 73, 3) := by decide +kernel
theorem dX4_sellPledge_57 : decode cX4_sellPledge 57 = .ok (.aload_n 0, 1) := by decide +kernel
theorem dX4_sellPledge_58 : decode cX4_sellPledge 58 = .ok (.getfield 36, 3) := by decide +kernel
theorem dX4_sellPledge_61 : decode cX4_sellPledge 61 = .ok (.getfield 183, 3) := by decide +kernel
theorem dX4_sellPledge_64 : decode cX4_sellPledge 64 = .ok (.iload_n 1, 1) := by decide +kernel
theorem dX4_sellPledge_65 : decode cX4_sellPledge 65 = .ok (.iaload, 1) := by decide +kernel
theorem dX4_sellPledge_66 : decode cX4_sellPledge 66 = .ok (.dup2, 1) := by decide +kernel
theorem dX4_sellPledge_67 : decode cX4_sellPledge 67 = .ok (.iaload, 1) := by decide +kernel
theorem dX4_sellPledge_68 : decode cX4_sellPledge 68 = .ok (.iload_n 2, 1) := by decide +kernel
theorem dX4_sellPledge_69 : decode cX4_sellPledge 69 = .ok (.iload_n 3, 1) := by decide +kernel
theorem dX4_sellPledge_70 : decode cX4_sellPledge 70 = .ok (.isub, 1) := by decide +kernel
theorem dX4_sellPledge_71 : decode cX4_sellPledge 71 = .ok (.iadd, 1) := by decide +kernel
theorem dX4_sellPledge_72 : decode cX4_sellPledge 72 = .ok (.iastore, 1) := by decide +kernel
theorem dX4_sellPledge_73 : decode cX4_sellPledge 73 = .ok (.aload_n 0, 1) := by decide +kernel
theorem dX4_sellPledge_74 : decode cX4_sellPledge 74 = .ok (.dup, 1) := by decide +kernel
theorem dX4_sellPledge_75 : decode cX4_sellPledge 75 = .ok (.getfield 192, 3) := by decide +kernel
theorem dX4_sellPledge_78 : decode cX4_sellPledge 78 = .ok (.iload_n 2, 1) := by decide +kernel
theorem dX4_sellPledge_79 : decode cX4_sellPledge 79 = .ok (.iadd, 1) := by decide +kernel
theorem dX4_sellPledge_80 : decode cX4_sellPledge 80 = .ok (.putfield 192, 3) := by decide +kernel
theorem dX4_sellPledge_83 : decode cX4_sellPledge 83 = .ok (.return_, 1) := by decide +kernel
