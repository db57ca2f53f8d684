theorem dX7_init_0 : decode cX7_init 0 = .ok (.aload_n 0, 1) := by decide +kernel
theorem dX7_init_1 : decode cX7_init 1 = .ok (.invokespecial 5, 3) := by decide +kernel
theorem dX7_init_4 : decode cX7_init 4 = .ok (.aload_n 0, 1) := by decide +kernel
theorem dX7_init_5 : decode cX7_init 5 = .ok (.new 11, 3) := by decide +kernel
theorem dX7_init_8 : decode cX7_init 8 = .ok (.dup, 1) := by decide +kernel
theorem dX7_init_9 : decode cX7_init 9 = .ok (.invokespecial 13, 3) := by decide +kernel
theorem dX7_init_12 : decode cX7_init 12 = .ok (.putfield 14, 3) := by decide +kernel
theorem dX7_init_15 : decode cX7_init 15 = .ok (.aload_n 0, 1) := by decide +kernel
theorem dX7_init_16 : decode cX7_init 16 = .ok (.new 11, 3) := by decide +kernel
theorem dX7_init_19 : decode cX7_init 19 = .ok (.dup, 1) := by decide +kernel
theorem dX7_init_20 : decode cX7_init 20 = .ok (.invokespecial 13, 3) := by decide +kernel
theorem dX7_init_23 : decode cX7_init 23 = .ok (.putfield 18, 3) := by decide +kernel
theorem dX7_init_26 : decode cX7_init 26 = .ok (.aload_n 0, 1) := by decide +kernel
theorem dX7_init_27 : decode cX7_init 27 = .ok (.iconst 0, 1) := by decide +kernel
theorem dX7_init_28 : decode cX7_init 28 = .ok (.putfield 21, 3) := by decide +kernel
theorem dX7_init_31 : decode cX7_init 31 = .ok (.aload_n 0, 1) := by decide +kernel
theorem dX7_init_32 : decode cX7_init 32 = .ok (.new 25, 3) := by decide +kernel
theorem dX7_init_35 : decode cX7_init 35 = .ok (.dup, 1) := by decide +kernel
theorem dX7_init_36 : decode cX7_init 36 = .ok (.invokespecial 27, 3) := by decide +kernel
theorem dX7_init_39 : decode cX7_init 39 = .ok (.putfield 28, 3) := by decide +kernel
theorem dX7_init_42 : decode cX7_init 42 = .ok (.aload_n 0, 1) := by decide +kernel
theorem dX7_init_43 : decode cX7_init 43 = .ok (.new 32, 3) := by decide +kernel
theorem dX7_init_46 : decode cX7_init 46 = .ok (.dup, 1) := by decide +kernel
theorem dX7_init_47 : decode cX7_init 47 = .ok (.invokespecial 34, 3) := by decide +kernel
theorem dX7_init_50 : decode cX7_init 50 = .ok (.putfield 35, 3) := by decide +kernel
theorem dX7_init_53 : decode cX7_init 53 = .ok (.aload_n 0, 1) := by decide +kernel
theorem dX7_init_54 : decode cX7_init 54 = .ok (.new 32, 3) := by decide +kernel
theorem dX7_init_57 : decode cX7_init 57 = .ok (.dup, 1) := by decide +kernel
theorem dX7_init_58 : decode cX7_init 58 = .ok (.invokespecial 34, 3) := by decide +kernel
theorem dX7_init_61 : decode cX7_init 61 = .ok (.putfield 39, 3) := by decide +kernel
theorem dX7_init_64 : decode cX7_init 64 = .ok (.aload_n 0, 1) := by decide +kernel
theorem dX7_init_65 : decode cX7_init 65 = .ok (.bipush 61, 2) := by decide +kernel
theorem dX7_init_67 : decode cX7_init 67 = .ok (.newarray .long, 2) := by decide +kernel
theorem dX7_init_69 : decode cX7_init 69 = .ok (.putfield 42, 3) := by decide +kernel
theorem dX7_init_72 : decode cX7_init 72 = .ok (.aload_n 0, 1) := by decide +kernel
theorem dX7_init_73 : decode cX7_init 73 = .ok (.new 46, 3) := by decide +kernel
theorem dX7_init_76 : decode cX7_init 76 = .ok (.dup, 1) := by decide +kernel
theorem dX7_init_77 : decode cX7_init 77 = .ok (.invokespecial 48, 3) := by decide +kernel
theorem dX7_init_80 : decode cX7_init 80 = .ok (.putfield 49, 3) := by decide +kernel
theorem dX7_init_83 : decode cX7_init 83 = .ok (.aload_n 0, 1) := by decide +kernel
theorem dX7_init_84 : decode cX7_init 84 = .ok (.new 53, 3) := by decide +kernel
theorem dX7_init_87 : decode cX7_init 87 = .ok (.dup, 1) := by decide +kernel
theorem dX7_init_88 : decode cX7_init 88 = .ok (.invokespecial 55, 3) := by decide +kernel
theorem dX7_init_91 : decode cX7_init 91 = .ok (.putfield 56, 3) := by decide +kernel
theorem dX7_init_94 : decode cX7_init 94 = .ok (.aload_n 0, 1) := by decide +kernel
theorem dX7_init_95 : decode cX7_init 95 = .ok (.new 60, 3) := by decide +kernel
theorem dX7_init_98 : decode cX7_init 98 = .ok (.dup, 1) := by decide +kernel
theorem dX7_init_99 : decode cX7_init 99 = .ok (.invokespecial 62, 3) := by decide +kernel
theorem dX7_init_102 : decode cX7_init 102 = .ok (.putfield 63, 3) := by decide +kernel
theorem dX7_init_105 : decode cX7_init 105 = .ok (.aload_n 0, 1) := by decide +kernel
theorem dX7_init_106 : decode cX7_init 106 = .ok (.iconst 4, 1) := by decide +kernel
theorem dX7_init_107 : decode cX7_init 107 = .ok (.anewarray 67, 3) := by decide +kernel
theorem dX7_init_110 : decode cX7_init 110 = .ok (.putfield 69, 3) := by decide +kernel
theorem dX7_init_113 : decode cX7_init 113 = .ok (.iconst 0, 1) := by decide +kernel
theorem dX7_init_114 : decode cX7_init 114 = .ok (.istore_n 1, 1) := by decide +kernel
theorem dX7_init_115 : decode cX7_init 115 = .ok (.iload_n 1, 1) := by decide +kernel
theorem dX7_init_116 : decode cX7_init 116 = .ok (.iconst 4, 1) := by decide +kernel
theorem dX7_init_117 : decode cX7_init 117 = .ok (.if_icmp .ge 22, 3) := by decide +kernel
theorem dX7_init_120 : decode cX7_init 120 = .ok (.aload_n 0, 1) := by decide +kernel
theorem dX7_init_121 : decode cX7_init 121 = .ok (.getfield 69, 3) := by decide +kernel
theorem dX7_init_124 : decode cX7_init 124 = .ok (.iload_n 1, 1) := by decide +kernel
theorem dX7_init_125 : decode cX7_init 125 = .ok (.new 67, 3) := by decide +kernel
theorem dX7_init_128 : decode cX7_init 128 = .ok (.dup, 1) := by decide +kernel
theorem dX7_init_129 : decode cX7_init 129 = .ok (.invokespecial 73, 3) := by decide +kernel
theorem dX7_init_132 : decode cX7_init 132 = .ok (.aastore, 1) := by decide +kernel
theorem dX7_init_133 : decode cX7_init 133 = .ok (.iinc 1 1, 3) := by decide +kernel
theorem dX7_init_136 : decode cX7_init 136 = .ok (.goto (-21), 3) := by decide +kernel
theorem dX7_init_139 : decode cX7_init 139 = .ok (.aload_n 0, 1) := by decide +kernel
theorem dX7_init_140 : decode cX7_init 140 = .ok (.bipush 12, 2) := by decide +kernel
theorem dX7_init_142 : decode cX7_init 142 = .ok (.invokevirtual 74, 3) := by decide +kernel
theorem dX7_init_145 : decode cX7_init 145 = .ok (.return_, 1) := by decide +kernel
theorem dX7_reset_0 : decode cX7_reset 0 = .ok (.iload_n 1, 1) := by decide +kernel
theorem dX7_reset_1 : decode cX7_reset 1 = .ok (.iconst 4, 1) := by decide +kernel
theorem dX7_reset_2 : decode cX7_reset 2 = .ok (.if_icmp .lt 9, 3) := by decide +kernel
theorem dX7_reset_5 : decode cX7_reset 5 = .ok (.iload_n 1, 1) := by decide +kernel
theorem dX7_reset_6 : decode cX7_reset 6 = .ok (.bipush 24, 2) := by decide +kernel
theorem dX7_reset_8 : decode cX7_reset 8 = .ok (.if_icmp .le 5, 3) := by decide +kernel
theorem dX7_reset_11 : decode cX7_reset 11 = .ok (.iconst (-1), 1) := by decide +kernel
theorem dX7_reset_12 : decode cX7_reset 12 = .ok (.ireturn, 1) := by decide +kernel
theorem dX7_reset_13 : decode cX7_reset 13 = .ok (.aload_n 0, 1) := by decide +kernel
theorem dX7_reset_14 : decode cX7_reset 14 = .ok (.getfield 14, 3) := by decide +kernel
theorem dX7_reset_17 : decode cX7_reset 17 = .ok (.getfield 78, 3) := by decide +kernel
theorem dX7_reset_20 : decode cX7_reset 20 = .ok (.istore_n 2, 1) := by decide +kernel
theorem dX7_reset_21 : decode cX7_reset 21 = .ok (.aload_n 0, 1) := by decide +kernel
theorem dX7_reset_22 : decode cX7_reset 22 = .ok (.iload_n 1, 1) := by decide +kernel
theorem dX7_reset_23 : decode cX7_reset 23 = .ok (.invokevirtual 74, 3) := by decide +kernel
theorem dX7_reset_26 : decode cX7_reset 26 = .ok (.iload_n 2, 1) := by decide +kernel
theorem dX7_reset_27 : decode cX7_reset 27 = .ok (.ireturn, 1) := by decide +kernel
theorem dX7_precision_0 : decode cX7_precision 0 = .ok (.aload_n 0, 1) := by decide +kernel
theorem dX7_precision_1 : decode cX7_precision 1 = .ok (.getfield 14, 3) := by decide +kernel
theorem dX7_precision_4 : decode cX7_precision 4 = .ok (.getfield 78, 3) := by decide +kernel
theorem dX7_precision_7 : decode cX7_precision 7 = .ok (.ireturn, 1) := by decide +kernel
theorem dX7_setCoefficient_0 : decode cX7_setCoefficient 0 = .ok (.iload_n 1, 1) := by decide +kernel
theorem dX7_setCoefficient_1 : decode cX7_setCoefficient 1 = .ok (.invokestatic 82, 3) := by decide +kernel
theorem dX7_setCoefficient_4 : decode cX7_setCoefficient 4 = .ok (.ifCond .ne 6, 3) := by decide +kernel
theorem dX7_setCoefficient_7 : decode cX7_setCoefficient 7 = .ok (.bipush (-2), 2) := by decide +kernel
theorem dX7_setCoefficient_9 : decode cX7_setCoefficient 9 = .ok (.ireturn, 1) := by decide +kernel
theorem dX7_setCoefficient_10 : decode cX7_setCoefficient 10 = .ok (.aload_n 0, 1) := by decide +kernel
theorem dX7_setCoefficient_11 : decode cX7_setCoefficient 11 = .ok (.iload_n 2, 1) := by decide +kernel
theorem dX7_setCoefficient_12 : decode cX7_setCoefficient 12 = .ok (.invokevirtual 86, 3) := by decide +kernel
theorem dX7_setCoefficient_15 : decode cX7_setCoefficient 15 = .ok (.ifCond .ne 5, 3) := by decide +kernel
theorem dX7_setCoefficient_18 : decode cX7_setCoefficient 18 = .ok (.iconst (-1), 1) := by decide +kernel
theorem dX7_setCoefficient_19 : decode cX7_setCoefficient 19 = .ok (.ireturn, 1) := by decide +kernel
theorem dX7_setCoefficient_20 : decode cX7_setCoefficient 20 = .ok (.iload_n 3, 1) := by decide +kernel
theorem dX7_setCoefficient_21 : decode cX7_setCoefficient 21 = .ok (.ldc 89, 2) := by decide +kernel
theorem dX7_setCoefficient_23 : decode cX7_setCoefficient 23 = .ok (.if_icmp .lt 9, 3) := by decide +kernel
theorem dX7_setCoefficient_26 : decode cX7_setCoefficient 26 = .ok (.iload_n 3, 1) := by decide +kernel
theorem dX7_setCoefficient_27 : decode cX7_setCoefficient 27 = .ok (.ldc 90, 2) := by decide +kernel
theorem dX7_setCoefficient_29 : decode cX7_setCoefficient 29 = .ok (.if_icmp .le 6, 3) := by decide +kernel
theorem dX7_setCoefficient_32 : decode cX7_setCoefficient 32 = .ok (.bipush (-3), 2) := by decide +kernel
theorem dX7_setCoefficient_34 : decode cX7_setCoefficient 34 = .ok (.ireturn, 1) := by decide +kernel
theorem dX7_setCoefficient_35 : decode cX7_setCoefficient 35 = .ok (.aload_n 0, 1) := by decide +kernel
theorem dX7_setCoefficient_36 : decode cX7_setCoefficient 36 = .ok (.getfield 14, 3) := by decide +kernel
theorem dX7_setCoefficient_39 : decode cX7_setCoefficient 39 = .ok (.getfield 91, 3) := by decide +kernel
theorem dX7_setCoefficient_42 : decode cX7_setCoefficient 42 = .ok (.iload_n 1, 1) := by decide +kernel
theorem dX7_setCoefficient_43 : decode cX7_setCoefficient 43 = .ok (.aaload, 1) := by decide +kernel
theorem dX7_setCoefficient_44 : decode cX7_setCoefficient 44 = .ok (.astore 4, 2) := by decide +kernel
theorem dX7_setCoefficient_46 : decode cX7_setCoefficient 46 = .ok (.aload 4, 2) := by decide +kernel
theorem dX7_setCoefficient_48 : decode cX7_setCoefficient 48 = .ok (.iload_n 2, 1) := by decide +kernel
theorem dX7_setCoefficient_49 : decode cX7_setCoefficient 49 = .ok (.iaload, 1) := by decide +kernel
theorem dX7_setCoefficient_50 : decode cX7_setCoefficient 50 = .ok (.iload_n 3, 1) := by decide +kernel
theorem dX7_setCoefficient_51 : decode cX7_setCoefficient 51 = .ok (.if_icmp .ne 5, 3) := by decide +kernel
theorem dX7_setCoefficient_54 : decode cX7_setCoefficient 54 = .ok (.iconst 0, 1) := by decide +kernel
theorem dX7_setCoefficient_55 : decode cX7_setCoefficient 55 = .ok (.ireturn, 1) := by decide +kernel
theorem dX7_setCoefficient_56 : decode cX7_setCoefficient 56 = .ok (.aload 4, 2) := by decide +kernel
theorem dX7_setCoefficient_58 : decode cX7_setCoefficient 58 = .ok (.iload_n 2, 1) := by decide +kernel
theorem dX7_setCoefficient_59 : decode cX7_setCoefficient 59 = .ok (.iload_n 3, 1) := by decide +kernel
theorem dX7_setCoefficient_60 : decode cX7_setCoefficient 60 = .ok (.iastore, 1) := by decide +kernel
theorem dX7_setCoefficient_61 : decode cX7_setCoefficient 61 = .ok (.iconst 1, 1) := by decide +kernel
theorem dX7_setCoefficient_62 : decode cX7_setCoefficient 62 = .ok (.ireturn, 1) := by decide +kernel
theorem dX7_coefficient_0 : decode cX7_coefficient 0 = .ok (.iload_n 1, 1) := by decide +kernel
theorem dX7_coefficient_1 : decode cX7_coefficient 1 = .ok (.invokestatic 82, 3) := by decide +kernel
theorem dX7_coefficient_4 : decode cX7_coefficient 4 = .ok (.ifCond .eq 11, 3) := by decide +kernel
theorem dX7_coefficient_7 : decode cX7_coefficient 7 = .ok (.aload_n 0, 1) := by decide +kernel
theorem dX7_coefficient_8 : decode cX7_coefficient 8 = .ok (.iload_n 2, 1) := by decide +kernel
theorem dX7_coefficient_9 : decode cX7_coefficient 9 = .ok (.invokevirtual 86, 3) := by decide +kernel
theorem dX7_coefficient_12 : decode cX7_coefficient 12 = .ok (.ifCond .ne 7, 3) := by decide +kernel
theorem dX7_coefficient_15 : decode cX7_coefficient 15 = .ok (.ldc2_w 95, 3) := by decide +kernel
theorem dX7_coefficient_18 : decode cX7_coefficient 18 = .ok (.lreturn, 1) := by decide +kernel
theorem dX7_coefficient_19 : decode cX7_coefficient 19 = .ok (.aload_n 0, 1) := by decide +kernel
theorem dX7_coefficient_20 : decode cX7_coefficient 20 = .ok (.getfield 14, 3) := by decide +kernel
theorem dX7_coefficient_23 : decode cX7_coefficient 23 = .ok (.getfield 91, 3) := by decide +kernel
theorem dX7_coefficient_26 : decode cX7_coefficient 26 = .ok (.iload_n 1, 1) := by decide +kernel
theorem dX7_coefficient_27 : decode cX7_coefficient 27 = .ok (.aaload, 1) := by decide +kernel
theorem dX7_coefficient_28 : decode cX7_coefficient 28 = .ok (.iload_n 2, 1) := by decide +kernel
theorem dX7_coefficient_29 : decode cX7_coefficient 29 = .ok (.iaload, 1) := by decide +kernel
theorem dX7_coefficient_30 : decode cX7_coefficient 30 = .ok (.i2l, 1) := by decide +kernel
theorem dX7_coefficient_31 : decode cX7_coefficient 31 = .ok (.lreturn, 1) := by decide +kernel
theorem dX7_order_0 : decode cX7_order 0 = .ok (.iload_n 1, 1) := by decide +kernel
theorem dX7_order_1 : decode cX7_order 1 = .ok (.invokestatic 82, 3) := by decide +kernel
theorem dX7_order_4 : decode cX7_order 4 = .ok (.ifCond .ne 6, 3) := by decide +kernel
theorem dX7_order_7 : decode cX7_order 7 = .ok (.bipush (-2), 2) := by decide +kernel
theorem dX7_order_9 : decode cX7_order 9 = .ok (.ireturn, 1) := by decide +kernel
theorem dX7_order_10 : decode cX7_order 10 = .ok (.aload_n 0, 1) := by decide +kernel
theorem dX7_order_11 : decode cX7_order 11 = .ok (.aload_n 0, 1) := by decide +kernel
theorem dX7_order_12 : decode cX7_order 12 = .ok (.getfield 14, 3) := by decide +kernel
theorem dX7_order_15 : decode cX7_order 15 = .ok (.getfield 91, 3) := by decide +kernel
theorem dX7_order_18 : decode cX7_order 18 = .ok (.iload_n 1, 1) := by decide +kernel
theorem dX7_order_19 : decode cX7_order 19 = .ok (.aaload, 1) := by decide +kernel
theorem dX7_order_20 : decode cX7_order 20 = .ok (.invokevirtual 97, 3) := by decide +kernel
theorem dX7_order_23 : decode cX7_order 23 = .ok (.ireturn, 1) := by decide +kernel
theorem dX7_degree_0 : decode cX7_degree 0 = .ok (.iload_n 1, 1) := by decide +kernel
theorem dX7_degree_1 : decode cX7_degree 1 = .ok (.invokestatic 82, 3) := by decide +kernel
theorem dX7_degree_4 : decode cX7_degree 4 = .ok (.ifCond .ne 6, 3) := by decide +kernel
theorem dX7_degree_7 : decode cX7_degree 7 = .ok (.bipush (-2), 2) := by decide +kernel
theorem dX7_degree_9 : decode cX7_degree 9 = .ok (.ireturn, 1) := by decide +kernel
theorem dX7_degree_10 : decode cX7_degree 10 = .ok (.aload_n 0, 1) := by decide +kernel
theorem dX7_degree_11 : decode cX7_degree 11 = .ok (.aload_n 0, 1) := by decide +kernel
theorem dX7_degree_12 : decode cX7_degree 12 = .ok (.getfield 14, 3) := by decide +kernel
theorem dX7_degree_15 : decode cX7_degree 15 = .ok (.getfield 91, 3) := by decide +kernel
theorem dX7_degree_18 : decode cX7_degree 18 = .ok (.iload_n 1, 1) := by decide +kernel
theorem dX7_degree_19 : decode cX7_degree 19 = .ok (.aaload, 1) := by decide +kernel
theorem dX7_degree_20 : decode cX7_degree 20 = .ok (.invokevirtual 101, 3) := by decide +kernel
theorem dX7_degree_23 : decode cX7_degree 23 = .ok (.ireturn, 1) := by decide +kernel
theorem dX7_add_0 : decode cX7_add 0 = .ok (.iload_n 1, 1) := by decide +kernel
theorem dX7_add_1 : decode cX7_add 1 = .ok (.invokestatic 82, 3) := by decide +kernel
theorem dX7_add_4 : decode cX7_add 4 = .ok (.ifCond .eq 17, 3) := by decide +kernel
theorem dX7_add_7 : decode cX7_add 7 = .ok (.iload_n 2, 1) := by decide +kernel
theorem dX7_add_8 : decode cX7_add 8 = .ok (.invokestatic 82, 3) := by decide +kernel
theorem dX7_add_11 : decode cX7_add 11 = .ok (.ifCond .eq 10, 3) := by decide +kernel
theorem dX7_add_14 : decode cX7_add 14 = .ok (.iload_n 3, 1) := by decide +kernel
theorem dX7_add_15 : decode cX7_add 15 = .ok (.invokestatic 82, 3) := by decide +kernel
theorem dX7_add_18 : decode cX7_add 18 = .ok (.ifCond .ne 6, 3) := by decide +kernel
theorem dX7_add_21 : decode cX7_add 21 = .ok (.bipush (-2), 2) := by decide +kernel
theorem dX7_add_23 : decode cX7_add 23 = .ok (.ireturn, 1) := by decide +kernel
theorem dX7_add_24 : decode cX7_add 24 = .ok (.iload 4, 2) := by decide +kernel
theorem dX7_add_26 : decode cX7_add 26 = .ok (.bipush (-9), 2) := by decide +kernel
theorem dX7_add_28 : decode cX7_add 28 = .ok (.if_icmp .lt 10, 3) := by decide +kernel
theorem dX7_add_31 : decode cX7_add 31 = .ok (.iload 4, 2) := by decide +kernel
theorem dX7_add_33 : decode cX7_add 33 = .ok (.bipush 9, 2) := by decide +kernel
theorem dX7_add_35 : decode cX7_add 35 = .ok (.if_icmp .le 5, 3) := by decide +kernel
theorem dX7_add_38 : decode cX7_add 38 = .ok (.iconst (-1), 1) := by decide +kernel
theorem dX7_add_39 : decode cX7_add 39 = .ok (.ireturn, 1) := by decide +kernel
theorem dX7_add_40 : decode cX7_add 40 = .ok (.aload_n 0, 1) := by decide +kernel
theorem dX7_add_41 : decode cX7_add 41 = .ok (.getfield 35, 3) := by decide +kernel
theorem dX7_add_44 : decode cX7_add 44 = .ok (.aload_n 0, 1) := by decide +kernel
theorem dX7_add_45 : decode cX7_add 45 = .ok (.getfield 14, 3) := by decide +kernel
theorem dX7_add_48 : decode cX7_add 48 = .ok (.getfield 78, 3) := by decide +kernel
theorem dX7_add_51 : decode cX7_add 51 = .ok (.invokevirtual 104, 3) := by decide +kernel
theorem dX7_add_54 : decode cX7_add 54 = .ok (.aload_n 0, 1) := by decide +kernel
theorem dX7_add_55 : decode cX7_add 55 = .ok (.getfield 35, 3) := by decide +kernel
theorem dX7_add_58 : decode cX7_add 58 = .ok (.aload_n 0, 1) := by decide +kernel
theorem dX7_add_59 : decode cX7_add 59 = .ok (.getfield 14, 3) := by decide +kernel
theorem dX7_add_62 : decode cX7_add 62 = .ok (.getfield 91, 3) := by decide +kernel
theorem dX7_add_65 : decode cX7_add 65 = .ok (.iload_n 2, 1) := by decide +kernel
theorem dX7_add_66 : decode cX7_add 66 = .ok (.aaload, 1) := by decide +kernel
theorem dX7_add_67 : decode cX7_add 67 = .ok (.iconst 1, 1) := by decide +kernel
theorem dX7_add_68 : decode cX7_add 68 = .ok (.invokevirtual 107, 3) := by decide +kernel
theorem dX7_add_71 : decode cX7_add 71 = .ok (.aload_n 0, 1) := by decide +kernel
theorem dX7_add_72 : decode cX7_add 72 = .ok (.getfield 35, 3) := by decide +kernel
theorem dX7_add_75 : decode cX7_add 75 = .ok (.aload_n 0, 1) := by decide +kernel
theorem dX7_add_76 : decode cX7_add 76 = .ok (.getfield 14, 3) := by decide +kernel
theorem dX7_add_79 : decode cX7_add 79 = .ok (.getfield 91, 3) := by decide +kernel
theorem dX7_add_82 : decode cX7_add 82 = .ok (.iload_n 3, 1) := by decide +kernel
theorem dX7_add_83 : decode cX7_add 83 = .ok (.aaload, 1) := by decide +kernel
theorem dX7_add_84 : decode cX7_add 84 = .ok (.iload 4, 2) := by decide +kernel
theorem dX7_add_86 : decode cX7_add 86 = .ok (.invokevirtual 107, 3) := by decide +kernel
theorem dX7_add_89 : decode cX7_add 89 = .ok (.aload_n 0, 1) := by decide +kernel
theorem dX7_add_90 : decode cX7_add 90 = .ok (.iload_n 1, 1) := by decide +kernel
theorem dX7_add_91 : decode cX7_add 91 = .ok (.invokevirtual 111, 3) := by decide +kernel
theorem dX7_add_94 : decode cX7_add 94 = .ok (.ireturn, 1) := by decide +kernel
theorem dX7_multiply_0 : decode cX7_multiply 0 = .ok (.iload_n 1, 1) := by decide +kernel
theorem dX7_multiply_1 : decode cX7_multiply 1 = .ok (.invokestatic 82, 3) := by decide +kernel
theorem dX7_multiply_4 : decode cX7_multiply 4 = .ok (.ifCond .eq 17, 3) := by decide +kernel
theorem dX7_multiply_7 : decode cX7_multiply 7 = .ok (.iload_n 2, 1) := by decide +kernel
theorem dX7_multiply_8 : decode cX7_multiply 8 = .ok (.invokestatic 82, 3) := by decide +kernel
theorem dX7_multiply_11 : decode cX7_multiply 11 = .ok (.ifCond .eq 10, 3) := by decide +kernel
theorem dX7_multiply_14 : decode cX7_multiply 14 = .ok (.iload_n 3, 1) := by decide +kernel
theorem dX7_multiply_15 : decode cX7_multiply 15 = .ok (.invokestatic 82, 3) := by decide +kernel
theorem dX7_multiply_18 : decode cX7_multiply 18 = .ok (.ifCond .ne 6, 3) := by decide +kernel
theorem dX7_multiply_21 : decode cX7_multiply 21 = .ok (.bipush (-2), 2) := by decide +kernel
theorem dX7_multiply_23 : decode cX7_multiply 23 = .ok (.ireturn, 1) := by decide +kernel
theorem dX7_multiply_24 : decode cX7_multiply 24 = .ok (.aload_n 0, 1) := by decide +kernel
theorem dX7_multiply_25 : decode cX7_multiply 25 = .ok (.getfield 35, 3) := by decide +kernel
theorem dX7_multiply_28 : decode cX7_multiply 28 = .ok (.aload_n 0, 1) := by decide +kernel
theorem dX7_multiply_29 : decode cX7_multiply 29 = .ok (.getfield 14, 3) := by decide +kernel
theorem dX7_multiply_32 : decode cX7_multiply 32 = .ok (.getfield 91, 3) := by decide +kernel
theorem dX7_multiply_35 : decode cX7_multiply 35 = .ok (.iload_n 2, 1) := by decide +kernel
theorem dX7_multiply_36 : decode cX7_multiply 36 = .ok (.aaload, 1) := by decide +kernel
theorem dX7_multiply_37 : decode cX7_multiply 37 = .ok (.aload_n 0, 1) := by decide +kernel
theorem dX7_multiply_38 : decode cX7_multiply 38 = .ok (.getfield 14, 3) := by decide +kernel
theorem dX7_multiply_41 : decode cX7_multiply 41 = .ok (.getfield 91, 3) := by decide +kernel
theorem dX7_multiply_44 : decode cX7_multiply 44 = .ok (.iload_n 3, 1) := by decide +kernel
theorem dX7_multiply_45 : decode cX7_multiply 45 = .ok (.aaload, 1) := by decide +kernel
theorem dX7_multiply_46 : decode cX7_multiply 46 = .ok (.aload_n 0, 1) := by decide +kernel
theorem dX7_multiply_47 : decode cX7_multiply 47 = .ok (.getfield 14, 3) := by decide +kernel
theorem dX7_multiply_50 : decode cX7_multiply 50 = .ok (.getfield 78, 3) := by decide +kernel
theorem dX7_multiply_53 : decode cX7_multiply 53 = .ok (.invokevirtual 115, 3) := by decide +kernel
theorem dX7_multiply_56 : decode cX7_multiply 56 = .ok (.aload_n 0, 1) := by decide +kernel
theorem dX7_multiply_57 : decode cX7_multiply 57 = .ok (.iload_n 1, 1) := by decide +kernel
theorem dX7_multiply_58 : decode cX7_multiply 58 = .ok (.invokevirtual 111, 3) := by decide +kernel
theorem dX7_multiply_61 : decode cX7_multiply 61 = .ok (.ireturn, 1) := by decide +kernel
theorem dX7_divide_0 : decode cX7_divide 0 = .ok (.iload_n 1, 1) := by decide +kernel
theorem dX7_divide_1 : decode cX7_divide 1 = .ok (.invokestatic 82, 3) := by decide +kernel
theorem dX7_divide_4 : decode cX7_divide 4 = .ok (.ifCond .eq 17, 3) := by decide +kernel
theorem dX7_divide_7 : decode cX7_divide 7 = .ok (.iload_n 2, 1) := by decide +kernel
theorem dX7_divide_8 : decode cX7_divide 8 = .ok (.invokestatic 82, 3) := by decide +kernel
theorem dX7_divide_11 : decode cX7_divide 11 = .ok (.ifCond .eq 10, 3) := by decide +kernel
theorem dX7_divide_14 : decode cX7_divide 14 = .ok (.iload_n 3, 1) := by decide +kernel
theorem dX7_divide_15 : decode cX7_divide 15 = .ok (.invokestatic 82, 3) := by decide +kernel
theorem dX7_divide_18 : decode cX7_divide 18 = .ok (.ifCond .ne 6, 3) := by decide +kernel
theorem dX7_divide_21 : decode cX7_divide 21 = .ok (.bipush (-2), 2) := by decide +kernel
theorem dX7_divide_23 : decode cX7_divide 23 = .ok (.ireturn, 1) := by decide +kernel
theorem dX7_divide_24 : decode cX7_divide 24 = .ok (.aload_n 0, 1) := by decide +kernel
theorem dX7_divide_25 : decode cX7_divide 25 = .ok (.getfield 14, 3) := by decide +kernel
theorem dX7_divide_28 : decode cX7_divide 28 = .ok (.getfield 91, 3) := by decide +kernel
theorem dX7_divide_31 : decode cX7_divide 31 = .ok (.iload_n 3, 1) := by decide +kernel
theorem dX7_divide_32 : decode cX7_divide 32 = .ok (.aaload, 1) := by decide +kernel
theorem dX7_divide_33 : decode cX7_divide 33 = .ok (.iconst 0, 1) := by decide +kernel
theorem dX7_divide_34 : decode cX7_divide 34 = .ok (.iaload, 1) := by decide +kernel
theorem dX7_divide_35 : decode cX7_divide 35 = .ok (.istore 4, 2) := by decide +kernel
theorem dX7_divide_37 : decode cX7_divide 37 = .ok (.iload 4, 2) := by decide +kernel
theorem dX7_divide_39 : decode cX7_divide 39 = .ok (.iconst 1, 1) := by decide +kernel
theorem dX7_divide_40 : decode cX7_divide 40 = .ok (.if_icmp .eq 12, 3) := by decide +kernel
theorem dX7_divide_43 : decode cX7_divide 43 = .ok (.iload 4, 2) := by decide +kernel
theorem dX7_divide_45 : decode cX7_divide 45 = .ok (.iconst (-1), 1) := by decide +kernel
theorem dX7_divide_46 : decode cX7_divide 46 = .ok (.if_icmp .eq 6, 3) := by decide +kernel
theorem dX7_divide_49 : decode cX7_divide 49 = .ok (.bipush (-4), 2) := by decide +kernel
theorem dX7_divide_51 : decode cX7_divide 51 = .ok (.ireturn, 1) := by decide +kernel
theorem dX7_divide_52 : decode cX7_divide 52 = .ok (.aload_n 0, 1) := by decide +kernel
theorem dX7_divide_53 : decode cX7_divide 53 = .ok (.getfield 35, 3) := by decide +kernel
theorem dX7_divide_56 : decode cX7_divide 56 = .ok (.aload_n 0, 1) := by decide +kernel
theorem dX7_divide_57 : decode cX7_divide 57 = .ok (.getfield 14, 3) := by decide +kernel
theorem dX7_divide_60 : decode cX7_divide 60 = .ok (.getfield 91, 3) := by decide +kernel
theorem dX7_divide_63 : decode cX7_divide 63 = .ok (.iload_n 2, 1) := by decide +kernel
theorem dX7_divide_64 : decode cX7_divide 64 = .ok (.aaload, 1) := by decide +kernel
theorem dX7_divide_65 : decode cX7_divide 65 = .ok (.aload_n 0, 1) := by decide +kernel
theorem dX7_divide_66 : decode cX7_divide 66 = .ok (.getfield 14, 3) := by decide +kernel
theorem dX7_divide_69 : decode cX7_divide 69 = .ok (.getfield 91, 3) := by decide +kernel
theorem dX7_divide_72 : decode cX7_divide 72 = .ok (.iload_n 3, 1) := by decide +kernel
theorem dX7_divide_73 : decode cX7_divide 73 = .ok (.aaload, 1) := by decide +kernel
theorem dX7_divide_74 : decode cX7_divide 74 = .ok (.aload_n 0, 1) := by decide +kernel
theorem dX7_divide_75 : decode cX7_divide 75 = .ok (.getfield 14, 3) := by decide +kernel
theorem dX7_divide_78 : decode cX7_divide 78 = .ok (.getfield 78, 3) := by decide +kernel
theorem dX7_divide_81 : decode cX7_divide 81 = .ok (.invokevirtual 119, 3) := by decide +kernel
theorem dX7_divide_84 : decode cX7_divide 84 = .ok (.ifCond .ne 6, 3) := by decide +kernel
theorem dX7_divide_87 : decode cX7_divide 87 = .ok (.bipush (-3), 2) := by decide +kernel
theorem dX7_divide_89 : decode cX7_divide 89 = .ok (.ireturn, 1) := by decide +kernel
theorem dX7_divide_90 : decode cX7_divide 90 = .ok (.aload_n 0, 1) := by decide +kernel
theorem dX7_divide_91 : decode cX7_divide 91 = .ok (.iload_n 1, 1) := by decide +kernel
theorem dX7_divide_92 : decode cX7_divide 92 = .ok (.invokevirtual 111, 3) := by decide +kernel
theorem dX7_divide_95 : decode cX7_divide 95 = .ok (.ireturn, 1) := by decide +kernel
theorem dX7_shift_0 : decode cX7_shift 0 = .ok (.iload_n 1, 1) := by decide +kernel
theorem dX7_shift_1 : decode cX7_shift 1 = .ok (.invokestatic 82, 3) := by decide +kernel
theorem dX7_shift_4 : decode cX7_shift 4 = .ok (.ifCond .eq 10, 3) := by decide +kernel
theorem dX7_shift_7 : decode cX7_shift 7 = .ok (.iload_n 2, 1) := by decide +kernel
theorem dX7_shift_8 : decode cX7_shift 8 = .ok (.invokestatic 82, 3) := by decide +kernel
theorem dX7_shift_11 : decode cX7_shift 11 = .ok (.ifCond .ne 6, 3) := by decide +kernel
theorem dX7_shift_14 : decode cX7_shift 14 = .ok (.bipush (-2), 2) := by decide +kernel
theorem dX7_shift_16 : decode cX7_shift 16 = .ok (.ireturn, 1) := by decide +kernel
theorem dX7_shift_17 : decode cX7_shift 17 = .ok (.iload_n 3, 1) := by decide +kernel
theorem dX7_shift_18 : decode cX7_shift 18 = .ok (.ifCond .lt 9, 3) := by decide +kernel
theorem dX7_shift_21 : decode cX7_shift 21 = .ok (.iload_n 3, 1) := by decide +kernel
theorem dX7_shift_22 : decode cX7_shift 22 = .ok (.bipush 24, 2) := by decide +kernel
theorem dX7_shift_24 : decode cX7_shift 24 = .ok (.if_icmp .lt 5, 3) := by decide +kernel
theorem dX7_shift_27 : decode cX7_shift 27 = .ok (.iconst (-1), 1) := by decide +kernel
theorem dX7_shift_28 : decode cX7_shift 28 = .ok (.ireturn, 1) := by decide +kernel
theorem dX7_shift_29 : decode cX7_shift 29 = .ok (.aload_n 0, 1) := by decide +kernel
theorem dX7_shift_30 : decode cX7_shift 30 = .ok (.getfield 35, 3) := by decide +kernel
theorem dX7_shift_33 : decode cX7_shift 33 = .ok (.aload_n 0, 1) := by decide +kernel
theorem dX7_shift_34 : decode cX7_shift 34 = .ok (.getfield 14, 3) := by decide +kernel
theorem dX7_shift_37 : decode cX7_shift 37 = .ok (.getfield 78, 3) := by decide +kernel
theorem dX7_shift_40 : decode cX7_shift 40 = .ok (.invokevirtual 104, 3) := by decide +kernel
theorem dX7_shift_43 : decode cX7_shift 43 = .ok (.aload_n 0, 1) := by decide +kernel
theorem dX7_shift_44 : decode cX7_shift 44 = .ok (.getfield 35, 3) := by decide +kernel
theorem dX7_shift_47 : decode cX7_shift 47 = .ok (.aload_n 0, 1) := by decide +kernel
theorem dX7_shift_48 : decode cX7_shift 48 = .ok (.getfield 14, 3) := by decide +kernel
theorem dX7_shift_51 : decode cX7_shift 51 = .ok (.getfield 91, 3) := by decide +kernel
theorem dX7_shift_54 : decode cX7_shift 54 = .ok (.iload_n 2, 1) := by decide +kernel
theorem dX7_shift_55 : decode cX7_shift 55 = .ok (.aaload, 1) := by decide +kernel
theorem dX7_shift_56 : decode cX7_shift 56 = .ok (.iload_n 3, 1) := by decide +kernel
theorem dX7_shift_57 : decode cX7_shift 57 = .ok (.invokevirtual 123, 3) := by decide +kernel
theorem dX7_shift_60 : decode cX7_shift 60 = .ok (.aload_n 0, 1) := by decide +kernel
theorem dX7_shift_61 : decode cX7_shift 61 = .ok (.iload_n 1, 1) := by decide +kernel
theorem dX7_shift_62 : decode cX7_shift 62 = .ok (.invokevirtual 111, 3) := by decide +kernel
theorem dX7_shift_65 : decode cX7_shift 65 = .ok (.ireturn, 1) := by decide +kernel
theorem dX7_substitute_0 : decode cX7_substitute 0 = .ok (.iload_n 1, 1) := by decide +kernel
theorem dX7_substitute_1 : decode cX7_substitute 1 = .ok (.invokestatic 82, 3) := by decide +kernel
theorem dX7_substitute_4 : decode cX7_substitute 4 = .ok (.ifCond .eq 10, 3) := by decide +kernel
theorem dX7_substitute_7 : decode cX7_substitute 7 = .ok (.iload_n 2, 1) := by decide +kernel
theorem dX7_substitute_8 : decode cX7_substitute 8 = .ok (.invokestatic 82, 3) := by decide +kernel
theorem dX7_substitute_11 : decode cX7_substitute 11 = .ok (.ifCond .ne 6, 3) := by decide +kernel
theorem dX7_substitute_14 : decode cX7_substitute 14 = .ok (.bipush (-2), 2) := by decide +kernel
theorem dX7_substitute_16 : decode cX7_substitute 16 = .ok (.ireturn, 1) := by decide +kernel
theorem dX7_substitute_17 : decode cX7_substitute 17 = .ok (.iload_n 3, 1) := by decide +kernel
theorem dX7_substitute_18 : decode cX7_substitute 18 = .ok (.iconst 1, 1) := by decide +kernel
theorem dX7_substitute_19 : decode cX7_substitute 19 = .ok (.if_icmp .lt 9, 3) := by decide +kernel
theorem dX7_substitute_22 : decode cX7_substitute 22 = .ok (.iload_n 3, 1) := by decide +kernel
theorem dX7_substitute_23 : decode cX7_substitute 23 = .ok (.bipush 6, 2) := by decide +kernel
theorem dX7_substitute_25 : decode cX7_substitute 25 = .ok (.if_icmp .le 5, 3) := by decide +kernel
theorem dX7_substitute_28 : decode cX7_substitute 28 = .ok (.iconst (-1), 1) := by decide +kernel
theorem dX7_substitute_29 : decode cX7_substitute 29 = .ok (.ireturn, 1) := by decide +kernel
theorem dX7_substitute_30 : decode cX7_substitute 30 = .ok (.aload_n 0, 1) := by decide +kernel
theorem dX7_substitute_31 : decode cX7_substitute 31 = .ok (.getfield 14, 3) := by decide +kernel
theorem dX7_substitute_34 : decode cX7_substitute 34 = .ok (.getfield 91, 3) := by decide +kernel
theorem dX7_substitute_37 : decode cX7_substitute 37 = .ok (.iload_n 2, 1) := by decide +kernel
theorem dX7_substitute_38 : decode cX7_substitute 38 = .ok (.aaload, 1) := by decide +kernel
theorem dX7_substitute_39 : decode cX7_substitute 39 = .ok (.astore 4, 2) := by decide +kernel
theorem dX7_substitute_41 : decode cX7_substitute 41 = .ok (.aload_n 0, 1) := by decide +kernel
theorem dX7_substitute_42 : decode cX7_substitute 42 = .ok (.getfield 35, 3) := by decide +kernel
theorem dX7_substitute_45 : decode cX7_substitute 45 = .ok (.aload_n 0, 1) := by decide +kernel
theorem dX7_substitute_46 : decode cX7_substitute 46 = .ok (.getfield 14, 3) := by decide +kernel
theorem dX7_substitute_49 : decode cX7_substitute 49 = .ok (.getfield 78, 3) := by decide +kernel
theorem dX7_substitute_52 : decode cX7_substitute 52 = .ok (.invokevirtual 104, 3) := by decide +kernel
theorem dX7_substitute_55 : decode cX7_substitute 55 = .ok (.iconst 0, 1) := by decide +kernel
theorem dX7_substitute_56 : decode cX7_substitute 56 = .ok (.istore 5, 2) := by decide +kernel
theorem dX7_substitute_58 : decode cX7_substitute 58 = .ok (.iload 5, 2) := by decide +kernel
theorem dX7_substitute_60 : decode cX7_substitute 60 = .ok (.aload_n 0, 1) := by decide +kernel
theorem dX7_substitute_61 : decode cX7_substitute 61 = .ok (.getfield 14, 3) := by decide +kernel
theorem dX7_substitute_64 : decode cX7_substitute 64 = .ok (.getfield 78, 3) := by decide +kernel
theorem dX7_substitute_67 : decode cX7_substitute 67 = .ok (.if_icmp .ge 25, 3) := by decide +kernel
theorem dX7_substitute_70 : decode cX7_substitute 70 = .ok (.aload_n 0, 1) := by decide +kernel
theorem dX7_substitute_71 : decode cX7_substitute 71 = .ok (.getfield 35, 3) := by decide +kernel
theorem dX7_substitute_74 : decode cX7_substitute 74 = .ok (.iload 5, 2) := by decide +kernel
theorem dX7_substitute_76 : decode cX7_substitute 76 = .ok (.iload_n 3, 1) := by decide +kernel
theorem dX7_substitute_77 : decode cX7_substitute 77 = .ok (.imul, 1) := by decide +kernel
theorem dX7_substitute_78 : decode cX7_substitute 78 = .ok (.aload 4, 2) := by decide +kernel
theorem dX7_substitute_80 : decode cX7_substitute 80 = .ok (.iload 5, 2) := by decide +kernel
theorem dX7_substitute_82 : decode cX7_substitute 82 = .ok (.iaload, 1) := by decide +kernel
theorem dX7_substitute_83 : decode cX7_substitute 83 = .ok (.invokevirtual 126, 3) := by decide +kernel
theorem dX7_substitute_86 : decode cX7_substitute 86 = .ok (.iinc 5 1, 3) := by decide +kernel
theorem dX7_substitute_89 : decode cX7_substitute 89 = .ok (.goto (-31), 3) := by decide +kernel
theorem dX7_substitute_92 : decode cX7_substitute 92 = .ok (.aload_n 0, 1) := by decide +kernel
theorem dX7_substitute_93 : decode cX7_substitute 93 = .ok (.iload_n 1, 1) := by decide +kernel
theorem dX7_substitute_94 : decode cX7_substitute 94 = .ok (.invokevirtual 111, 3) := by decide +kernel
theorem dX7_substitute_97 : decode cX7_substitute 97 = .ok (.ireturn, 1) := by decide +kernel
theorem dX7_product_0 : decode cX7_product 0 = .ok (.iload_n 1, 1) := by decide +kernel
theorem dX7_product_1 : decode cX7_product 1 = .ok (.invokestatic 82, 3) := by decide +kernel
theorem dX7_product_4 : decode cX7_product 4 = .ok (.ifCond .ne 6, 3) := by decide +kernel
theorem dX7_product_7 : decode cX7_product 7 = .ok (.bipush (-2), 2) := by decide +kernel
theorem dX7_product_9 : decode cX7_product 9 = .ok (.ireturn, 1) := by decide +kernel
theorem dX7_product_10 : decode cX7_product 10 = .ok (.iload_n 2, 1) := by decide +kernel
theorem dX7_product_11 : decode cX7_product 11 = .ok (.iload_n 3, 1) := by decide +kernel
theorem dX7_product_12 : decode cX7_product 12 = .ok (.invokestatic 130, 3) := by decide +kernel
theorem dX7_product_15 : decode cX7_product 15 = .ok (.ifCond .eq 16, 3) := by decide +kernel
theorem dX7_product_18 : decode cX7_product 18 = .ok (.iload 4, 2) := by decide +kernel
theorem dX7_product_20 : decode cX7_product 20 = .ok (.bipush (-3), 2) := by decide +kernel
theorem dX7_product_22 : decode cX7_product 22 = .ok (.if_icmp .lt 9, 3) := by decide +kernel
theorem dX7_product_25 : decode cX7_product 25 = .ok (.iload 4, 2) := by decide +kernel
theorem dX7_product_27 : decode cX7_product 27 = .ok (.iconst 3, 1) := by decide +kernel
theorem dX7_product_28 : decode cX7_product 28 = .ok (.if_icmp .le 5, 3) := by decide +kernel
theorem dX7_product_31 : decode cX7_product 31 = .ok (.iconst (-1), 1) := by decide +kernel
theorem dX7_product_32 : decode cX7_product 32 = .ok (.ireturn, 1) := by decide +kernel
theorem dX7_product_33 : decode cX7_product 33 = .ok (.aload_n 0, 1) := by decide +kernel
theorem dX7_product_34 : decode cX7_product 34 = .ok (.getfield 35, 3) := by decide +kernel
theorem dX7_product_37 : decode cX7_product 37 = .ok (.aload_n 0, 1) := by decide +kernel
theorem dX7_product_38 : decode cX7_product 38 = .ok (.getfield 14, 3) := by decide +kernel
theorem dX7_product_41 : decode cX7_product 41 = .ok (.getfield 78, 3) := by decide +kernel
theorem dX7_product_44 : decode cX7_product 44 = .ok (.invokevirtual 104, 3) := by decide +kernel
theorem dX7_product_47 : decode cX7_product 47 = .ok (.aload_n 0, 1) := by decide +kernel
theorem dX7_product_48 : decode cX7_product 48 = .ok (.getfield 35, 3) := by decide +kernel
theorem dX7_product_51 : decode cX7_product 51 = .ok (.iconst 0, 1) := by decide +kernel
theorem dX7_product_52 : decode cX7_product 52 = .ok (.iconst 1, 1) := by decide +kernel
theorem dX7_product_53 : decode cX7_product 53 = .ok (.invokevirtual 126, 3) := by decide +kernel
theorem dX7_product_56 : decode cX7_product 56 = .ok (.iconst 1, 1) := by decide +kernel
theorem dX7_product_57 : decode cX7_product 57 = .ok (.istore 5, 2) := by decide +kernel
theorem dX7_product_59 : decode cX7_product 59 = .ok (.iload 5, 2) := by decide +kernel
theorem dX7_product_61 : decode cX7_product 61 = .ok (.aload_n 0, 1) := by decide +kernel
theorem dX7_product_62 : decode cX7_product 62 = .ok (.getfield 14, 3) := by decide +kernel
theorem dX7_product_65 : decode cX7_product 65 = .ok (.getfield 78, 3) := by decide +kernel
theorem dX7_product_68 : decode cX7_product 68 = .ok (.if_icmp .ge 30, 3) := by decide +kernel
theorem dX7_product_71 : decode cX7_product 71 = .ok (.iload 5, 2) := by decide +kernel
theorem dX7_product_73 : decode cX7_product 73 = .ok (.iload_n 2, 1) := by decide +kernel
theorem dX7_product_74 : decode cX7_product 74 = .ok (.iload_n 3, 1) := by decide +kernel
theorem dX7_product_75 : decode cX7_product 75 = .ok (.invokestatic 134, 3) := by decide +kernel
theorem dX7_product_78 : decode cX7_product 78 = .ok (.ifCond .eq 14, 3) := by decide +kernel
theorem dX7_product_81 : decode cX7_product 81 = .ok (.aload_n 0, 1) := by decide +kernel
theorem dX7_product_82 : decode cX7_product 82 = .ok (.getfield 35, 3) := by decide +kernel
theorem dX7_product_85 : decode cX7_product 85 = .ok (.iload 5, 2) := by decide +kernel
theorem dX7_product_87 : decode cX7_product 87 = .ok (.iload 4, 2) := by decide +kernel
theorem dX7_product_89 : decode cX7_product 89 = .ok (.invokevirtual 138, 3) := by decide +kernel
theorem dX7_product_92 : decode cX7_product 92 = .ok (.iinc 5 1, 3) := by decide +kernel
theorem dX7_product_95 : decode cX7_product 95 = .ok (.goto (-36), 3) := by decide +kernel
theorem dX7_product_98 : decode cX7_product 98 = .ok (.aload_n 0, 1) := by decide +kernel
theorem dX7_product_99 : decode cX7_product 99 = .ok (.iload_n 1, 1) := by decide +kernel
theorem dX7_product_100 : decode cX7_product 100 = .ok (.invokevirtual 111, 3) := by decide +kernel
theorem dX7_product_103 : decode cX7_product 103 = .ok (.ireturn, 1) := by decide +kernel
theorem dX7_firstDifference_0 : decode cX7_firstDifference 0 = .ok (.iload_n 1, 1) := by decide +kernel
theorem dX7_firstDifference_1 : decode cX7_firstDifference 1 = .ok (.invokestatic 82, 3) := by decide +kernel
theorem dX7_firstDifference_4 : decode cX7_firstDifference 4 = .ok (.ifCond .eq 10, 3) := by decide +kernel
theorem dX7_firstDifference_7 : decode cX7_firstDifference 7 = .ok (.iload_n 2, 1) := by decide +kernel
theorem dX7_firstDifference_8 : decode cX7_firstDifference 8 = .ok (.invokestatic 82, 3) := by decide +kernel
theorem dX7_firstDifference_11 : decode cX7_firstDifference 11 = .ok (.ifCond .ne 6, 3) := by decide +kernel
theorem dX7_firstDifference_14 : decode cX7_firstDifference 14 = .ok (.bipush (-2), 2) := by decide +kernel
theorem dX7_firstDifference_16 : decode cX7_firstDifference 16 = .ok (.ireturn, 1) := by decide +kernel
theorem dX7_firstDifference_17 : decode cX7_firstDifference 17 = .ok (.aload_n 0, 1) := by decide +kernel
theorem dX7_firstDifference_18 : decode cX7_firstDifference 18 = .ok (.aload_n 0, 1) := by decide +kernel
theorem dX7_firstDifference_19 : decode cX7_firstDifference 19 = .ok (.getfield 14, 3) := by decide +kernel
theorem dX7_firstDifference_22 : decode cX7_firstDifference 22 = .ok (.getfield 91, 3) := by decide +kernel
theorem dX7_firstDifference_25 : decode cX7_firstDifference 25 = .ok (.iload_n 1, 1) := by decide +kernel
theorem dX7_firstDifference_26 : decode cX7_firstDifference 26 = .ok (.aaload, 1) := by decide +kernel
theorem dX7_firstDifference_27 : decode cX7_firstDifference 27 = .ok (.aload_n 0, 1) := by decide +kernel
theorem dX7_firstDifference_28 : decode cX7_firstDifference 28 = .ok (.getfield 14, 3) := by decide +kernel
theorem dX7_firstDifference_31 : decode cX7_firstDifference 31 = .ok (.getfield 91, 3) := by decide +kernel
theorem dX7_firstDifference_34 : decode cX7_firstDifference 34 = .ok (.iload_n 2, 1) := by decide +kernel
theorem dX7_firstDifference_35 : decode cX7_firstDifference 35 = .ok (.aaload, 1) := by decide +kernel
theorem dX7_firstDifference_36 : decode cX7_firstDifference 36 = .ok (.invokevirtual 141, 3) := by decide +kernel
theorem dX7_firstDifference_39 : decode cX7_firstDifference 39 = .ok (.ireturn, 1) := by decide +kernel
theorem dX7_valueAt_0 : decode cX7_valueAt 0 = .ok (.iload_n 1, 1) := by decide +kernel
theorem dX7_valueAt_1 : decode cX7_valueAt 1 = .ok (.invokestatic 82, 3) := by decide +kernel
theorem dX7_valueAt_4 : decode cX7_valueAt 4 = .ok (.ifCond .ne 6, 3) := by decide +kernel
theorem dX7_valueAt_7 : decode cX7_valueAt 7 = .ok (.bipush (-2), 2) := by decide +kernel
theorem dX7_valueAt_9 : decode cX7_valueAt 9 = .ok (.ireturn, 1) := by decide +kernel
theorem dX7_valueAt_10 : decode cX7_valueAt 10 = .ok (.aload_n 0, 1) := by decide +kernel
theorem dX7_valueAt_11 : decode cX7_valueAt 11 = .ok (.getfield 14, 3) := by decide +kernel
theorem dX7_valueAt_14 : decode cX7_valueAt 14 = .ok (.getfield 91, 3) := by decide +kernel
theorem dX7_valueAt_17 : decode cX7_valueAt 17 = .ok (.iload_n 1, 1) := by decide +kernel
theorem dX7_valueAt_18 : decode cX7_valueAt 18 = .ok (.aaload, 1) := by decide +kernel
theorem dX7_valueAt_19 : decode cX7_valueAt 19 = .ok (.astore_n 3, 1) := by decide +kernel
theorem dX7_valueAt_20 : decode cX7_valueAt 20 = .ok (.iload_n 2, 1) := by decide +kernel
theorem dX7_valueAt_21 : decode cX7_valueAt 21 = .ok (.i2l, 1) := by decide +kernel
theorem dX7_valueAt_22 : decode cX7_valueAt 22 = .ok (.ldc2_w 145, 3) := by decide +kernel
theorem dX7_valueAt_25 : decode cX7_valueAt 25 = .ok (.invokestatic 147, 3) := by decide +kernel
theorem dX7_valueAt_28 : decode cX7_valueAt 28 = .ok (.lstore 4, 2) := by decide +kernel
theorem dX7_valueAt_30 : decode cX7_valueAt 30 = .ok (.lconst 0, 1) := by decide +kernel
theorem dX7_valueAt_31 : decode cX7_valueAt 31 = .ok (.lstore 6, 2) := by decide +kernel
theorem dX7_valueAt_33 : decode cX7_valueAt 33 = .ok (.aload_n 0, 1) := by decide +kernel
theorem dX7_valueAt_34 : decode cX7_valueAt 34 = .ok (.getfield 14, 3) := by decide +kernel
theorem dX7_valueAt_37 : decode cX7_valueAt 37 = .ok (.getfield 78, 3) := by decide +kernel
theorem dX7_valueAt_40 : decode cX7_valueAt 40 = .ok (.iconst 1, 1) := by decide +kernel
theorem dX7_valueAt_41 : decode cX7_valueAt 41 = .ok (.isub, 1) := by decide +kernel
theorem dX7_valueAt_42 : decode cX7_valueAt 42 = .ok (.istore 8, 2) := by decide +kernel
theorem dX7_valueAt_44 : decode cX7_valueAt 44 = .ok (.iload 8, 2) := by decide +kernel
theorem dX7_valueAt_46 : decode cX7_valueAt 46 = .ok (.ifCond .lt 28, 3) := by decide +kernel
theorem dX7_valueAt_49 : decode cX7_valueAt 49 = .ok (.lload 6, 2) := by decide +kernel
theorem dX7_valueAt_51 : decode cX7_valueAt 51 = .ok (.lload 4, 2) := by decide +kernel
theorem dX7_valueAt_53 : decode cX7_valueAt 53 = .ok (.lmul, 1) := by decide +kernel
theorem dX7_valueAt_54 : decode cX7_valueAt 54 = .ok (.aload_n 3, 1) := by decide +kernel
theorem dX7_valueAt_55 : decode cX7_valueAt 55 = .ok (.iload 8, 2) := by decide +kernel
theorem dX7_valueAt_57 : decode cX7_valueAt 57 = .ok (.iaload, 1) := by decide +kernel
theorem dX7_valueAt_58 : decode cX7_valueAt 58 = .ok (.i2l, 1) := by decide +kernel
theorem dX7_valueAt_59 : decode cX7_valueAt 59 = .ok (.ladd, 1) := by decide +kernel
theorem dX7_valueAt_60 : decode cX7_valueAt 60 = .ok (.ldc2_w 145, 3) := by decide +kernel
theorem dX7_valueAt_63 : decode cX7_valueAt 63 = .ok (.invokestatic 147, 3) := by decide +kernel
theorem dX7_valueAt_66 : decode cX7_valueAt 66 = .ok (.lstore 6, 2) := by decide +kernel
theorem dX7_valueAt_68 : decode cX7_valueAt 68 = .ok (.iinc 8 (-1), 3) := by decide +kernel
theorem dX7_valueAt_71 : decode cX7_valueAt 71 = .ok (.goto (-27), 3) := by decide +kernel
theorem dX7_valueAt_74 : decode cX7_valueAt 74 = .ok (.lload 6, 2) := by decide +kernel
theorem dX7_valueAt_76 : decode cX7_valueAt 76 = .ok (.l2i, 1) := by decide +kernel
theorem dX7_valueAt_77 : decode cX7_valueAt 77 = .ok (.ireturn, 1) := by decide +kernel
theorem dX7_statistic_0 : decode cX7_statistic 0 = .ok (.iload_n 1, 1) := by decide +kernel
theorem dX7_statistic_1 : decode cX7_statistic 1 = .ok (.invokestatic 82, 3) := by decide +kernel
theorem dX7_statistic_4 : decode cX7_statistic 4 = .ok (.ifCond .ne 6, 3) := by decide +kernel
theorem dX7_statistic_7 : decode cX7_statistic 7 = .ok (.bipush (-2), 2) := by decide +kernel
theorem dX7_statistic_9 : decode cX7_statistic 9 = .ok (.ireturn, 1) := by decide +kernel
theorem dX7_statistic_10 : decode cX7_statistic 10 = .ok (.aload_n 0, 1) := by decide +kernel
theorem dX7_statistic_11 : decode cX7_statistic 11 = .ok (.getfield 14, 3) := by decide +kernel
theorem dX7_statistic_14 : decode cX7_statistic 14 = .ok (.getfield 91, 3) := by decide +kernel
theorem dX7_statistic_17 : decode cX7_statistic 17 = .ok (.iload_n 1, 1) := by decide +kernel
theorem dX7_statistic_18 : decode cX7_statistic 18 = .ok (.aaload, 1) := by decide +kernel
theorem dX7_statistic_19 : decode cX7_statistic 19 = .ok (.astore_n 3, 1) := by decide +kernel
theorem dX7_statistic_20 : decode cX7_statistic 20 = .ok (.iload_n 2, 1) := by decide +kernel
theorem dX7_statistic_21 : decode cX7_statistic 21 = .ok (.tableswitch 65 0 4 #[35, 41, 47, 53, 59], 35) := by decide +kernel
theorem dX7_statistic_56 : decode cX7_statistic 56 = .ok (.aload_n 0, 1) := by decide +kernel
theorem dX7_statistic_57 : decode cX7_statistic 57 = .ok (.aload_n 3, 1) := by decide +kernel
theorem dX7_statistic_58 : decode cX7_statistic 58 = .ok (.invokevirtual 153, 3) := by decide +kernel
theorem dX7_statistic_61 : decode cX7_statistic 61 = .ok (.ireturn, 1) := by decide +kernel
theorem dX7_statistic_62 : decode cX7_statistic 62 = .ok (.aload_n 0, 1) := by decide +kernel
theorem dX7_statistic_63 : decode cX7_statistic 63 = .ok (.aload_n 3, 1) := by decide +kernel
theorem dX7_statistic_64 : decode cX7_statistic 64 = .ok (.invokevirtual 156, 3) := by decide +kernel
theorem dX7_statistic_67 : decode cX7_statistic 67 = .ok (.ireturn, 1) := by decide +kernel
theorem dX7_statistic_68 : decode cX7_statistic 68 = .ok (.aload_n 0, 1) := by decide +kernel
theorem dX7_statistic_69 : decode cX7_statistic 69 = .ok (.aload_n 3, 1) := by decide +kernel
theorem dX7_statistic_70 : decode cX7_statistic 70 = .ok (.invokevirtual 159, 3) := by decide +kernel
theorem dX7_statistic_73 : decode cX7_statistic 73 = .ok (.ireturn, 1) := by decide +kernel
theorem dX7_statistic_74 : decode cX7_statistic 74 = .ok (.aload_n 0, 1) := by decide +kernel
theorem dX7_statistic_75 : decode cX7_statistic 75 = .ok (.aload_n 3, 1) := by decide +kernel
theorem dX7_statistic_76 : decode cX7_statistic 76 = .ok (.invokevirtual 162, 3) := by decide +kernel
theorem dX7_statistic_79 : decode cX7_statistic 79 = .ok (.ireturn, 1) := by decide +kernel
theorem dX7_statistic_80 : decode cX7_statistic 80 = .ok (.aload_n 0, 1) := by decide +kernel
theorem dX7_statistic_81 : decode cX7_statistic 81 = .ok (.aload_n 3, 1) := by decide +kernel
theorem dX7_statistic_82 : decode cX7_statistic 82 = .ok (.invokevirtual 165, 3) := by decide +kernel
theorem dX7_statistic_85 : decode cX7_statistic 85 = .ok (.ireturn, 1) := by decide +kernel
theorem dX7_statistic_86 : decode cX7_statistic 86 = .ok (.iconst (-1), 1) := by decide +kernel
theorem dX7_statistic_87 : decode cX7_statistic 87 = .ok (.ireturn, 1) := by decide +kernel
theorem dX7_registerByRank_0 : decode cX7_registerByRank 0 = .ok (.iload_n 1, 1) := by decide +kernel
theorem dX7_registerByRank_1 : decode cX7_registerByRank 1 = .ok (.ifCond .lt 9, 3) := by decide +kernel
theorem dX7_registerByRank_4 : decode cX7_registerByRank 4 = .ok (.iload_n 1, 1) := by decide +kernel
theorem dX7_registerByRank_5 : decode cX7_registerByRank 5 = .ok (.bipush 6, 2) := by decide +kernel
theorem dX7_registerByRank_7 : decode cX7_registerByRank 7 = .ok (.if_icmp .lt 5, 3) := by decide +kernel
theorem dX7_registerByRank_10 : decode cX7_registerByRank 10 = .ok (.iconst (-1), 1) := by decide +kernel
theorem dX7_registerByRank_11 : decode cX7_registerByRank 11 = .ok (.ireturn, 1) := by decide +kernel
theorem dX7_registerByRank_12 : decode cX7_registerByRank 12 = .ok (.iconst 0, 1) := by decide +kernel
theorem dX7_registerByRank_13 : decode cX7_registerByRank 13 = .ok (.istore_n 2, 1) := by decide +kernel
theorem dX7_registerByRank_14 : decode cX7_registerByRank 14 = .ok (.iload_n 2, 1) := by decide +kernel
theorem dX7_registerByRank_15 : decode cX7_registerByRank 15 = .ok (.bipush 6, 2) := by decide +kernel
theorem dX7_registerByRank_17 : decode cX7_registerByRank 17 = .ok (.if_icmp .ge 20, 3) := by decide +kernel
theorem dX7_registerByRank_20 : decode cX7_registerByRank 20 = .ok (.aload_n 0, 1) := by decide +kernel
theorem dX7_registerByRank_21 : decode cX7_registerByRank 21 = .ok (.iload_n 2, 1) := by decide +kernel
theorem dX7_registerByRank_22 : decode cX7_registerByRank 22 = .ok (.invokevirtual 168, 3) := by decide +kernel
theorem dX7_registerByRank_25 : decode cX7_registerByRank 25 = .ok (.iload_n 1, 1) := by decide +kernel
theorem dX7_registerByRank_26 : decode cX7_registerByRank 26 = .ok (.if_icmp .ne 5, 3) := by decide +kernel
theorem dX7_registerByRank_29 : decode cX7_registerByRank 29 = .ok (.iload_n 2, 1) := by decide +kernel
theorem dX7_registerByRank_30 : decode cX7_registerByRank 30 = .ok (.ireturn, 1) := by decide +kernel
theorem dX7_registerByRank_31 : decode cX7_registerByRank 31 = .ok (.iinc 2 1, 3) := by decide +kernel
theorem dX7_registerByRank_34 : decode cX7_registerByRank 34 = .ok (.goto (-20), 3) := by decide +kernel
theorem dX7_registerByRank_37 : decode cX7_registerByRank 37 = .ok (.iconst (-1), 1) := by decide +kernel
theorem dX7_registerByRank_38 : decode cX7_registerByRank 38 = .ok (.ireturn, 1) := by decide +kernel
theorem dX7_unitPair_0 : decode cX7_unitPair 0 = .ok (.iload_n 1, 1) := by decide +kernel
theorem dX7_unitPair_1 : decode cX7_unitPair 1 = .ok (.ifCond .eq 10, 3) := by decide +kernel
theorem dX7_unitPair_4 : decode cX7_unitPair 4 = .ok (.iload_n 1, 1) := by decide +kernel
theorem dX7_unitPair_5 : decode cX7_unitPair 5 = .ok (.iconst 1, 1) := by decide +kernel
theorem dX7_unitPair_6 : decode cX7_unitPair 6 = .ok (.if_icmp .eq 5, 3) := by decide +kernel
theorem dX7_unitPair_9 : decode cX7_unitPair 9 = .ok (.iconst (-1), 1) := by decide +kernel
theorem dX7_unitPair_10 : decode cX7_unitPair 10 = .ok (.ireturn, 1) := by decide +kernel
theorem dX7_unitPair_11 : decode cX7_unitPair 11 = .ok (.aload_n 0, 1) := by decide +kernel
theorem dX7_unitPair_12 : decode cX7_unitPair 12 = .ok (.iload_n 1, 1) := by decide +kernel
theorem dX7_unitPair_13 : decode cX7_unitPair 13 = .ok (.invokevirtual 171, 3) := by decide +kernel
theorem dX7_unitPair_16 : decode cX7_unitPair 16 = .ok (.iconst 0, 1) := by decide +kernel
theorem dX7_unitPair_17 : decode cX7_unitPair 17 = .ok (.ireturn, 1) := by decide +kernel
theorem dX7_setAlpha_0 : decode cX7_setAlpha 0 = .ok (.aload_n 0, 1) := by decide +kernel
theorem dX7_setAlpha_1 : decode cX7_setAlpha 1 = .ok (.iload_n 1, 1) := by decide +kernel
theorem dX7_setAlpha_2 : decode cX7_setAlpha 2 = .ok (.iload_n 2, 1) := by decide +kernel
theorem dX7_setAlpha_3 : decode cX7_setAlpha 3 = .ok (.iconst 1, 1) := by decide +kernel
theorem dX7_setAlpha_4 : decode cX7_setAlpha 4 = .ok (.invokevirtual 174, 3) := by decide +kernel
theorem dX7_setAlpha_7 : decode cX7_setAlpha 7 = .ok (.ireturn, 1) := by decide +kernel
theorem dX7_setBeta_0 : decode cX7_setBeta 0 = .ok (.aload_n 0, 1) := by decide +kernel
theorem dX7_setBeta_1 : decode cX7_setBeta 1 = .ok (.iload_n 1, 1) := by decide +kernel
theorem dX7_setBeta_2 : decode cX7_setBeta 2 = .ok (.iload_n 2, 1) := by decide +kernel
theorem dX7_setBeta_3 : decode cX7_setBeta 3 = .ok (.iconst 0, 1) := by decide +kernel
theorem dX7_setBeta_4 : decode cX7_setBeta 4 = .ok (.invokevirtual 174, 3) := by decide +kernel
theorem dX7_setBeta_7 : decode cX7_setBeta 7 = .ok (.ireturn, 1) := by decide +kernel
theorem dX7_step_0 : decode cX7_step 0 = .ok (.aload_n 0, 1) := by decide +kernel
theorem dX7_step_1 : decode cX7_step 1 = .ok (.getfield 28, 3) := by decide +kernel
theorem dX7_step_4 : decode cX7_step 4 = .ok (.aload_n 0, 1) := by decide +kernel
theorem dX7_step_5 : decode cX7_step 5 = .ok (.getfield 14, 3) := by decide +kernel
theorem dX7_step_8 : decode cX7_step 8 = .ok (.getfield 178, 3) := by decide +kernel
theorem dX7_step_11 : decode cX7_step 11 = .ok (.aload_n 0, 1) := by decide +kernel
theorem dX7_step_12 : decode cX7_step 12 = .ok (.getfield 14, 3) := by decide +kernel
theorem dX7_step_15 : decode cX7_step 15 = .ok (.getfield 78, 3) := by decide +kernel
theorem dX7_step_18 : decode cX7_step 18 = .ok (.aload_n 0, 1) := by decide +kernel
theorem dX7_step_19 : decode cX7_step 19 = .ok (.getfield 35, 3) := by decide +kernel
theorem dX7_step_22 : decode cX7_step 22 = .ok (.aload_n 0, 1) := by decide +kernel
theorem dX7_step_23 : decode cX7_step 23 = .ok (.getfield 39, 3) := by decide +kernel
theorem dX7_step_26 : decode cX7_step 26 = .ok (.invokevirtual 181, 3) := by decide +kernel
theorem dX7_step_29 : decode cX7_step 29 = .ok (.ifCond .ne 6, 3) := by decide +kernel
theorem dX7_step_32 : decode cX7_step 32 = .ok (.bipush (-3), 2) := by decide +kernel
theorem dX7_step_34 : decode cX7_step 34 = .ok (.ireturn, 1) := by decide +kernel
theorem dX7_step_35 : decode cX7_step 35 = .ok (.aload_n 0, 1) := by decide +kernel
theorem dX7_step_36 : decode cX7_step 36 = .ok (.getfield 14, 3) := by decide +kernel
theorem dX7_step_39 : decode cX7_step 39 = .ok (.aload_n 0, 1) := by decide +kernel
theorem dX7_step_40 : decode cX7_step 40 = .ok (.getfield 28, 3) := by decide +kernel
theorem dX7_step_43 : decode cX7_step 43 = .ok (.invokevirtual 185, 3) := by decide +kernel
theorem dX7_step_46 : decode cX7_step 46 = .ok (.aload_n 0, 1) := by decide +kernel
theorem dX7_step_47 : decode cX7_step 47 = .ok (.getfield 14, 3) := by decide +kernel
theorem dX7_step_50 : decode cX7_step 50 = .ok (.getfield 189, 3) := by decide +kernel
theorem dX7_step_53 : decode cX7_step 53 = .ok (.ireturn, 1) := by decide +kernel
theorem dX7_undoStep_0 : decode cX7_undoStep 0 = .ok (.aload_n 0, 1) := by decide +kernel
theorem dX7_undoStep_1 : decode cX7_undoStep 1 = .ok (.getfield 14, 3) := by decide +kernel
theorem dX7_undoStep_4 : decode cX7_undoStep 4 = .ok (.getfield 192, 3) := by decide +kernel
theorem dX7_undoStep_7 : decode cX7_undoStep 7 = .ok (.ifCond .ne 6, 3) := by decide +kernel
theorem dX7_undoStep_10 : decode cX7_undoStep 10 = .ok (.bipush (-5), 2) := by decide +kernel
theorem dX7_undoStep_12 : decode cX7_undoStep 12 = .ok (.ireturn, 1) := by decide +kernel
theorem dX7_undoStep_13 : decode cX7_undoStep 13 = .ok (.aload_n 0, 1) := by decide +kernel
theorem dX7_undoStep_14 : decode cX7_undoStep 14 = .ok (.getfield 14, 3) := by decide +kernel
theorem dX7_undoStep_17 : decode cX7_undoStep 17 = .ok (.invokevirtual 195, 3) := by decide +kernel
theorem dX7_undoStep_20 : decode cX7_undoStep 20 = .ok (.aload_n 0, 1) := by decide +kernel
theorem dX7_undoStep_21 : decode cX7_undoStep 21 = .ok (.getfield 14, 3) := by decide +kernel
theorem dX7_undoStep_24 : decode cX7_undoStep 24 = .ok (.getfield 189, 3) := by decide +kernel
theorem dX7_undoStep_27 : decode cX7_undoStep 27 = .ok (.ireturn, 1) := by decide +kernel
theorem dX7_chainLength_0 : decode cX7_chainLength 0 = .ok (.aload_n 0, 1) := by decide +kernel
theorem dX7_chainLength_1 : decode cX7_chainLength 1 = .ok (.getfield 14, 3) := by decide +kernel
theorem dX7_chainLength_4 : decode cX7_chainLength 4 = .ok (.getfield 189, 3) := by decide +kernel
theorem dX7_chainLength_7 : decode cX7_chainLength 7 = .ok (.ireturn, 1) := by decide +kernel
theorem dX7_copyAlpha_0 : decode cX7_copyAlpha 0 = .ok (.aload_n 0, 1) := by decide +kernel
theorem dX7_copyAlpha_1 : decode cX7_copyAlpha 1 = .ok (.iload_n 1, 1) := by decide +kernel
theorem dX7_copyAlpha_2 : decode cX7_copyAlpha 2 = .ok (.iload_n 2, 1) := by decide +kernel
theorem dX7_copyAlpha_3 : decode cX7_copyAlpha 3 = .ok (.aload_n 0, 1) := by decide +kernel
theorem dX7_copyAlpha_4 : decode cX7_copyAlpha 4 = .ok (.getfield 14, 3) := by decide +kernel
theorem dX7_copyAlpha_7 : decode cX7_copyAlpha 7 = .ok (.getfield 178, 3) := by decide +kernel
theorem dX7_copyAlpha_10 : decode cX7_copyAlpha 10 = .ok (.getfield 198, 3) := by decide +kernel
theorem dX7_copyAlpha_13 : decode cX7_copyAlpha 13 = .ok (.invokevirtual 201, 3) := by decide +kernel
theorem dX7_copyAlpha_16 : decode cX7_copyAlpha 16 = .ok (.ireturn, 1) := by decide +kernel
theorem dX7_copyBeta_0 : decode cX7_copyBeta 0 = .ok (.aload_n 0, 1) := by decide +kernel
theorem dX7_copyBeta_1 : decode cX7_copyBeta 1 = .ok (.iload_n 1, 1) := by decide +kernel
theorem dX7_copyBeta_2 : decode cX7_copyBeta 2 = .ok (.iload_n 2, 1) := by decide +kernel
theorem dX7_copyBeta_3 : decode cX7_copyBeta 3 = .ok (.aload_n 0, 1) := by decide +kernel
theorem dX7_copyBeta_4 : decode cX7_copyBeta 4 = .ok (.getfield 14, 3) := by decide +kernel
theorem dX7_copyBeta_7 : decode cX7_copyBeta 7 = .ok (.getfield 178, 3) := by decide +kernel
theorem dX7_copyBeta_10 : decode cX7_copyBeta 10 = .ok (.getfield 205, 3) := by decide +kernel
theorem dX7_copyBeta_13 : decode cX7_copyBeta 13 = .ok (.invokevirtual 201, 3) := by decide +kernel
theorem dX7_copyBeta_16 : decode cX7_copyBeta 16 = .ok (.ireturn, 1) := by decide +kernel
theorem dX7_sumSide_0 : decode cX7_sumSide 0 = .ok (.iload_n 1, 1) := by decide +kernel
theorem dX7_sumSide_1 : decode cX7_sumSide 1 = .ok (.invokestatic 82, 3) := by decide +kernel
theorem dX7_sumSide_4 : decode cX7_sumSide 4 = .ok (.ifCond .ne 6, 3) := by decide +kernel
theorem dX7_sumSide_7 : decode cX7_sumSide 7 = .ok (.bipush (-2), 2) := by decide +kernel
theorem dX7_sumSide_9 : decode cX7_sumSide 9 = .ok (.ireturn, 1) := by decide +kernel
theorem dX7_sumSide_10 : decode cX7_sumSide 10 = .ok (.aload_n 0, 1) := by decide +kernel
theorem dX7_sumSide_11 : decode cX7_sumSide 11 = .ok (.aload_n 0, 1) := by decide +kernel
theorem dX7_sumSide_12 : decode cX7_sumSide 12 = .ok (.getfield 14, 3) := by decide +kernel
theorem dX7_sumSide_15 : decode cX7_sumSide 15 = .ok (.getfield 178, 3) := by decide +kernel
theorem dX7_sumSide_18 : decode cX7_sumSide 18 = .ok (.getfield 205, 3) := by decide +kernel
theorem dX7_sumSide_21 : decode cX7_sumSide 21 = .ok (.invokevirtual 208, 3) := by decide +kernel
theorem dX7_sumSide_24 : decode cX7_sumSide 24 = .ok (.aload_n 0, 1) := by decide +kernel
theorem dX7_sumSide_25 : decode cX7_sumSide 25 = .ok (.iload_n 1, 1) := by decide +kernel
theorem dX7_sumSide_26 : decode cX7_sumSide 26 = .ok (.invokevirtual 111, 3) := by decide +kernel
theorem dX7_sumSide_29 : decode cX7_sumSide 29 = .ok (.ireturn, 1) := by decide +kernel
theorem dX7_productSide_0 : decode cX7_productSide 0 = .ok (.iload_n 1, 1) := by decide +kernel
theorem dX7_productSide_1 : decode cX7_productSide 1 = .ok (.invokestatic 82, 3) := by decide +kernel
theorem dX7_productSide_4 : decode cX7_productSide 4 = .ok (.ifCond .ne 6, 3) := by decide +kernel
theorem dX7_productSide_7 : decode cX7_productSide 7 = .ok (.bipush (-2), 2) := by decide +kernel
theorem dX7_productSide_9 : decode cX7_productSide 9 = .ok (.ireturn, 1) := by decide +kernel
theorem dX7_productSide_10 : decode cX7_productSide 10 = .ok (.aload_n 0, 1) := by decide +kernel
theorem dX7_productSide_11 : decode cX7_productSide 11 = .ok (.aload_n 0, 1) := by decide +kernel
theorem dX7_productSide_12 : decode cX7_productSide 12 = .ok (.getfield 14, 3) := by decide +kernel
theorem dX7_productSide_15 : decode cX7_productSide 15 = .ok (.getfield 178, 3) := by decide +kernel
theorem dX7_productSide_18 : decode cX7_productSide 18 = .ok (.getfield 198, 3) := by decide +kernel
theorem dX7_productSide_21 : decode cX7_productSide 21 = .ok (.invokevirtual 208, 3) := by decide +kernel
theorem dX7_productSide_24 : decode cX7_productSide 24 = .ok (.aload_n 0, 1) := by decide +kernel
theorem dX7_productSide_25 : decode cX7_productSide 25 = .ok (.getfield 35, 3) := by decide +kernel
theorem dX7_productSide_28 : decode cX7_productSide 28 = .ok (.aload_n 0, 1) := by decide +kernel
theorem dX7_productSide_29 : decode cX7_productSide 29 = .ok (.getfield 14, 3) := by decide +kernel
theorem dX7_productSide_32 : decode cX7_productSide 32 = .ok (.getfield 178, 3) := by decide +kernel
theorem dX7_productSide_35 : decode cX7_productSide 35 = .ok (.getfield 212, 3) := by decide +kernel
theorem dX7_productSide_38 : decode cX7_productSide 38 = .ok (.iconst 1, 1) := by decide +kernel
theorem dX7_productSide_39 : decode cX7_productSide 39 = .ok (.iadd, 1) := by decide +kernel
theorem dX7_productSide_40 : decode cX7_productSide 40 = .ok (.aload_n 0, 1) := by decide +kernel
theorem dX7_productSide_41 : decode cX7_productSide 41 = .ok (.getfield 14, 3) := by decide +kernel
theorem dX7_productSide_44 : decode cX7_productSide 44 = .ok (.getfield 78, 3) := by decide +kernel
theorem dX7_productSide_47 : decode cX7_productSide 47 = .ok (.invokevirtual 215, 3) := by decide +kernel
theorem dX7_productSide_50 : decode cX7_productSide 50 = .ok (.aload_n 0, 1) := by decide +kernel
theorem dX7_productSide_51 : decode cX7_productSide 51 = .ok (.iload_n 1, 1) := by decide +kernel
theorem dX7_productSide_52 : decode cX7_productSide 52 = .ok (.invokevirtual 111, 3) := by decide +kernel
theorem dX7_productSide_55 : decode cX7_productSide 55 = .ok (.ireturn, 1) := by decide +kernel
theorem dX7_countPartitions_0 : decode cX7_countPartitions 0 = .ok (.iload_n 1, 1) := by decide +kernel
theorem dX7_countPartitions_1 : decode cX7_countPartitions 1 = .ok (.ifCond .lt 17, 3) := by decide +kernel
theorem dX7_countPartitions_4 : decode cX7_countPartitions 4 = .ok (.iload_n 1, 1) := by decide +kernel
theorem dX7_countPartitions_5 : decode cX7_countPartitions 5 = .ok (.bipush 60, 2) := by decide +kernel
theorem dX7_countPartitions_7 : decode cX7_countPartitions 7 = .ok (.if_icmp .gt 11, 3) := by decide +kernel
theorem dX7_countPartitions_10 : decode cX7_countPartitions 10 = .ok (.iload_n 2, 1) := by decide +kernel
theorem dX7_countPartitions_11 : decode cX7_countPartitions 11 = .ok (.iload_n 3, 1) := by decide +kernel
theorem dX7_countPartitions_12 : decode cX7_countPartitions 12 = .ok (.invokestatic 130, 3) := by decide +kernel
theorem dX7_countPartitions_15 : decode cX7_countPartitions 15 = .ok (.ifCond .ne 7, 3) := by decide +kernel
theorem dX7_countPartitions_18 : decode cX7_countPartitions 18 = .ok (.ldc2_w 95, 3) := by decide +kernel
theorem dX7_countPartitions_21 : decode cX7_countPartitions 21 = .ok (.lreturn, 1) := by decide +kernel
theorem dX7_countPartitions_22 : decode cX7_countPartitions 22 = .ok (.aload_n 0, 1) := by decide +kernel
theorem dX7_countPartitions_23 : decode cX7_countPartitions 23 = .ok (.getfield 42, 3) := by decide +kernel
theorem dX7_countPartitions_26 : decode cX7_countPartitions 26 = .ok (.lconst 0, 1) := by decide +kernel
theorem dX7_countPartitions_27 : decode cX7_countPartitions 27 = .ok (.invokestatic 218, 3) := by decide +kernel
theorem dX7_countPartitions_30 : decode cX7_countPartitions 30 = .ok (.aload_n 0, 1) := by decide +kernel
theorem dX7_countPartitions_31 : decode cX7_countPartitions 31 = .ok (.getfield 42, 3) := by decide +kernel
theorem dX7_countPartitions_34 : decode cX7_countPartitions 34 = .ok (.iconst 0, 1) := by decide +kernel
theorem dX7_countPartitions_35 : decode cX7_countPartitions 35 = .ok (.lconst 1, 1) := by decide +kernel
theorem dX7_countPartitions_36 : decode cX7_countPartitions 36 = .ok (.lastore, 1) := by decide +kernel
theorem dX7_countPartitions_37 : decode cX7_countPartitions 37 = .ok (.iconst 1, 1) := by decide +kernel
theorem dX7_countPartitions_38 : decode cX7_countPartitions 38 = .ok (.istore 4, 2) := by decide +kernel
theorem dX7_countPartitions_40 : decode cX7_countPartitions 40 = .ok (.iload 4, 2) := by decide +kernel
theorem dX7_countPartitions_42 : decode cX7_countPartitions 42 = .ok (.iload_n 1, 1) := by decide +kernel
theorem dX7_countPartitions_43 : decode cX7_countPartitions 43 = .ok (.if_icmp .gt 55, 3) := by decide +kernel
theorem dX7_countPartitions_46 : decode cX7_countPartitions 46 = .ok (.iload 4, 2) := by decide +kernel
theorem dX7_countPartitions_48 : decode cX7_countPartitions 48 = .ok (.iload_n 2, 1) := by decide +kernel
theorem dX7_countPartitions_49 : decode cX7_countPartitions 49 = .ok (.iload_n 3, 1) := by decide +kernel
theorem dX7_countPartitions_50 : decode cX7_countPartitions 50 = .ok (.invokestatic 134, 3) := by decide +kernel
theorem dX7_countPartitions_53 : decode cX7_countPartitions 53 = .ok (.ifCond .eq 39, 3) := by decide +kernel
theorem dX7_countPartitions_56 : decode cX7_countPartitions 56 = .ok (.iload 4, 2) := by decide +kernel
theorem dX7_countPartitions_58 : decode cX7_countPartitions 58 = .ok (.istore 5, 2) := by decide +kernel
theorem dX7_countPartitions_60 : decode cX7_countPartitions 60 = .ok (.iload 5, 2) := by decide +kernel
theorem dX7_countPartitions_62 : decode cX7_countPartitions 62 = .ok (.iload_n 1, 1) := by decide +kernel
theorem dX7_countPartitions_63 : decode cX7_countPartitions 63 = .ok (.if_icmp .gt 29, 3) := by decide +kernel
theorem dX7_countPartitions_66 : decode cX7_countPartitions 66 = .ok (.aload_n 0, 1) := by decide +kernel
theorem dX7_countPartitions_67 : decode cX7_countPartitions 67 = .ok (.getfield 42, 3) := by decide +kernel
theorem dX7_countPartitions_70 : decode cX7_countPartitions 70 = .ok (.iload 5, 2) := by decide +kernel
theorem dX7_countPartitions_72 : decode cX7_countPartitions 72 = .ok (.dup2, 1) := by decide +kernel
theorem dX7_countPartitions_73 : decode cX7_countPartitions 73 = .ok (.laload, 1) := by decide +kernel
theorem dX7_countPartitions_74 : decode cX7_countPartitions 74 = .ok (.aload_n 0, 1) := by decide +kernel
theorem dX7_countPartitions_75 : decode cX7_countPartitions 75 = .ok (.getfield 42, 3) := by decide +kernel
theorem dX7_countPartitions_78 : decode cX7_countPartitions 78 = .ok (.iload 5, 2) := by decide +kernel
theorem dX7_countPartitions_80 : decode cX7_countPartitions 80 = .ok (.iload 4, 2) := by decide +kernel
theorem dX7_countPartitions_82 : decode cX7_countPartitions 82 = .ok (.isub, 1) := by decide +kernel
theorem dX7_countPartitions_83 : decode cX7_countPartitions 83 = .ok (.laload, 1) := by decide +kernel
theorem dX7_countPartitions_84 : decode cX7_countPartitions 84 = .ok (.ladd, 1) := by decide +kernel
theorem dX7_countPartitions_85 : decode cX7_countPartitions 85 = .ok (.lastore, 1) := by decide +kernel
theorem dX7_countPartitions_86 : decode cX7_countPartitions 86 = .ok (.iinc 5 1, 3) := by decide +kernel
theorem dX7_countPartitions_89 : decode cX7_countPartitions 89 = .ok (.goto (-29), 3) := by decide +kernel
theorem dX7_countPartitions_92 : decode cX7_countPartitions 92 = .ok (.iinc 4 1, 3) := by decide +kernel
theorem dX7_countPartitions_95 : decode cX7_countPartitions 95 = .ok (.goto (-55), 3) := by decide +kernel
theorem dX7_countPartitions_98 : decode cX7_countPartitions 98 = .ok (.aload_n 0, 1) := by decide +kernel
theorem dX7_countPartitions_99 : decode cX7_countPartitions 99 = .ok (.getfield 42, 3) := by decide +kernel
theorem dX7_countPartitions_102 : decode cX7_countPartitions 102 = .ok (.iload_n 1, 1) := by decide +kernel
theorem dX7_countPartitions_103 : decode cX7_countPartitions 103 = .ok (.laload, 1) := by decide +kernel
theorem dX7_countPartitions_104 : decode cX7_countPartitions 104 = .ok (.lreturn, 1) := by decide +kernel
theorem dX7_listPartitions_0 : decode cX7_listPartitions 0 = .ok (.iload_n 1, 1) := by decide +kernel
theorem dX7_listPartitions_1 : decode cX7_listPartitions 1 = .ok (.iconst 1, 1) := by decide +kernel
theorem dX7_listPartitions_2 : decode cX7_listPartitions 2 = .ok (.if_icmp .lt 9, 3) := by decide +kernel
theorem dX7_listPartitions_5 : decode cX7_listPartitions 5 = .ok (.iload_n 1, 1) := by decide +kernel
theorem dX7_listPartitions_6 : decode cX7_listPartitions 6 = .ok (.bipush 16, 2) := by decide +kernel
theorem dX7_listPartitions_8 : decode cX7_listPartitions 8 = .ok (.if_icmp .le 5, 3) := by decide +kernel
theorem dX7_listPartitions_11 : decode cX7_listPartitions 11 = .ok (.iconst (-1), 1) := by decide +kernel
theorem dX7_listPartitions_12 : decode cX7_listPartitions 12 = .ok (.ireturn, 1) := by decide +kernel
theorem dX7_listPartitions_13 : decode cX7_listPartitions 13 = .ok (.aload_n 0, 1) := by decide +kernel
theorem dX7_listPartitions_14 : decode cX7_listPartitions 14 = .ok (.getfield 49, 3) := by decide +kernel
theorem dX7_listPartitions_17 : decode cX7_listPartitions 17 = .ok (.iload_n 1, 1) := by decide +kernel
theorem dX7_listPartitions_18 : decode cX7_listPartitions 18 = .ok (.invokevirtual 224, 3) := by decide +kernel
theorem dX7_listPartitions_21 : decode cX7_listPartitions 21 = .ok (.aload_n 0, 1) := by decide +kernel
theorem dX7_listPartitions_22 : decode cX7_listPartitions 22 = .ok (.getfield 49, 3) := by decide +kernel
theorem dX7_listPartitions_25 : decode cX7_listPartitions 25 = .ok (.getfield 227, 3) := by decide +kernel
theorem dX7_listPartitions_28 : decode cX7_listPartitions 28 = .ok (.ireturn, 1) := by decide +kernel
theorem dX7_filterPartitions_0 : decode cX7_filterPartitions 0 = .ok (.aload_n 0, 1) := by decide +kernel
theorem dX7_filterPartitions_1 : decode cX7_filterPartitions 1 = .ok (.invokevirtual 230, 3) := by decide +kernel
theorem dX7_filterPartitions_4 : decode cX7_filterPartitions 4 = .ok (.istore_n 1, 1) := by decide +kernel
theorem dX7_filterPartitions_5 : decode cX7_filterPartitions 5 = .ok (.aload_n 0, 1) := by decide +kernel
theorem dX7_filterPartitions_6 : decode cX7_filterPartitions 6 = .ok (.getfield 56, 3) := by decide +kernel
theorem dX7_filterPartitions_9 : decode cX7_filterPartitions 9 = .ok (.iconst 0, 1) := by decide +kernel
theorem dX7_filterPartitions_10 : decode cX7_filterPartitions 10 = .ok (.putfield 234, 3) := by decide +kernel
theorem dX7_filterPartitions_13 : decode cX7_filterPartitions 13 = .ok (.iload_n 1, 1) := by decide +kernel
theorem dX7_filterPartitions_14 : decode cX7_filterPartitions 14 = .ok (.ifCond .ne 5, 3) := by decide +kernel
theorem dX7_filterPartitions_17 : decode cX7_filterPartitions 17 = .ok (.iconst (-1), 1) := by decide +kernel
theorem dX7_filterPartitions_18 : decode cX7_filterPartitions 18 = .ok (.ireturn, 1) := by decide +kernel
theorem dX7_filterPartitions_19 : decode cX7_filterPartitions 19 = .ok (.aload_n 0, 1) := by decide +kernel
theorem dX7_filterPartitions_20 : decode cX7_filterPartitions 20 = .ok (.getfield 49, 3) := by decide +kernel
theorem dX7_filterPartitions_23 : decode cX7_filterPartitions 23 = .ok (.iload_n 1, 1) := by decide +kernel
theorem dX7_filterPartitions_24 : decode cX7_filterPartitions 24 = .ok (.invokevirtual 235, 3) := by decide +kernel
theorem dX7_filterPartitions_27 : decode cX7_filterPartitions 27 = .ok (.aload_n 0, 1) := by decide +kernel
theorem dX7_filterPartitions_28 : decode cX7_filterPartitions 28 = .ok (.getfield 49, 3) := by decide +kernel
theorem dX7_filterPartitions_31 : decode cX7_filterPartitions 31 = .ok (.getfield 227, 3) := by decide +kernel
theorem dX7_filterPartitions_34 : decode cX7_filterPartitions 34 = .ok (.ireturn, 1) := by decide +kernel
theorem dX7_part_0 : decode cX7_part 0 = .ok (.iload_n 1, 1) := by decide +kernel
theorem dX7_part_1 : decode cX7_part 1 = .ok (.ifCond .lt 7, 3) := by decide +kernel
theorem dX7_part_4 : decode cX7_part 4 = .ok (.iload_n 2, 1) := by decide +kernel
theorem dX7_part_5 : decode cX7_part 5 = .ok (.ifCond .ge 5, 3) := by decide +kernel
theorem dX7_part_8 : decode cX7_part 8 = .ok (.iconst (-1), 1) := by decide +kernel
theorem dX7_part_9 : decode cX7_part 9 = .ok (.ireturn, 1) := by decide +kernel
theorem dX7_part_10 : decode cX7_part 10 = .ok (.iload_n 1, 1) := by decide +kernel
theorem dX7_part_11 : decode cX7_part 11 = .ok (.aload_n 0, 1) := by decide +kernel
theorem dX7_part_12 : decode cX7_part 12 = .ok (.getfield 49, 3) := by decide +kernel
theorem dX7_part_15 : decode cX7_part 15 = .ok (.getfield 227, 3) := by decide +kernel
theorem dX7_part_18 : decode cX7_part 18 = .ok (.if_icmp .ge 9, 3) := by decide +kernel
theorem dX7_part_21 : decode cX7_part 21 = .ok (.iload_n 2, 1) := by decide +kernel
theorem dX7_part_22 : decode cX7_part 22 = .ok (.bipush 16, 2) := by decide +kernel
theorem dX7_part_24 : decode cX7_part 24 = .ok (.if_icmp .lt 6, 3) := by decide +kernel
theorem dX7_part_27 : decode cX7_part 27 = .ok (.bipush (-7), 2) := by decide +kernel
theorem dX7_part_29 : decode cX7_part 29 = .ok (.ireturn, 1) := by decide +kernel
theorem dX7_part_30 : decode cX7_part 30 = .ok (.aload_n 0, 1) := by decide +kernel
theorem dX7_part_31 : decode cX7_part 31 = .ok (.getfield 49, 3) := by decide +kernel
theorem dX7_part_34 : decode cX7_part 34 = .ok (.iload_n 1, 1) := by decide +kernel
theorem dX7_part_35 : decode cX7_part 35 = .ok (.iload_n 2, 1) := by decide +kernel
theorem dX7_part_36 : decode cX7_part 36 = .ok (.invokevirtual 238, 3) := by decide +kernel
theorem dX7_part_39 : decode cX7_part 39 = .ok (.istore_n 3, 1) := by decide +kernel
theorem dX7_part_40 : decode cX7_part 40 = .ok (.iload_n 3, 1) := by decide +kernel
theorem dX7_part_41 : decode cX7_part 41 = .ok (.ifCond .ne 8, 3) := by decide +kernel
theorem dX7_part_44 : decode cX7_part 44 = .ok (.bipush (-7), 2) := by decide +kernel
theorem dX7_part_46 : decode cX7_part 46 = .ok (.goto 4, 3) := by decide +kernel
theorem dX7_part_49 : decode cX7_part 49 = .ok (.iload_n 3, 1) := by decide +kernel
theorem dX7_part_50 : decode cX7_part 50 = .ok (.ireturn, 1) := by decide +kernel
theorem dX7_append_0 : decode cX7_append 0 = .ok (.iload_n 2, 1) := by decide +kernel
theorem dX7_append_1 : decode cX7_append 1 = .ok (.iconst 1, 1) := by decide +kernel
theorem dX7_append_2 : decode cX7_append 2 = .ok (.if_icmp .lt 8, 3) := by decide +kernel
theorem dX7_append_5 : decode cX7_append 5 = .ok (.iload_n 2, 1) := by decide +kernel
theorem dX7_append_6 : decode cX7_append 6 = .ok (.iconst 4, 1) := by decide +kernel
theorem dX7_append_7 : decode cX7_append 7 = .ok (.if_icmp .le 5, 3) := by decide +kernel
theorem dX7_append_10 : decode cX7_append 10 = .ok (.iconst (-1), 1) := by decide +kernel
theorem dX7_append_11 : decode cX7_append 11 = .ok (.ireturn, 1) := by decide +kernel
theorem dX7_append_12 : decode cX7_append 12 = .ok (.iconst 0, 1) := by decide +kernel
theorem dX7_append_13 : decode cX7_append 13 = .ok (.istore_n 3, 1) := by decide +kernel
theorem dX7_append_14 : decode cX7_append 14 = .ok (.iload_n 3, 1) := by decide +kernel
theorem dX7_append_15 : decode cX7_append 15 = .ok (.iload_n 2, 1) := by decide +kernel
theorem dX7_append_16 : decode cX7_append 16 = .ok (.if_icmp .ge 21, 3) := by decide +kernel
theorem dX7_append_19 : decode cX7_append 19 = .ok (.iload_n 1, 1) := by decide +kernel
theorem dX7_append_20 : decode cX7_append 20 = .ok (.iload_n 3, 1) := by decide +kernel
theorem dX7_append_21 : decode cX7_append 21 = .ok (.invokestatic 242, 3) := by decide +kernel
theorem dX7_append_24 : decode cX7_append 24 = .ok (.bipush 127, 2) := by decide +kernel
theorem dX7_append_26 : decode cX7_append 26 = .ok (.if_icmp .le 5, 3) := by decide +kernel
theorem dX7_append_29 : decode cX7_append 29 = .ok (.iconst (-1), 1) := by decide +kernel
theorem dX7_append_30 : decode cX7_append 30 = .ok (.ireturn, 1) := by decide +kernel
theorem dX7_append_31 : decode cX7_append 31 = .ok (.iinc 3 1, 3) := by decide +kernel
theorem dX7_append_34 : decode cX7_append 34 = .ok (.goto (-20), 3) := by decide +kernel
theorem dX7_append_37 : decode cX7_append 37 = .ok (.aload_n 0, 1) := by decide +kernel
theorem dX7_append_38 : decode cX7_append 38 = .ok (.getfield 56, 3) := by decide +kernel
theorem dX7_append_41 : decode cX7_append 41 = .ok (.getfield 234, 3) := by decide +kernel
theorem dX7_append_44 : decode cX7_append 44 = .ok (.iload_n 2, 1) := by decide +kernel
theorem dX7_append_45 : decode cX7_append 45 = .ok (.iadd, 1) := by decide +kernel
theorem dX7_append_46 : decode cX7_append 46 = .ok (.bipush 60, 2) := by decide +kernel
theorem dX7_append_48 : decode cX7_append 48 = .ok (.if_icmp .le 6, 3) := by decide +kernel
theorem dX7_append_51 : decode cX7_append 51 = .ok (.bipush (-6), 2) := by decide +kernel
theorem dX7_append_53 : decode cX7_append 53 = .ok (.ireturn, 1) := by decide +kernel
theorem dX7_append_54 : decode cX7_append 54 = .ok (.iload_n 2, 1) := by decide +kernel
theorem dX7_append_55 : decode cX7_append 55 = .ok (.iconst 1, 1) := by decide +kernel
theorem dX7_append_56 : decode cX7_append 56 = .ok (.isub, 1) := by decide +kernel
theorem dX7_append_57 : decode cX7_append 57 = .ok (.istore_n 3, 1) := by decide +kernel
theorem dX7_append_58 : decode cX7_append 58 = .ok (.iload_n 3, 1) := by decide +kernel
theorem dX7_append_59 : decode cX7_append 59 = .ok (.ifCond .lt 21, 3) := by decide +kernel
theorem dX7_append_62 : decode cX7_append 62 = .ok (.aload_n 0, 1) := by decide +kernel
theorem dX7_append_63 : decode cX7_append 63 = .ok (.getfield 56, 3) := by decide +kernel
theorem dX7_append_66 : decode cX7_append 66 = .ok (.iload_n 1, 1) := by decide +kernel
theorem dX7_append_67 : decode cX7_append 67 = .ok (.iload_n 3, 1) := by decide +kernel
theorem dX7_append_68 : decode cX7_append 68 = .ok (.invokestatic 242, 3) := by decide +kernel
theorem dX7_append_71 : decode cX7_append 71 = .ok (.invokevirtual 245, 3) := by decide +kernel
theorem dX7_append_74 : decode cX7_append 74 = .ok (.iinc 3 (-1), 3) := by decide +kernel
theorem dX7_append_77 : decode cX7_append 77 = .ok (.goto (-19), 3) := by decide +kernel
theorem dX7_append_80 : decode cX7_append 80 = .ok (.aload_n 0, 1) := by decide +kernel
theorem dX7_append_81 : decode cX7_append 81 = .ok (.getfield 56, 3) := by decide +kernel
theorem dX7_append_84 : decode cX7_append 84 = .ok (.getfield 234, 3) := by decide +kernel
theorem dX7_append_87 : decode cX7_append 87 = .ok (.ireturn, 1) := by decide +kernel
theorem dX7_clearInput_0 : decode cX7_clearInput 0 = .ok (.aload_n 0, 1) := by decide +kernel
theorem dX7_clearInput_1 : decode cX7_clearInput 1 = .ok (.getfield 56, 3) := by decide +kernel
theorem dX7_clearInput_4 : decode cX7_clearInput 4 = .ok (.getfield 234, 3) := by decide +kernel
theorem dX7_clearInput_7 : decode cX7_clearInput 7 = .ok (.istore_n 1, 1) := by decide +kernel
theorem dX7_clearInput_8 : decode cX7_clearInput 8 = .ok (.aload_n 0, 1) := by decide +kernel
theorem dX7_clearInput_9 : decode cX7_clearInput 9 = .ok (.getfield 56, 3) := by decide +kernel
theorem dX7_clearInput_12 : decode cX7_clearInput 12 = .ok (.iconst 0, 1) := by decide +kernel
theorem dX7_clearInput_13 : decode cX7_clearInput 13 = .ok (.putfield 234, 3) := by decide +kernel
theorem dX7_clearInput_16 : decode cX7_clearInput 16 = .ok (.iload_n 1, 1) := by decide +kernel
theorem dX7_clearInput_17 : decode cX7_clearInput 17 = .ok (.ireturn, 1) := by decide +kernel
theorem dX7_parseSeries_0 : decode cX7_parseSeries 0 = .ok (.iload_n 1, 1) := by decide +kernel
theorem dX7_parseSeries_1 : decode cX7_parseSeries 1 = .ok (.invokestatic 82, 3) := by decide +kernel
theorem dX7_parseSeries_4 : decode cX7_parseSeries 4 = .ok (.ifCond .ne 6, 3) := by decide +kernel
theorem dX7_parseSeries_7 : decode cX7_parseSeries 7 = .ok (.bipush (-2), 2) := by decide +kernel
theorem dX7_parseSeries_9 : decode cX7_parseSeries 9 = .ok (.ireturn, 1) := by decide +kernel
theorem dX7_parseSeries_10 : decode cX7_parseSeries 10 = .ok (.aload_n 0, 1) := by decide +kernel
theorem dX7_parseSeries_11 : decode cX7_parseSeries 11 = .ok (.getfield 35, 3) := by decide +kernel
theorem dX7_parseSeries_14 : decode cX7_parseSeries 14 = .ok (.aload_n 0, 1) := by decide +kernel
theorem dX7_parseSeries_15 : decode cX7_parseSeries 15 = .ok (.getfield 14, 3) := by decide +kernel
theorem dX7_parseSeries_18 : decode cX7_parseSeries 18 = .ok (.getfield 78, 3) := by decide +kernel
theorem dX7_parseSeries_21 : decode cX7_parseSeries 21 = .ok (.invokevirtual 104, 3) := by decide +kernel
theorem dX7_parseSeries_24 : decode cX7_parseSeries 24 = .ok (.aload_n 0, 1) := by decide +kernel
theorem dX7_parseSeries_25 : decode cX7_parseSeries 25 = .ok (.getfield 56, 3) := by decide +kernel
theorem dX7_parseSeries_28 : decode cX7_parseSeries 28 = .ok (.aload_n 0, 1) := by decide +kernel
theorem dX7_parseSeries_29 : decode cX7_parseSeries 29 = .ok (.getfield 35, 3) := by decide +kernel
theorem dX7_parseSeries_32 : decode cX7_parseSeries 32 = .ok (.invokevirtual 248, 3) := by decide +kernel
theorem dX7_parseSeries_35 : decode cX7_parseSeries 35 = .ok (.istore_n 2, 1) := by decide +kernel
theorem dX7_parseSeries_36 : decode cX7_parseSeries 36 = .ok (.aload_n 0, 1) := by decide +kernel
theorem dX7_parseSeries_37 : decode cX7_parseSeries 37 = .ok (.getfield 56, 3) := by decide +kernel
theorem dX7_parseSeries_40 : decode cX7_parseSeries 40 = .ok (.iconst 0, 1) := by decide +kernel
theorem dX7_parseSeries_41 : decode cX7_parseSeries 41 = .ok (.putfield 234, 3) := by decide +kernel
theorem dX7_parseSeries_44 : decode cX7_parseSeries 44 = .ok (.iload_n 2, 1) := by decide +kernel
theorem dX7_parseSeries_45 : decode cX7_parseSeries 45 = .ok (.ifCond .ne 15, 3) := by decide +kernel
theorem dX7_parseSeries_48 : decode cX7_parseSeries 48 = .ok (.sipush (-1000), 3) := by decide +kernel
theorem dX7_parseSeries_51 : decode cX7_parseSeries 51 = .ok (.aload_n 0, 1) := by decide +kernel
theorem dX7_parseSeries_52 : decode cX7_parseSeries 52 = .ok (.getfield 56, 3) := by decide +kernel
theorem dX7_parseSeries_55 : decode cX7_parseSeries 55 = .ok (.getfield 252, 3) := by decide +kernel
theorem dX7_parseSeries_58 : decode cX7_parseSeries 58 = .ok (.isub, 1) := by decide +kernel
theorem dX7_parseSeries_59 : decode cX7_parseSeries 59 = .ok (.ireturn, 1) := by decide +kernel
theorem dX7_parseSeries_60 : decode cX7_parseSeries 60 = .ok (.aload_n 0, 1) := by decide +kernel
theorem dX7_parseSeries_61 : decode cX7_parseSeries 61 = .ok (.iload_n 1, 1) := by decide +kernel
theorem dX7_parseSeries_62 : decode cX7_parseSeries 62 = .ok (.invokevirtual 111, 3) := by decide +kernel
theorem dX7_parseSeries_65 : decode cX7_parseSeries 65 = .ok (.ireturn, 1) := by decide +kernel
theorem dX7_format_0 : decode cX7_format 0 = .ok (.iload_n 1, 1) := by decide +kernel
theorem dX7_format_1 : decode cX7_format 1 = .ok (.invokestatic 82, 3) := by decide +kernel
theorem dX7_format_4 : decode cX7_format 4 = .ok (.ifCond .ne 6, 3) := by decide +kernel
theorem dX7_format_7 : decode cX7_format 7 = .ok (.bipush (-2), 2) := by decide +kernel
theorem dX7_format_9 : decode cX7_format 9 = .ok (.ireturn, 1) := by decide +kernel
theorem dX7_format_10 : decode cX7_format 10 = .ok (.aload_n 0, 1) := by decide +kernel
theorem dX7_format_11 : decode cX7_format 11 = .ok (.getfield 63, 3) := by decide +kernel
theorem dX7_format_14 : decode cX7_format 14 = .ok (.aload_n 0, 1) := by decide +kernel
theorem dX7_format_15 : decode cX7_format 15 = .ok (.getfield 14, 3) := by decide +kernel
theorem dX7_format_18 : decode cX7_format 18 = .ok (.getfield 91, 3) := by decide +kernel
theorem dX7_format_21 : decode cX7_format 21 = .ok (.iload_n 1, 1) := by decide +kernel
theorem dX7_format_22 : decode cX7_format 22 = .ok (.aaload, 1) := by decide +kernel
theorem dX7_format_23 : decode cX7_format 23 = .ok (.aload_n 0, 1) := by decide +kernel
theorem dX7_format_24 : decode cX7_format 24 = .ok (.getfield 14, 3) := by decide +kernel
theorem dX7_format_27 : decode cX7_format 27 = .ok (.getfield 78, 3) := by decide +kernel
theorem dX7_format_30 : decode cX7_format 30 = .ok (.invokevirtual 255, 3) := by decide +kernel
theorem dX7_format_33 : decode cX7_format 33 = .ok (.aload_n 0, 1) := by decide +kernel
theorem dX7_format_34 : decode cX7_format 34 = .ok (.getfield 63, 3) := by decide +kernel
theorem dX7_format_37 : decode cX7_format 37 = .ok (.getfield 258, 3) := by decide +kernel
theorem dX7_format_40 : decode cX7_format 40 = .ok (.ireturn, 1) := by decide +kernel
theorem dX7_outputByte_0 : decode cX7_outputByte 0 = .ok (.iload_n 1, 1) := by decide +kernel
theorem dX7_outputByte_1 : decode cX7_outputByte 1 = .ok (.ifCond .lt 14, 3) := by decide +kernel
theorem dX7_outputByte_4 : decode cX7_outputByte 4 = .ok (.iload_n 1, 1) := by decide +kernel
theorem dX7_outputByte_5 : decode cX7_outputByte 5 = .ok (.aload_n 0, 1) := by decide +kernel
theorem dX7_outputByte_6 : decode cX7_outputByte 6 = .ok (.getfield 63, 3) := by decide +kernel
theorem dX7_outputByte_9 : decode cX7_outputByte 9 = .ok (.getfield 258, 3) := by decide +kernel
theorem dX7_outputByte_12 : decode cX7_outputByte 12 = .ok (.if_icmp .lt 6, 3) := by decide +kernel
theorem dX7_outputByte_15 : decode cX7_outputByte 15 = .ok (.bipush (-7), 2) := by decide +kernel
theorem dX7_outputByte_17 : decode cX7_outputByte 17 = .ok (.ireturn, 1) := by decide +kernel
theorem dX7_outputByte_18 : decode cX7_outputByte 18 = .ok (.aload_n 0, 1) := by decide +kernel
theorem dX7_outputByte_19 : decode cX7_outputByte 19 = .ok (.getfield 63, 3) := by decide +kernel
theorem dX7_outputByte_22 : decode cX7_outputByte 22 = .ok (.getfield 259, 3) := by decide +kernel
theorem dX7_outputByte_25 : decode cX7_outputByte 25 = .ok (.iload_n 1, 1) := by decide +kernel
theorem dX7_outputByte_26 : decode cX7_outputByte 26 = .ok (.baload, 1) := by decide +kernel
theorem dX7_outputByte_27 : decode cX7_outputByte 27 = .ok (.ireturn, 1) := by decide +kernel
theorem dX7_allocate_0 : decode cX7_allocate 0 = .ok (.iload_n 1, 1) := by decide +kernel
theorem dX7_allocate_1 : decode cX7_allocate 1 = .ok (.invokestatic 263, 3) := by decide +kernel
theorem dX7_allocate_4 : decode cX7_allocate 4 = .ok (.ifCond .eq 18, 3) := by decide +kernel
theorem dX7_allocate_7 : decode cX7_allocate 7 = .ok (.iload_n 2, 1) := by decide +kernel
theorem dX7_allocate_8 : decode cX7_allocate 8 = .ok (.ifCond .lt 14, 3) := by decide +kernel
theorem dX7_allocate_11 : decode cX7_allocate 11 = .ok (.iload_n 2, 1) := by decide +kernel
theorem dX7_allocate_12 : decode cX7_allocate 12 = .ok (.iconst 3, 1) := by decide +kernel
theorem dX7_allocate_13 : decode cX7_allocate 13 = .ok (.if_icmp .gt 9, 3) := by decide +kernel
theorem dX7_allocate_16 : decode cX7_allocate 16 = .ok (.iload_n 3, 1) := by decide +kernel
theorem dX7_allocate_17 : decode cX7_allocate 17 = .ok (.bipush 40, 2) := by decide +kernel
theorem dX7_allocate_19 : decode cX7_allocate 19 = .ok (.if_icmp .le 5, 3) := by decide +kernel
theorem dX7_allocate_22 : decode cX7_allocate 22 = .ok (.iconst (-1), 1) := by decide +kernel
theorem dX7_allocate_23 : decode cX7_allocate 23 = .ok (.ireturn, 1) := by decide +kernel
theorem dX7_allocate_24 : decode cX7_allocate 24 = .ok (.iload_n 3, 1) := by decide +kernel
theorem dX7_allocate_25 : decode cX7_allocate 25 = .ok (.ifCond .ge 6, 3) := by decide +kernel
theorem dX7_allocate_28 : decode cX7_allocate 28 = .ok (.bipush (-14), 2) := by decide +kernel
theorem dX7_allocate_30 : decode cX7_allocate 30 = .ok (.ireturn, 1) := by decide +kernel
theorem dX7_allocate_31 : decode cX7_allocate 31 = .ok (.aload_n 0, 1) := by decide +kernel
theorem dX7_allocate_32 : decode cX7_allocate 32 = .ok (.getfield 69, 3) := by decide +kernel
theorem dX7_allocate_35 : decode cX7_allocate 35 = .ok (.iload_n 1, 1) := by decide +kernel
theorem dX7_allocate_36 : decode cX7_allocate 36 = .ok (.aaload, 1) := by decide +kernel
theorem dX7_allocate_37 : decode cX7_allocate 37 = .ok (.iload_n 2, 1) := by decide +kernel
theorem dX7_allocate_38 : decode cX7_allocate 38 = .ok (.iload_n 3, 1) := by decide +kernel
theorem dX7_allocate_39 : decode cX7_allocate 39 = .ok (.invokevirtual 266, 3) := by decide +kernel
theorem dX7_allocate_42 : decode cX7_allocate 42 = .ok (.iload_n 3, 1) := by decide +kernel
theorem dX7_allocate_43 : decode cX7_allocate 43 = .ok (.ireturn, 1) := by decide +kernel
theorem dX7_release_0 : decode cX7_release 0 = .ok (.iload_n 1, 1) := by decide +kernel
theorem dX7_release_1 : decode cX7_release 1 = .ok (.invokestatic 263, 3) := by decide +kernel
theorem dX7_release_4 : decode cX7_release 4 = .ok (.ifCond .ne 5, 3) := by decide +kernel
theorem dX7_release_7 : decode cX7_release 7 = .ok (.iconst (-1), 1) := by decide +kernel
theorem dX7_release_8 : decode cX7_release 8 = .ok (.ireturn, 1) := by decide +kernel
theorem dX7_release_9 : decode cX7_release 9 = .ok (.aload_n 0, 1) := by decide +kernel
theorem dX7_release_10 : decode cX7_release 10 = .ok (.getfield 69, 3) := by decide +kernel
theorem dX7_release_13 : decode cX7_release 13 = .ok (.iload_n 1, 1) := by decide +kernel
theorem dX7_release_14 : decode cX7_release 14 = .ok (.aaload, 1) := by decide +kernel
theorem dX7_release_15 : decode cX7_release 15 = .ok (.getfield 269, 3) := by decide +kernel
theorem dX7_release_18 : decode cX7_release 18 = .ok (.ifCond .ne 5, 3) := by decide +kernel
theorem dX7_release_21 : decode cX7_release 21 = .ok (.iconst 0, 1) := by decide +kernel
theorem dX7_release_22 : decode cX7_release 22 = .ok (.ireturn, 1) := by decide +kernel
theorem dX7_release_23 : decode cX7_release 23 = .ok (.aload_n 0, 1) := by decide +kernel
theorem dX7_release_24 : decode cX7_release 24 = .ok (.getfield 69, 3) := by decide +kernel
theorem dX7_release_27 : decode cX7_release 27 = .ok (.iload_n 1, 1) := by decide +kernel
theorem dX7_release_28 : decode cX7_release 28 = .ok (.aaload, 1) := by decide +kernel
theorem dX7_release_29 : decode cX7_release 29 = .ok (.iconst 0, 1) := by decide +kernel
theorem dX7_release_30 : decode cX7_release 30 = .ok (.putfield 269, 3) := by decide +kernel
theorem dX7_release_33 : decode cX7_release 33 = .ok (.iconst 1, 1) := by decide +kernel
theorem dX7_release_34 : decode cX7_release 34 = .ok (.ireturn, 1) := by decide +kernel
theorem dX7_putElement_0 : decode cX7_putElement 0 = .ok (.iload_n 1, 1) := by decide +kernel
theorem dX7_putElement_1 : decode cX7_putElement 1 = .ok (.invokestatic 263, 3) := by decide +kernel
theorem dX7_putElement_4 : decode cX7_putElement 4 = .ok (.ifCond .ne 5, 3) := by decide +kernel
theorem dX7_putElement_7 : decode cX7_putElement 7 = .ok (.iconst (-1), 1) := by decide +kernel
theorem dX7_putElement_8 : decode cX7_putElement 8 = .ok (.ireturn, 1) := by decide +kernel
theorem dX7_putElement_9 : decode cX7_putElement 9 = .ok (.aload_n 0, 1) := by decide +kernel
theorem dX7_putElement_10 : decode cX7_putElement 10 = .ok (.getfield 69, 3) := by decide +kernel
theorem dX7_putElement_13 : decode cX7_putElement 13 = .ok (.iload_n 1, 1) := by decide +kernel
theorem dX7_putElement_14 : decode cX7_putElement 14 = .ok (.aaload, 1) := by decide +kernel
theorem dX7_putElement_15 : decode cX7_putElement 15 = .ok (.astore 5, 2) := by decide +kernel
theorem dX7_putElement_17 : decode cX7_putElement 17 = .ok (.aload 5, 2) := by decide +kernel
theorem dX7_putElement_19 : decode cX7_putElement 19 = .ok (.getfield 269, 3) := by decide +kernel
theorem dX7_putElement_22 : decode cX7_putElement 22 = .ok (.ifCond .ne 6, 3) := by decide +kernel
theorem dX7_putElement_25 : decode cX7_putElement 25 = .ok (.bipush (-11), 2) := by decide +kernel
theorem dX7_putElement_27 : decode cX7_putElement 27 = .ok (.ireturn, 1) := by decide +kernel
theorem dX7_putElement_28 : decode cX7_putElement 28 = .ok (.aload 5, 2) := by decide +kernel
theorem dX7_putElement_30 : decode cX7_putElement 30 = .ok (.iload_n 2, 1) := by decide +kernel
theorem dX7_putElement_31 : decode cX7_putElement 31 = .ok (.invokevirtual 272, 3) := by decide +kernel
theorem dX7_putElement_34 : decode cX7_putElement 34 = .ok (.ifCond .ne 6, 3) := by decide +kernel
theorem dX7_putElement_37 : decode cX7_putElement 37 = .ok (.bipush (-13), 2) := by decide +kernel
theorem dX7_putElement_39 : decode cX7_putElement 39 = .ok (.ireturn, 1) := by decide +kernel
theorem dX7_putElement_40 : decode cX7_putElement 40 = .ok (.aload 5, 2) := by decide +kernel
theorem dX7_putElement_42 : decode cX7_putElement 42 = .ok (.getfield 275, 3) := by decide +kernel
theorem dX7_putElement_45 : decode cX7_putElement 45 = .ok (.iload_n 2, 1) := by decide +kernel
theorem dX7_putElement_46 : decode cX7_putElement 46 = .ok (.aload 5, 2) := by decide +kernel
theorem dX7_putElement_48 : decode cX7_putElement 48 = .ok (.lload_n 3, 1) := by decide +kernel
theorem dX7_putElement_49 : decode cX7_putElement 49 = .ok (.invokevirtual 278, 3) := by decide +kernel
theorem dX7_putElement_52 : decode cX7_putElement 52 = .ok (.lastore, 1) := by decide +kernel
theorem dX7_putElement_53 : decode cX7_putElement 53 = .ok (.iconst 1, 1) := by decide +kernel
theorem dX7_putElement_54 : decode cX7_putElement 54 = .ok (.ireturn, 1) := by decide +kernel
theorem dX7_element_0 : decode cX7_element 0 = .ok (.iload_n 1, 1) := by decide +kernel
theorem dX7_element_1 : decode cX7_element 1 = .ok (.invokestatic 263, 3) := by decide +kernel
theorem dX7_element_4 : decode cX7_element 4 = .ok (.ifCond .ne 7, 3) := by decide +kernel
theorem dX7_element_7 : decode cX7_element 7 = .ok (.ldc2_w 95, 3) := by decide +kernel
theorem dX7_element_10 : decode cX7_element 10 = .ok (.lreturn, 1) := by decide +kernel
theorem dX7_element_11 : decode cX7_element 11 = .ok (.aload_n 0, 1) := by decide +kernel
theorem dX7_element_12 : decode cX7_element 12 = .ok (.getfield 69, 3) := by decide +kernel
theorem dX7_element_15 : decode cX7_element 15 = .ok (.iload_n 1, 1) := by decide +kernel
theorem dX7_element_16 : decode cX7_element 16 = .ok (.aaload, 1) := by decide +kernel
theorem dX7_element_17 : decode cX7_element 17 = .ok (.astore_n 3, 1) := by decide +kernel
theorem dX7_element_18 : decode cX7_element 18 = .ok (.aload_n 3, 1) := by decide +kernel
theorem dX7_element_19 : decode cX7_element 19 = .ok (.getfield 269, 3) := by decide +kernel
theorem dX7_element_22 : decode cX7_element 22 = .ok (.ifCond .eq 11, 3) := by decide +kernel
theorem dX7_element_25 : decode cX7_element 25 = .ok (.aload_n 3, 1) := by decide +kernel
theorem dX7_element_26 : decode cX7_element 26 = .ok (.iload_n 2, 1) := by decide +kernel
theorem dX7_element_27 : decode cX7_element 27 = .ok (.invokevirtual 272, 3) := by decide +kernel
theorem dX7_element_30 : decode cX7_element 30 = .ok (.ifCond .ne 7, 3) := by decide +kernel
theorem dX7_element_33 : decode cX7_element 33 = .ok (.ldc2_w 95, 3) := by decide +kernel
theorem dX7_element_36 : decode cX7_element 36 = .ok (.lreturn, 1) := by decide +kernel
theorem dX7_element_37 : decode cX7_element 37 = .ok (.aload_n 3, 1) := by decide +kernel
theorem dX7_element_38 : decode cX7_element 38 = .ok (.getfield 275, 3) := by decide +kernel
theorem dX7_element_41 : decode cX7_element 41 = .ok (.iload_n 2, 1) := by decide +kernel
theorem dX7_element_42 : decode cX7_element 42 = .ok (.laload, 1) := by decide +kernel
theorem dX7_element_43 : decode cX7_element 43 = .ok (.lreturn, 1) := by decide +kernel
theorem dX7_copyElements_0 : decode cX7_copyElements 0 = .ok (.iload_n 1, 1) := by decide +kernel
theorem dX7_copyElements_1 : decode cX7_copyElements 1 = .ok (.invokestatic 263, 3) := by decide +kernel
theorem dX7_copyElements_4 : decode cX7_copyElements 4 = .ok (.ifCond .eq 10, 3) := by decide +kernel
theorem dX7_copyElements_7 : decode cX7_copyElements 7 = .ok (.iload_n 3, 1) := by decide +kernel
theorem dX7_copyElements_8 : decode cX7_copyElements 8 = .ok (.invokestatic 263, 3) := by decide +kernel
theorem dX7_copyElements_11 : decode cX7_copyElements 11 = .ok (.ifCond .ne 5, 3) := by decide +kernel
theorem dX7_copyElements_14 : decode cX7_copyElements 14 = .ok (.iconst (-1), 1) := by decide +kernel
theorem dX7_copyElements_15 : decode cX7_copyElements 15 = .ok (.ireturn, 1) := by decide +kernel
theorem dX7_copyElements_16 : decode cX7_copyElements 16 = .ok (.aload_n 0, 1) := by decide +kernel
theorem dX7_copyElements_17 : decode cX7_copyElements 17 = .ok (.getfield 69, 3) := by decide +kernel
theorem dX7_copyElements_20 : decode cX7_copyElements 20 = .ok (.iload_n 1, 1) := by decide +kernel
theorem dX7_copyElements_21 : decode cX7_copyElements 21 = .ok (.aaload, 1) := by decide +kernel
theorem dX7_copyElements_22 : decode cX7_copyElements 22 = .ok (.astore 6, 2) := by decide +kernel
theorem dX7_copyElements_24 : decode cX7_copyElements 24 = .ok (.aload_n 0, 1) := by decide +kernel
theorem dX7_copyElements_25 : decode cX7_copyElements 25 = .ok (.getfield 69, 3) := by decide +kernel
theorem dX7_copyElements_28 : decode cX7_copyElements 28 = .ok (.iload_n 3, 1) := by decide +kernel
theorem dX7_copyElements_29 : decode cX7_copyElements 29 = .ok (.aaload, 1) := by decide +kernel
theorem dX7_copyElements_30 : decode cX7_copyElements 30 = .ok (.astore 7, 2) := by decide +kernel
theorem dX7_copyElements_32 : decode cX7_copyElements 32 = .ok (.aload 6, 2) := by decide +kernel
theorem dX7_copyElements_34 : decode cX7_copyElements 34 = .ok (.getfield 269, 3) := by decide +kernel
theorem dX7_copyElements_37 : decode cX7_copyElements 37 = .ok (.ifCond .eq 11, 3) := by decide +kernel
theorem dX7_copyElements_40 : decode cX7_copyElements 40 = .ok (.aload 7, 2) := by decide +kernel
theorem dX7_copyElements_42 : decode cX7_copyElements 42 = .ok (.getfield 269, 3) := by decide +kernel
theorem dX7_copyElements_45 : decode cX7_copyElements 45 = .ok (.ifCond .ne 6, 3) := by decide +kernel
theorem dX7_copyElements_48 : decode cX7_copyElements 48 = .ok (.bipush (-11), 2) := by decide +kernel
theorem dX7_copyElements_50 : decode cX7_copyElements 50 = .ok (.ireturn, 1) := by decide +kernel
theorem dX7_copyElements_51 : decode cX7_copyElements 51 = .ok (.aload 6, 2) := by decide +kernel
theorem dX7_copyElements_53 : decode cX7_copyElements 53 = .ok (.getfield 282, 3) := by decide +kernel
theorem dX7_copyElements_56 : decode cX7_copyElements 56 = .ok (.aload 7, 2) := by decide +kernel
theorem dX7_copyElements_58 : decode cX7_copyElements 58 = .ok (.getfield 282, 3) := by decide +kernel
theorem dX7_copyElements_61 : decode cX7_copyElements 61 = .ok (.if_icmp .eq 6, 3) := by decide +kernel
theorem dX7_copyElements_64 : decode cX7_copyElements 64 = .ok (.bipush (-12), 2) := by decide +kernel
theorem dX7_copyElements_66 : decode cX7_copyElements 66 = .ok (.ireturn, 1) := by decide +kernel
theorem dX7_copyElements_67 : decode cX7_copyElements 67 = .ok (.aload 6, 2) := by decide +kernel
theorem dX7_copyElements_69 : decode cX7_copyElements 69 = .ok (.iload_n 2, 1) := by decide +kernel
theorem dX7_copyElements_70 : decode cX7_copyElements 70 = .ok (.iload 5, 2) := by decide +kernel
theorem dX7_copyElements_72 : decode cX7_copyElements 72 = .ok (.invokevirtual 285, 3) := by decide +kernel
theorem dX7_copyElements_75 : decode cX7_copyElements 75 = .ok (.ifCond .eq 15, 3) := by decide +kernel
theorem dX7_copyElements_78 : decode cX7_copyElements 78 = .ok (.aload 7, 2) := by decide +kernel
theorem dX7_copyElements_80 : decode cX7_copyElements 80 = .ok (.iload 4, 2) := by decide +kernel
theorem dX7_copyElements_82 : decode cX7_copyElements 82 = .ok (.iload 5, 2) := by decide +kernel
theorem dX7_copyElements_84 : decode cX7_copyElements 84 = .ok (.invokevirtual 285, 3) := by decide +kernel
theorem dX7_copyElements_87 : decode cX7_copyElements 87 = .ok (.ifCond .ne 6, 3) := by decide +kernel
theorem dX7_copyElements_90 : decode cX7_copyElements 90 = .ok (.bipush (-13), 2) := by decide +kernel
theorem dX7_copyElements_92 : decode cX7_copyElements 92 = .ok (.ireturn, 1) := by decide +kernel
theorem dX7_copyElements_93 : decode cX7_copyElements 93 = .ok (.aload 6, 2) := by decide +kernel
theorem dX7_copyElements_95 : decode cX7_copyElements 95 = .ok (.getfield 275, 3) := by decide +kernel
theorem dX7_copyElements_98 : decode cX7_copyElements 98 = .ok (.iload_n 2, 1) := by decide +kernel
theorem dX7_copyElements_99 : decode cX7_copyElements 99 = .ok (.aload 7, 2) := by decide +kernel
theorem dX7_copyElements_101 : decode cX7_copyElements 101 = .ok (.getfield 275, 3) := by decide +kernel
theorem dX7_copyElements_104 : decode cX7_copyElements 104 = .ok (.iload 4, 2) := by decide +kernel
theorem dX7_copyElements_106 : decode cX7_copyElements 106 = .ok (.iload 5, 2) := by decide +kernel
theorem dX7_copyElements_108 : decode cX7_copyElements 108 = .ok (.invokestatic 288, 3) := by decide +kernel
theorem dX7_copyElements_111 : decode cX7_copyElements 111 = .ok (.iload 5, 2) := by decide +kernel
theorem dX7_copyElements_113 : decode cX7_copyElements 113 = .ok (.ireturn, 1) := by decide +kernel
theorem dX7_compareWithArray_0 : decode cX7_compareWithArray 0 = .ok (.iload_n 1, 1) := by decide +kernel
theorem dX7_compareWithArray_1 : decode cX7_compareWithArray 1 = .ok (.invokestatic 263, 3) := by decide +kernel
theorem dX7_compareWithArray_4 : decode cX7_compareWithArray 4 = .ok (.ifCond .ne 5, 3) := by decide +kernel
theorem dX7_compareWithArray_7 : decode cX7_compareWithArray 7 = .ok (.iconst (-1), 1) := by decide +kernel
theorem dX7_compareWithArray_8 : decode cX7_compareWithArray 8 = .ok (.ireturn, 1) := by decide +kernel
theorem dX7_compareWithArray_9 : decode cX7_compareWithArray 9 = .ok (.iload_n 2, 1) := by decide +kernel
theorem dX7_compareWithArray_10 : decode cX7_compareWithArray 10 = .ok (.invokestatic 82, 3) := by decide +kernel
theorem dX7_compareWithArray_13 : decode cX7_compareWithArray 13 = .ok (.ifCond .ne 6, 3) := by decide +kernel
theorem dX7_compareWithArray_16 : decode cX7_compareWithArray 16 = .ok (.bipush (-2), 2) := by decide +kernel
theorem dX7_compareWithArray_18 : decode cX7_compareWithArray 18 = .ok (.ireturn, 1) := by decide +kernel
theorem dX7_compareWithArray_19 : decode cX7_compareWithArray 19 = .ok (.aload_n 0, 1) := by decide +kernel
theorem dX7_compareWithArray_20 : decode cX7_compareWithArray 20 = .ok (.getfield 69, 3) := by decide +kernel
theorem dX7_compareWithArray_23 : decode cX7_compareWithArray 23 = .ok (.iload_n 1, 1) := by decide +kernel
theorem dX7_compareWithArray_24 : decode cX7_compareWithArray 24 = .ok (.aaload, 1) := by decide +kernel
theorem dX7_compareWithArray_25 : decode cX7_compareWithArray 25 = .ok (.astore_n 3, 1) := by decide +kernel
theorem dX7_compareWithArray_26 : decode cX7_compareWithArray 26 = .ok (.aload_n 3, 1) := by decide +kernel
theorem dX7_compareWithArray_27 : decode cX7_compareWithArray 27 = .ok (.getfield 269, 3) := by decide +kernel
theorem dX7_compareWithArray_30 : decode cX7_compareWithArray 30 = .ok (.ifCond .ne 6, 3) := by decide +kernel
theorem dX7_compareWithArray_33 : decode cX7_compareWithArray 33 = .ok (.bipush (-11), 2) := by decide +kernel
theorem dX7_compareWithArray_35 : decode cX7_compareWithArray 35 = .ok (.ireturn, 1) := by decide +kernel
theorem dX7_compareWithArray_36 : decode cX7_compareWithArray 36 = .ok (.aload_n 0, 1) := by decide +kernel
theorem dX7_compareWithArray_37 : decode cX7_compareWithArray 37 = .ok (.getfield 14, 3) := by decide +kernel
theorem dX7_compareWithArray_40 : decode cX7_compareWithArray 40 = .ok (.getfield 91, 3) := by decide +kernel
theorem dX7_compareWithArray_43 : decode cX7_compareWithArray 43 = .ok (.iload_n 2, 1) := by decide +kernel
theorem dX7_compareWithArray_44 : decode cX7_compareWithArray 44 = .ok (.aaload, 1) := by decide +kernel
theorem dX7_compareWithArray_45 : decode cX7_compareWithArray 45 = .ok (.astore 4, 2) := by decide +kernel
theorem dX7_compareWithArray_47 : decode cX7_compareWithArray 47 = .ok (.aload_n 3, 1) := by decide +kernel
theorem dX7_compareWithArray_48 : decode cX7_compareWithArray 48 = .ok (.getfield 294, 3) := by decide +kernel
theorem dX7_compareWithArray_51 : decode cX7_compareWithArray 51 = .ok (.aload_n 0, 1) := by decide +kernel
theorem dX7_compareWithArray_52 : decode cX7_compareWithArray 52 = .ok (.getfield 14, 3) := by decide +kernel
theorem dX7_compareWithArray_55 : decode cX7_compareWithArray 55 = .ok (.getfield 78, 3) := by decide +kernel
theorem dX7_compareWithArray_58 : decode cX7_compareWithArray 58 = .ok (.invokestatic 297, 3) := by decide +kernel
theorem dX7_compareWithArray_61 : decode cX7_compareWithArray 61 = .ok (.istore 5, 2) := by decide +kernel
theorem dX7_compareWithArray_63 : decode cX7_compareWithArray 63 = .ok (.iconst 0, 1) := by decide +kernel
theorem dX7_compareWithArray_64 : decode cX7_compareWithArray 64 = .ok (.istore 6, 2) := by decide +kernel
theorem dX7_compareWithArray_66 : decode cX7_compareWithArray 66 = .ok (.iload 6, 2) := by decide +kernel
theorem dX7_compareWithArray_68 : decode cX7_compareWithArray 68 = .ok (.iload 5, 2) := by decide +kernel
theorem dX7_compareWithArray_70 : decode cX7_compareWithArray 70 = .ok (.if_icmp .ge 29, 3) := by decide +kernel
theorem dX7_compareWithArray_73 : decode cX7_compareWithArray 73 = .ok (.aload_n 3, 1) := by decide +kernel
theorem dX7_compareWithArray_74 : decode cX7_compareWithArray 74 = .ok (.getfield 275, 3) := by decide +kernel
theorem dX7_compareWithArray_77 : decode cX7_compareWithArray 77 = .ok (.iload 6, 2) := by decide +kernel
theorem dX7_compareWithArray_79 : decode cX7_compareWithArray 79 = .ok (.laload, 1) := by decide +kernel
theorem dX7_compareWithArray_80 : decode cX7_compareWithArray 80 = .ok (.aload 4, 2) := by decide +kernel
theorem dX7_compareWithArray_82 : decode cX7_compareWithArray 82 = .ok (.iload 6, 2) := by decide +kernel
theorem dX7_compareWithArray_84 : decode cX7_compareWithArray 84 = .ok (.iaload, 1) := by decide +kernel
theorem dX7_compareWithArray_85 : decode cX7_compareWithArray 85 = .ok (.i2l, 1) := by decide +kernel
theorem dX7_compareWithArray_86 : decode cX7_compareWithArray 86 = .ok (.lcmp, 1) := by decide +kernel
theorem dX7_compareWithArray_87 : decode cX7_compareWithArray 87 = .ok (.ifCond .eq 6, 3) := by decide +kernel
theorem dX7_compareWithArray_90 : decode cX7_compareWithArray 90 = .ok (.iload 6, 2) := by decide +kernel
theorem dX7_compareWithArray_92 : decode cX7_compareWithArray 92 = .ok (.ireturn, 1) := by decide +kernel
theorem dX7_compareWithArray_93 : decode cX7_compareWithArray 93 = .ok (.iinc 6 1, 3) := by decide +kernel
theorem dX7_compareWithArray_96 : decode cX7_compareWithArray 96 = .ok (.goto (-30), 3) := by decide +kernel
theorem dX7_compareWithArray_99 : decode cX7_compareWithArray 99 = .ok (.aload_n 3, 1) := by decide +kernel
theorem dX7_compareWithArray_100 : decode cX7_compareWithArray 100 = .ok (.getfield 294, 3) := by decide +kernel
theorem dX7_compareWithArray_103 : decode cX7_compareWithArray 103 = .ok (.aload_n 0, 1) := by decide +kernel
theorem dX7_compareWithArray_104 : decode cX7_compareWithArray 104 = .ok (.getfield 14, 3) := by decide +kernel
theorem dX7_compareWithArray_107 : decode cX7_compareWithArray 107 = .ok (.getfield 78, 3) := by decide +kernel
theorem dX7_compareWithArray_110 : decode cX7_compareWithArray 110 = .ok (.if_icmp .ne 8, 3) := by decide +kernel
theorem dX7_compareWithArray_113 : decode cX7_compareWithArray 113 = .ok (.bipush (-7), 2) := by decide +kernel
theorem dX7_compareWithArray_115 : decode cX7_compareWithArray 115 = .ok (.goto 5, 3) := by decide +kernel
theorem dX7_compareWithArray_118 : decode cX7_compareWithArray 118 = .ok (.iload 5, 2) := by decide +kernel
theorem dX7_compareWithArray_120 : decode cX7_compareWithArray 120 = .ok (.ireturn, 1) := by decide +kernel
theorem dX7_snapshot_0 : decode cX7_snapshot 0 = .ok (.aload_n 0, 1) := by decide +kernel
theorem dX7_snapshot_1 : decode cX7_snapshot 1 = .ok (.getfield 18, 3) := by decide +kernel
theorem dX7_snapshot_4 : decode cX7_snapshot 4 = .ok (.aload_n 0, 1) := by decide +kernel
theorem dX7_snapshot_5 : decode cX7_snapshot 5 = .ok (.getfield 14, 3) := by decide +kernel
theorem dX7_snapshot_8 : decode cX7_snapshot 8 = .ok (.invokevirtual 300, 3) := by decide +kernel
theorem dX7_snapshot_11 : decode cX7_snapshot 11 = .ok (.aload_n 0, 1) := by decide +kernel
theorem dX7_snapshot_12 : decode cX7_snapshot 12 = .ok (.iconst 1, 1) := by decide +kernel
theorem dX7_snapshot_13 : decode cX7_snapshot 13 = .ok (.putfield 21, 3) := by decide +kernel
theorem dX7_snapshot_16 : decode cX7_snapshot 16 = .ok (.aload_n 0, 1) := by decide +kernel
theorem dX7_snapshot_17 : decode cX7_snapshot 17 = .ok (.getfield 14, 3) := by decide +kernel
theorem dX7_snapshot_20 : decode cX7_snapshot 20 = .ok (.getfield 78, 3) := by decide +kernel
theorem dX7_snapshot_23 : decode cX7_snapshot 23 = .ok (.ireturn, 1) := by decide +kernel
theorem dX7_restore_0 : decode cX7_restore 0 = .ok (.aload_n 0, 1) := by decide +kernel
theorem dX7_restore_1 : decode cX7_restore 1 = .ok (.getfield 21, 3) := by decide +kernel
theorem dX7_restore_4 : decode cX7_restore 4 = .ok (.ifCond .ne 6, 3) := by decide +kernel
theorem dX7_restore_7 : decode cX7_restore 7 = .ok (.bipush (-5), 2) := by decide +kernel
theorem dX7_restore_9 : decode cX7_restore 9 = .ok (.ireturn, 1) := by decide +kernel
theorem dX7_restore_10 : decode cX7_restore 10 = .ok (.aload_n 0, 1) := by decide +kernel
theorem dX7_restore_11 : decode cX7_restore 11 = .ok (.getfield 14, 3) := by decide +kernel
theorem dX7_restore_14 : decode cX7_restore 14 = .ok (.aload_n 0, 1) := by decide +kernel
theorem dX7_restore_15 : decode cX7_restore 15 = .ok (.getfield 18, 3) := by decide +kernel
theorem dX7_restore_18 : decode cX7_restore 18 = .ok (.invokevirtual 300, 3) := by decide +kernel
theorem dX7_restore_21 : decode cX7_restore 21 = .ok (.aload_n 0, 1) := by decide +kernel
theorem dX7_restore_22 : decode cX7_restore 22 = .ok (.getfield 14, 3) := by decide +kernel
theorem dX7_restore_25 : decode cX7_restore 25 = .ok (.getfield 78, 3) := by decide +kernel
theorem dX7_restore_28 : decode cX7_restore 28 = .ok (.ireturn, 1) := by decide +kernel
theorem dX7_startAgain_0 : decode cX7_startAgain 0 = .ok (.aload_n 0, 1) := by decide +kernel
theorem dX7_startAgain_1 : decode cX7_startAgain 1 = .ok (.getfield 14, 3) := by decide +kernel
theorem dX7_startAgain_4 : decode cX7_startAgain 4 = .ok (.iload_n 1, 1) := by decide +kernel
theorem dX7_startAgain_5 : decode cX7_startAgain 5 = .ok (.putfield 78, 3) := by decide +kernel
theorem dX7_startAgain_8 : decode cX7_startAgain 8 = .ok (.iconst 0, 1) := by decide +kernel
theorem dX7_startAgain_9 : decode cX7_startAgain 9 = .ok (.istore_n 2, 1) := by decide +kernel
theorem dX7_startAgain_10 : decode cX7_startAgain 10 = .ok (.iload_n 2, 1) := by decide +kernel
theorem dX7_startAgain_11 : decode cX7_startAgain 11 = .ok (.bipush 6, 2) := by decide +kernel
theorem dX7_startAgain_13 : decode cX7_startAgain 13 = .ok (.if_icmp .ge 22, 3) := by decide +kernel
theorem dX7_startAgain_16 : decode cX7_startAgain 16 = .ok (.aload_n 0, 1) := by decide +kernel
theorem dX7_startAgain_17 : decode cX7_startAgain 17 = .ok (.getfield 14, 3) := by decide +kernel
theorem dX7_startAgain_20 : decode cX7_startAgain 20 = .ok (.getfield 91, 3) := by decide +kernel
theorem dX7_startAgain_23 : decode cX7_startAgain 23 = .ok (.iload_n 2, 1) := by decide +kernel
theorem dX7_startAgain_24 : decode cX7_startAgain 24 = .ok (.aaload, 1) := by decide +kernel
theorem dX7_startAgain_25 : decode cX7_startAgain 25 = .ok (.iconst 0, 1) := by decide +kernel
theorem dX7_startAgain_26 : decode cX7_startAgain 26 = .ok (.invokestatic 304, 3) := by decide +kernel
theorem dX7_startAgain_29 : decode cX7_startAgain 29 = .ok (.iinc 2 1, 3) := by decide +kernel
theorem dX7_startAgain_32 : decode cX7_startAgain 32 = .ok (.goto (-22), 3) := by decide +kernel
theorem dX7_startAgain_35 : decode cX7_startAgain 35 = .ok (.aload_n 0, 1) := by decide +kernel
theorem dX7_startAgain_36 : decode cX7_startAgain 36 = .ok (.iconst 0, 1) := by decide +kernel
theorem dX7_startAgain_37 : decode cX7_startAgain 37 = .ok (.invokevirtual 171, 3) := by decide +kernel
theorem dX7_startAgain_40 : decode cX7_startAgain 40 = .ok (.return_, 1) := by decide +kernel
theorem dX7_setUnitPair_0 : decode cX7_setUnitPair 0 = .ok (.aload_n 0, 1) := by decide +kernel
theorem dX7_setUnitPair_1 : decode cX7_setUnitPair 1 = .ok (.getfield 28, 3) := by decide +kernel
theorem dX7_setUnitPair_4 : decode cX7_setUnitPair 4 = .ok (.iload_n 1, 1) := by decide +kernel
theorem dX7_setUnitPair_5 : decode cX7_setUnitPair 5 = .ok (.aload_n 0, 1) := by decide +kernel
theorem dX7_setUnitPair_6 : decode cX7_setUnitPair 6 = .ok (.getfield 14, 3) := by decide +kernel
theorem dX7_setUnitPair_9 : decode cX7_setUnitPair 9 = .ok (.getfield 78, 3) := by decide +kernel
theorem dX7_setUnitPair_12 : decode cX7_setUnitPair 12 = .ok (.aload_n 0, 1) := by decide +kernel
theorem dX7_setUnitPair_13 : decode cX7_setUnitPair 13 = .ok (.getfield 35, 3) := by decide +kernel
theorem dX7_setUnitPair_16 : decode cX7_setUnitPair 16 = .ok (.aload_n 0, 1) := by decide +kernel
theorem dX7_setUnitPair_17 : decode cX7_setUnitPair 17 = .ok (.getfield 39, 3) := by decide +kernel
theorem dX7_setUnitPair_20 : decode cX7_setUnitPair 20 = .ok (.invokevirtual 306, 3) := by decide +kernel
theorem dX7_setUnitPair_23 : decode cX7_setUnitPair 23 = .ok (.aload_n 0, 1) := by decide +kernel
theorem dX7_setUnitPair_24 : decode cX7_setUnitPair 24 = .ok (.getfield 14, 3) := by decide +kernel
theorem dX7_setUnitPair_27 : decode cX7_setUnitPair 27 = .ok (.aload_n 0, 1) := by decide +kernel
theorem dX7_setUnitPair_28 : decode cX7_setUnitPair 28 = .ok (.getfield 28, 3) := by decide +kernel
theorem dX7_setUnitPair_31 : decode cX7_setUnitPair 31 = .ok (.invokevirtual 310, 3) := by decide +kernel
theorem dX7_setUnitPair_34 : decode cX7_setUnitPair 34 = .ok (.return_, 1) := by decide +kernel
theorem dX7_setInPair_0 : decode cX7_setInPair 0 = .ok (.iload_n 2, 1) := by decide +kernel
theorem dX7_setInPair_1 : decode cX7_setInPair 1 = .ok (.invokestatic 82, 3) := by decide +kernel
theorem dX7_setInPair_4 : decode cX7_setInPair 4 = .ok (.ifCond .ne 6, 3) := by decide +kernel
theorem dX7_setInPair_7 : decode cX7_setInPair 7 = .ok (.bipush (-2), 2) := by decide +kernel
theorem dX7_setInPair_9 : decode cX7_setInPair 9 = .ok (.ireturn, 1) := by decide +kernel
theorem dX7_setInPair_10 : decode cX7_setInPair 10 = .ok (.iload_n 1, 1) := by decide +kernel
theorem dX7_setInPair_11 : decode cX7_setInPair 11 = .ok (.invokestatic 313, 3) := by decide +kernel
theorem dX7_setInPair_14 : decode cX7_setInPair 14 = .ok (.ifCond .ne 5, 3) := by decide +kernel
theorem dX7_setInPair_17 : decode cX7_setInPair 17 = .ok (.iconst (-1), 1) := by decide +kernel
theorem dX7_setInPair_18 : decode cX7_setInPair 18 = .ok (.ireturn, 1) := by decide +kernel
theorem dX7_setInPair_19 : decode cX7_setInPair 19 = .ok (.aload_n 0, 1) := by decide +kernel
theorem dX7_setInPair_20 : decode cX7_setInPair 20 = .ok (.getfield 28, 3) := by decide +kernel
theorem dX7_setInPair_23 : decode cX7_setInPair 23 = .ok (.aload_n 0, 1) := by decide +kernel
theorem dX7_setInPair_24 : decode cX7_setInPair 24 = .ok (.getfield 14, 3) := by decide +kernel
theorem dX7_setInPair_27 : decode cX7_setInPair 27 = .ok (.getfield 178, 3) := by decide +kernel
theorem dX7_setInPair_30 : decode cX7_setInPair 30 = .ok (.invokevirtual 316, 3) := by decide +kernel
theorem dX7_setInPair_33 : decode cX7_setInPair 33 = .ok (.aload_n 0, 1) := by decide +kernel
theorem dX7_setInPair_34 : decode cX7_setInPair 34 = .ok (.getfield 14, 3) := by decide +kernel
theorem dX7_setInPair_37 : decode cX7_setInPair 37 = .ok (.getfield 91, 3) := by decide +kernel
theorem dX7_setInPair_40 : decode cX7_setInPair 40 = .ok (.iload_n 2, 1) := by decide +kernel
theorem dX7_setInPair_41 : decode cX7_setInPair 41 = .ok (.aaload, 1) := by decide +kernel
theorem dX7_setInPair_42 : decode cX7_setInPair 42 = .ok (.astore 4, 2) := by decide +kernel
theorem dX7_setInPair_44 : decode cX7_setInPair 44 = .ok (.iload_n 3, 1) := by decide +kernel
theorem dX7_setInPair_45 : decode cX7_setInPair 45 = .ok (.ifCond .eq 15, 3) := by decide +kernel
theorem dX7_setInPair_48 : decode cX7_setInPair 48 = .ok (.aload_n 0, 1) := by decide +kernel
theorem dX7_setInPair_49 : decode cX7_setInPair 49 = .ok (.getfield 28, 3) := by decide +kernel
theorem dX7_setInPair_52 : decode cX7_setInPair 52 = .ok (.getfield 198, 3) := by decide +kernel
theorem dX7_setInPair_55 : decode cX7_setInPair 55 = .ok (.iload_n 1, 1) := by decide +kernel
theorem dX7_setInPair_56 : decode cX7_setInPair 56 = .ok (.aaload, 1) := by decide +kernel
theorem dX7_setInPair_57 : decode cX7_setInPair 57 = .ok (.goto 12, 3) := by decide +kernel
theorem dX7_setInPair_60 : decode cX7_setInPair 60 = .ok (.aload_n 0, 1) := by decide +kernel
theorem dX7_setInPair_61 : decode cX7_setInPair 61 = .ok (.getfield 28, 3) := by decide +kernel
theorem dX7_setInPair_64 : decode cX7_setInPair 64 = .ok (.getfield 205, 3) := by decide +kernel
theorem dX7_setInPair_67 : decode cX7_setInPair 67 = .ok (.iload_n 1, 1) := by decide +kernel
theorem dX7_setInPair_68 : decode cX7_setInPair 68 = .ok (.aaload, 1) := by decide +kernel
theorem dX7_setInPair_69 : decode cX7_setInPair 69 = .ok (.astore 5, 2) := by decide +kernel
theorem dX7_setInPair_71 : decode cX7_setInPair 71 = .ok (.aload_n 0, 1) := by decide +kernel
theorem dX7_setInPair_72 : decode cX7_setInPair 72 = .ok (.aload 5, 2) := by decide +kernel
theorem dX7_setInPair_74 : decode cX7_setInPair 74 = .ok (.aload 4, 2) := by decide +kernel
theorem dX7_setInPair_76 : decode cX7_setInPair 76 = .ok (.invokevirtual 141, 3) := by decide +kernel
theorem dX7_setInPair_79 : decode cX7_setInPair 79 = .ok (.bipush (-7), 2) := by decide +kernel
theorem dX7_setInPair_81 : decode cX7_setInPair 81 = .ok (.if_icmp .eq 7, 3) := by decide +kernel
theorem dX7_setInPair_84 : decode cX7_setInPair 84 = .ok (.iconst 1, 1) := by decide +kernel
theorem dX7_setInPair_85 : decode cX7_setInPair 85 = .ok (.goto 4, 3) := by decide +kernel
theorem dX7_setInPair_88 : decode cX7_setInPair 88 = .ok (.iconst 0, 1) := by decide +kernel
theorem dX7_setInPair_89 : decode cX7_setInPair 89 = .ok (.istore 6, 2) := by decide +kernel
theorem dX7_setInPair_91 : decode cX7_setInPair 91 = .ok (.aload 4, 2) := by decide +kernel
theorem dX7_setInPair_93 : decode cX7_setInPair 93 = .ok (.aload 5, 2) := by decide +kernel
theorem dX7_setInPair_95 : decode cX7_setInPair 95 = .ok (.invokestatic 318, 3) := by decide +kernel
theorem dX7_setInPair_98 : decode cX7_setInPair 98 = .ok (.iload_n 3, 1) := by decide +kernel
theorem dX7_setInPair_99 : decode cX7_setInPair 99 = .ok (.ifCond .eq 28, 3) := by decide +kernel
theorem dX7_setInPair_102 : decode cX7_setInPair 102 = .ok (.aload_n 0, 1) := by decide +kernel
theorem dX7_setInPair_103 : decode cX7_setInPair 103 = .ok (.getfield 28, 3) := by decide +kernel
theorem dX7_setInPair_106 : decode cX7_setInPair 106 = .ok (.aload_n 0, 1) := by decide +kernel
theorem dX7_setInPair_107 : decode cX7_setInPair 107 = .ok (.getfield 14, 3) := by decide +kernel
theorem dX7_setInPair_110 : decode cX7_setInPair 110 = .ok (.getfield 78, 3) := by decide +kernel
theorem dX7_setInPair_113 : decode cX7_setInPair 113 = .ok (.aload_n 0, 1) := by decide +kernel
theorem dX7_setInPair_114 : decode cX7_setInPair 114 = .ok (.getfield 35, 3) := by decide +kernel
theorem dX7_setInPair_117 : decode cX7_setInPair 117 = .ok (.aload_n 0, 1) := by decide +kernel
theorem dX7_setInPair_118 : decode cX7_setInPair 118 = .ok (.getfield 39, 3) := by decide +kernel
theorem dX7_setInPair_121 : decode cX7_setInPair 121 = .ok (.invokevirtual 322, 3) := by decide +kernel
theorem dX7_setInPair_124 : decode cX7_setInPair 124 = .ok (.goto 25, 3) := by decide +kernel
theorem dX7_setInPair_127 : decode cX7_setInPair 127 = .ok (.aload_n 0, 1) := by decide +kernel
theorem dX7_setInPair_128 : decode cX7_setInPair 128 = .ok (.getfield 28, 3) := by decide +kernel
theorem dX7_setInPair_131 : decode cX7_setInPair 131 = .ok (.aload_n 0, 1) := by decide +kernel
theorem dX7_setInPair_132 : decode cX7_setInPair 132 = .ok (.getfield 14, 3) := by decide +kernel
theorem dX7_setInPair_135 : decode cX7_setInPair 135 = .ok (.getfield 78, 3) := by decide +kernel
theorem dX7_setInPair_138 : decode cX7_setInPair 138 = .ok (.aload_n 0, 1) := by decide +kernel
theorem dX7_setInPair_139 : decode cX7_setInPair 139 = .ok (.getfield 35, 3) := by decide +kernel
theorem dX7_setInPair_142 : decode cX7_setInPair 142 = .ok (.aload_n 0, 1) := by decide +kernel
theorem dX7_setInPair_143 : decode cX7_setInPair 143 = .ok (.getfield 39, 3) := by decide +kernel
theorem dX7_setInPair_146 : decode cX7_setInPair 146 = .ok (.invokevirtual 326, 3) := by decide +kernel
theorem dX7_setInPair_149 : decode cX7_setInPair 149 = .ok (.istore 7, 2) := by decide +kernel
theorem dX7_setInPair_151 : decode cX7_setInPair 151 = .ok (.iload 7, 2) := by decide +kernel
theorem dX7_setInPair_153 : decode cX7_setInPair 153 = .ok (.ifCond .ne 6, 3) := by decide +kernel
theorem dX7_setInPair_156 : decode cX7_setInPair 156 = .ok (.bipush (-3), 2) := by decide +kernel
theorem dX7_setInPair_158 : decode cX7_setInPair 158 = .ok (.ireturn, 1) := by decide +kernel
theorem dX7_setInPair_159 : decode cX7_setInPair 159 = .ok (.aload_n 0, 1) := by decide +kernel
theorem dX7_setInPair_160 : decode cX7_setInPair 160 = .ok (.getfield 14, 3) := by decide +kernel
theorem dX7_setInPair_163 : decode cX7_setInPair 163 = .ok (.aload_n 0, 1) := by decide +kernel
theorem dX7_setInPair_164 : decode cX7_setInPair 164 = .ok (.getfield 28, 3) := by decide +kernel
theorem dX7_setInPair_167 : decode cX7_setInPair 167 = .ok (.invokevirtual 310, 3) := by decide +kernel
theorem dX7_setInPair_170 : decode cX7_setInPair 170 = .ok (.iload 6, 2) := by decide +kernel
theorem dX7_setInPair_172 : decode cX7_setInPair 172 = .ok (.ifCond .eq 7, 3) := by decide +kernel
theorem dX7_setInPair_175 : decode cX7_setInPair 175 = .ok (.iconst 1, 1) := by decide +kernel
theorem dX7_setInPair_176 : decode cX7_setInPair 176 = .ok (.goto 4, 3) := by decide +kernel
theorem dX7_setInPair_179 : decode cX7_setInPair 179 = .ok (.iconst 0, 1) := by decide +kernel
theorem dX7_setInPair_180 : decode cX7_setInPair 180 = .ok (.ireturn, 1) := by decide +kernel
theorem dX7_copyToRegister_0 : decode cX7_copyToRegister 0 = .ok (.iload_n 1, 1) := by decide +kernel
theorem dX7_copyToRegister_1 : decode cX7_copyToRegister 1 = .ok (.invokestatic 82, 3) := by decide +kernel
theorem dX7_copyToRegister_4 : decode cX7_copyToRegister 4 = .ok (.ifCond .ne 6, 3) := by decide +kernel
theorem dX7_copyToRegister_7 : decode cX7_copyToRegister 7 = .ok (.bipush (-2), 2) := by decide +kernel
theorem dX7_copyToRegister_9 : decode cX7_copyToRegister 9 = .ok (.ireturn, 1) := by decide +kernel
theorem dX7_copyToRegister_10 : decode cX7_copyToRegister 10 = .ok (.iload_n 2, 1) := by decide +kernel
theorem dX7_copyToRegister_11 : decode cX7_copyToRegister 11 = .ok (.invokestatic 313, 3) := by decide +kernel
theorem dX7_copyToRegister_14 : decode cX7_copyToRegister 14 = .ok (.ifCond .ne 5, 3) := by decide +kernel
theorem dX7_copyToRegister_17 : decode cX7_copyToRegister 17 = .ok (.iconst (-1), 1) := by decide +kernel
theorem dX7_copyToRegister_18 : decode cX7_copyToRegister 18 = .ok (.ireturn, 1) := by decide +kernel
theorem dX7_copyToRegister_19 : decode cX7_copyToRegister 19 = .ok (.aload_n 3, 1) := by decide +kernel
theorem dX7_copyToRegister_20 : decode cX7_copyToRegister 20 = .ok (.iload_n 2, 1) := by decide +kernel
theorem dX7_copyToRegister_21 : decode cX7_copyToRegister 21 = .ok (.aaload, 1) := by decide +kernel
theorem dX7_copyToRegister_22 : decode cX7_copyToRegister 22 = .ok (.aload_n 0, 1) := by decide +kernel
theorem dX7_copyToRegister_23 : decode cX7_copyToRegister 23 = .ok (.getfield 14, 3) := by decide +kernel
theorem dX7_copyToRegister_26 : decode cX7_copyToRegister 26 = .ok (.getfield 91, 3) := by decide +kernel
theorem dX7_copyToRegister_29 : decode cX7_copyToRegister 29 = .ok (.iload_n 1, 1) := by decide +kernel
theorem dX7_copyToRegister_30 : decode cX7_copyToRegister 30 = .ok (.aaload, 1) := by decide +kernel
theorem dX7_copyToRegister_31 : decode cX7_copyToRegister 31 = .ok (.invokestatic 318, 3) := by decide +kernel
theorem dX7_copyToRegister_34 : decode cX7_copyToRegister 34 = .ok (.aload_n 0, 1) := by decide +kernel
theorem dX7_copyToRegister_35 : decode cX7_copyToRegister 35 = .ok (.aload_n 0, 1) := by decide +kernel
theorem dX7_copyToRegister_36 : decode cX7_copyToRegister 36 = .ok (.getfield 14, 3) := by decide +kernel
theorem dX7_copyToRegister_39 : decode cX7_copyToRegister 39 = .ok (.getfield 91, 3) := by decide +kernel
theorem dX7_copyToRegister_42 : decode cX7_copyToRegister 42 = .ok (.iload_n 1, 1) := by decide +kernel
theorem dX7_copyToRegister_43 : decode cX7_copyToRegister 43 = .ok (.aaload, 1) := by decide +kernel
theorem dX7_copyToRegister_44 : decode cX7_copyToRegister 44 = .ok (.invokevirtual 153, 3) := by decide +kernel
theorem dX7_copyToRegister_47 : decode cX7_copyToRegister 47 = .ok (.ireturn, 1) := by decide +kernel
theorem dX7_isRegister_0 : decode cX7_isRegister 0 = .ok (.iload_n 0, 1) := by decide +kernel
theorem dX7_isRegister_1 : decode cX7_isRegister 1 = .ok (.ifCond .lt 13, 3) := by decide +kernel
theorem dX7_isRegister_4 : decode cX7_isRegister 4 = .ok (.iload_n 0, 1) := by decide +kernel
theorem dX7_isRegister_5 : decode cX7_isRegister 5 = .ok (.bipush 6, 2) := by decide +kernel
theorem dX7_isRegister_7 : decode cX7_isRegister 7 = .ok (.if_icmp .ge 7, 3) := by decide +kernel
theorem dX7_isRegister_10 : decode cX7_isRegister 10 = .ok (.iconst 1, 1) := by decide +kernel
theorem dX7_isRegister_11 : decode cX7_isRegister 11 = .ok (.goto 4, 3) := by decide +kernel
theorem dX7_isRegister_14 : decode cX7_isRegister 14 = .ok (.iconst 0, 1) := by decide +kernel
theorem dX7_isRegister_15 : decode cX7_isRegister 15 = .ok (.ireturn, 1) := by decide +kernel
theorem dX7_isPower_0 : decode cX7_isPower 0 = .ok (.iload_n 1, 1) := by decide +kernel
theorem dX7_isPower_1 : decode cX7_isPower 1 = .ok (.ifCond .lt 18, 3) := by decide +kernel
theorem dX7_isPower_4 : decode cX7_isPower 4 = .ok (.iload_n 1, 1) := by decide +kernel
theorem dX7_isPower_5 : decode cX7_isPower 5 = .ok (.aload_n 0, 1) := by decide +kernel
theorem dX7_isPower_6 : decode cX7_isPower 6 = .ok (.getfield 14, 3) := by decide +kernel
theorem dX7_isPower_9 : decode cX7_isPower 9 = .ok (.getfield 78, 3) := by decide +kernel
theorem dX7_isPower_12 : decode cX7_isPower 12 = .ok (.if_icmp .ge 7, 3) := by decide +kernel
theorem dX7_isPower_15 : decode cX7_isPower 15 = .ok (.iconst 1, 1) := by decide +kernel
theorem dX7_isPower_16 : decode cX7_isPower 16 = .ok (.goto 4, 3) := by decide +kernel
theorem dX7_isPower_19 : decode cX7_isPower 19 = .ok (.iconst 0, 1) := by decide +kernel
theorem dX7_isPower_20 : decode cX7_isPower 20 = .ok (.ireturn, 1) := by decide +kernel
theorem dX7_isPairIndex_0 : decode cX7_isPairIndex 0 = .ok (.iload_n 0, 1) := by decide +kernel
theorem dX7_isPairIndex_1 : decode cX7_isPairIndex 1 = .ok (.ifCond .lt 12, 3) := by decide +kernel
theorem dX7_isPairIndex_4 : decode cX7_isPairIndex 4 = .ok (.iload_n 0, 1) := by decide +kernel
theorem dX7_isPairIndex_5 : decode cX7_isPairIndex 5 = .ok (.iconst 5, 1) := by decide +kernel
theorem dX7_isPairIndex_6 : decode cX7_isPairIndex 6 = .ok (.if_icmp .ge 7, 3) := by decide +kernel
theorem dX7_isPairIndex_9 : decode cX7_isPairIndex 9 = .ok (.iconst 1, 1) := by decide +kernel
theorem dX7_isPairIndex_10 : decode cX7_isPairIndex 10 = .ok (.goto 4, 3) := by decide +kernel
theorem dX7_isPairIndex_13 : decode cX7_isPairIndex 13 = .ok (.iconst 0, 1) := by decide +kernel
theorem dX7_isPairIndex_14 : decode cX7_isPairIndex 14 = .ok (.ireturn, 1) := by decide +kernel
theorem dX7_isSlot_0 : decode cX7_isSlot 0 = .ok (.iload_n 0, 1) := by decide +kernel
theorem dX7_isSlot_1 : decode cX7_isSlot 1 = .ok (.ifCond .lt 12, 3) := by decide +kernel
theorem dX7_isSlot_4 : decode cX7_isSlot 4 = .ok (.iload_n 0, 1) := by decide +kernel
theorem dX7_isSlot_5 : decode cX7_isSlot 5 = .ok (.iconst 4, 1) := by decide +kernel
theorem dX7_isSlot_6 : decode cX7_isSlot 6 = .ok (.if_icmp .ge 7, 3) := by decide +kernel
theorem dX7_isSlot_9 : decode cX7_isSlot 9 = .ok (.iconst 1, 1) := by decide +kernel
theorem dX7_isSlot_10 : decode cX7_isSlot 10 = .ok (.goto 4, 3) := by decide +kernel
theorem dX7_isSlot_13 : decode cX7_isSlot 13 = .ok (.iconst 0, 1) := by decide +kernel
theorem dX7_isSlot_14 : decode cX7_isSlot 14 = .ok (.ireturn, 1) := by decide +kernel
theorem dX7_isResidueSet_0 : decode cX7_isResidueSet 0 = .ok (.iload_n 0, 1) := by decide +kernel
theorem dX7_isResidueSet_1 : decode cX7_isResidueSet 1 = .ok (.iconst 1, 1) := by decide +kernel
theorem dX7_isResidueSet_2 : decode cX7_isResidueSet 2 = .ok (.if_icmp .lt 24, 3) := by decide +kernel
theorem dX7_isResidueSet_5 : decode cX7_isResidueSet 5 = .ok (.iload_n 0, 1) := by decide +kernel
theorem dX7_isResidueSet_6 : decode cX7_isResidueSet 6 = .ok (.bipush 12, 2) := by decide +kernel
theorem dX7_isResidueSet_8 : decode cX7_isResidueSet 8 = .ok (.if_icmp .gt 18, 3) := by decide +kernel
theorem dX7_isResidueSet_11 : decode cX7_isResidueSet 11 = .ok (.iload_n 1, 1) := by decide +kernel
theorem dX7_isResidueSet_12 : decode cX7_isResidueSet 12 = .ok (.ifCond .lt 14, 3) := by decide +kernel
theorem dX7_isResidueSet_15 : decode cX7_isResidueSet 15 = .ok (.iload_n 1, 1) := by decide +kernel
theorem dX7_isResidueSet_16 : decode cX7_isResidueSet 16 = .ok (.iconst 1, 1) := by decide +kernel
theorem dX7_isResidueSet_17 : decode cX7_isResidueSet 17 = .ok (.iload_n 0, 1) := by decide +kernel
theorem dX7_isResidueSet_18 : decode cX7_isResidueSet 18 = .ok (.ishl, 1) := by decide +kernel
theorem dX7_isResidueSet_19 : decode cX7_isResidueSet 19 = .ok (.if_icmp .ge 7, 3) := by decide +kernel
theorem dX7_isResidueSet_22 : decode cX7_isResidueSet 22 = .ok (.iconst 1, 1) := by decide +kernel
theorem dX7_isResidueSet_23 : decode cX7_isResidueSet 23 = .ok (.goto 4, 3) := by decide +kernel
theorem dX7_isResidueSet_26 : decode cX7_isResidueSet 26 = .ok (.iconst 0, 1) := by decide +kernel
theorem dX7_isResidueSet_27 : decode cX7_isResidueSet 27 = .ok (.ireturn, 1) := by decide +kernel
theorem dX7_isInResidueSet_0 : decode cX7_isInResidueSet 0 = .ok (.iload_n 1, 1) := by decide +kernel
theorem dX7_isInResidueSet_1 : decode cX7_isInResidueSet 1 = .ok (.iconst 1, 1) := by decide +kernel
theorem dX7_isInResidueSet_2 : decode cX7_isInResidueSet 2 = .ok (.if_icmp .lt 18, 3) := by decide +kernel
theorem dX7_isInResidueSet_5 : decode cX7_isInResidueSet 5 = .ok (.iload_n 2, 1) := by decide +kernel
theorem dX7_isInResidueSet_6 : decode cX7_isInResidueSet 6 = .ok (.iload_n 0, 1) := by decide +kernel
theorem dX7_isInResidueSet_7 : decode cX7_isInResidueSet 7 = .ok (.iload_n 1, 1) := by decide +kernel
theorem dX7_isInResidueSet_8 : decode cX7_isInResidueSet 8 = .ok (.irem, 1) := by decide +kernel
theorem dX7_isInResidueSet_9 : decode cX7_isInResidueSet 9 = .ok (.ishr, 1) := by decide +kernel
theorem dX7_isInResidueSet_10 : decode cX7_isInResidueSet 10 = .ok (.iconst 1, 1) := by decide +kernel
theorem dX7_isInResidueSet_11 : decode cX7_isInResidueSet 11 = .ok (.iand, 1) := by decide +kernel
theorem dX7_isInResidueSet_12 : decode cX7_isInResidueSet 12 = .ok (.iconst 1, 1) := by decide +kernel
theorem dX7_isInResidueSet_13 : decode cX7_isInResidueSet 13 = .ok (.if_icmp .ne 7, 3) := by decide +kernel
theorem dX7_isInResidueSet_16 : decode cX7_isInResidueSet 16 = .ok (.iconst 1, 1) := by decide +kernel
theorem dX7_isInResidueSet_17 : decode cX7_isInResidueSet 17 = .ok (.goto 4, 3) := by decide +kernel
theorem dX7_isInResidueSet_20 : decode cX7_isInResidueSet 20 = .ok (.iconst 0, 1) := by decide +kernel
theorem dX7_isInResidueSet_21 : decode cX7_isInResidueSet 21 = .ok (.ireturn, 1) := by decide +kernel
theorem dX7_byteOf_0 : decode cX7_byteOf 0 = .ok (.iload_n 0, 1) := by decide +kernel
theorem dX7_byteOf_1 : decode cX7_byteOf 1 = .ok (.bipush 8, 2) := by decide +kernel
theorem dX7_byteOf_3 : decode cX7_byteOf 3 = .ok (.iload_n 1, 1) := by decide +kernel
theorem dX7_byteOf_4 : decode cX7_byteOf 4 = .ok (.imul, 1) := by decide +kernel
theorem dX7_byteOf_5 : decode cX7_byteOf 5 = .ok (.ishr, 1) := by decide +kernel
theorem dX7_byteOf_6 : decode cX7_byteOf 6 = .ok (.sipush 255, 3) := by decide +kernel
theorem dX7_byteOf_9 : decode cX7_byteOf 9 = .ok (.iand, 1) := by decide +kernel
theorem dX7_byteOf_10 : decode cX7_byteOf 10 = .ok (.ireturn, 1) := by decide +kernel
theorem dX7_keepResult_0 : decode cX7_keepResult 0 = .ok (.aload_n 0, 1) := by decide +kernel
theorem dX7_keepResult_1 : decode cX7_keepResult 1 = .ok (.getfield 35, 3) := by decide +kernel
theorem dX7_keepResult_4 : decode cX7_keepResult 4 = .ok (.invokevirtual 329, 3) := by decide +kernel
theorem dX7_keepResult_7 : decode cX7_keepResult 7 = .ok (.ifCond .ne 6, 3) := by decide +kernel
theorem dX7_keepResult_10 : decode cX7_keepResult 10 = .ok (.bipush (-3), 2) := by decide +kernel
theorem dX7_keepResult_12 : decode cX7_keepResult 12 = .ok (.ireturn, 1) := by decide +kernel
theorem dX7_keepResult_13 : decode cX7_keepResult 13 = .ok (.aload_n 0, 1) := by decide +kernel
theorem dX7_keepResult_14 : decode cX7_keepResult 14 = .ok (.getfield 35, 3) := by decide +kernel
theorem dX7_keepResult_17 : decode cX7_keepResult 17 = .ok (.aload_n 0, 1) := by decide +kernel
theorem dX7_keepResult_18 : decode cX7_keepResult 18 = .ok (.getfield 14, 3) := by decide +kernel
theorem dX7_keepResult_21 : decode cX7_keepResult 21 = .ok (.getfield 91, 3) := by decide +kernel
theorem dX7_keepResult_24 : decode cX7_keepResult 24 = .ok (.iload_n 1, 1) := by decide +kernel
theorem dX7_keepResult_25 : decode cX7_keepResult 25 = .ok (.aaload, 1) := by decide +kernel
theorem dX7_keepResult_26 : decode cX7_keepResult 26 = .ok (.invokevirtual 333, 3) := by decide +kernel
theorem dX7_keepResult_29 : decode cX7_keepResult 29 = .ok (.aload_n 0, 1) := by decide +kernel
theorem dX7_keepResult_30 : decode cX7_keepResult 30 = .ok (.aload_n 0, 1) := by decide +kernel
theorem dX7_keepResult_31 : decode cX7_keepResult 31 = .ok (.getfield 14, 3) := by decide +kernel
theorem dX7_keepResult_34 : decode cX7_keepResult 34 = .ok (.getfield 91, 3) := by decide +kernel
theorem dX7_keepResult_37 : decode cX7_keepResult 37 = .ok (.iload_n 1, 1) := by decide +kernel
theorem dX7_keepResult_38 : decode cX7_keepResult 38 = .ok (.aaload, 1) := by decide +kernel
theorem dX7_keepResult_39 : decode cX7_keepResult 39 = .ok (.invokevirtual 153, 3) := by decide +kernel
theorem dX7_keepResult_42 : decode cX7_keepResult 42 = .ok (.ireturn, 1) := by decide +kernel
theorem dX7_sumWithStepPowers_0 : decode cX7_sumWithStepPowers 0 = .ok (.aload_n 0, 1) := by decide +kernel
theorem dX7_sumWithStepPowers_1 : decode cX7_sumWithStepPowers 1 = .ok (.getfield 35, 3) := by decide +kernel
theorem dX7_sumWithStepPowers_4 : decode cX7_sumWithStepPowers 4 = .ok (.aload_n 0, 1) := by decide +kernel
theorem dX7_sumWithStepPowers_5 : decode cX7_sumWithStepPowers 5 = .ok (.getfield 14, 3) := by decide +kernel
theorem dX7_sumWithStepPowers_8 : decode cX7_sumWithStepPowers 8 = .ok (.getfield 78, 3) := by decide +kernel
theorem dX7_sumWithStepPowers_11 : decode cX7_sumWithStepPowers 11 = .ok (.invokevirtual 104, 3) := by decide +kernel
theorem dX7_sumWithStepPowers_14 : decode cX7_sumWithStepPowers 14 = .ok (.iconst 0, 1) := by decide +kernel
theorem dX7_sumWithStepPowers_15 : decode cX7_sumWithStepPowers 15 = .ok (.istore_n 2, 1) := by decide +kernel
theorem dX7_sumWithStepPowers_16 : decode cX7_sumWithStepPowers 16 = .ok (.iload_n 2, 1) := by decide +kernel
theorem dX7_sumWithStepPowers_17 : decode cX7_sumWithStepPowers 17 = .ok (.iconst 5, 1) := by decide +kernel
theorem dX7_sumWithStepPowers_18 : decode cX7_sumWithStepPowers 18 = .ok (.if_icmp .ge 33, 3) := by decide +kernel
theorem dX7_sumWithStepPowers_21 : decode cX7_sumWithStepPowers 21 = .ok (.aload_n 0, 1) := by decide +kernel
theorem dX7_sumWithStepPowers_22 : decode cX7_sumWithStepPowers 22 = .ok (.getfield 35, 3) := by decide +kernel
theorem dX7_sumWithStepPowers_25 : decode cX7_sumWithStepPowers 25 = .ok (.aload_n 1, 1) := by decide +kernel
theorem dX7_sumWithStepPowers_26 : decode cX7_sumWithStepPowers 26 = .ok (.iload_n 2, 1) := by decide +kernel
theorem dX7_sumWithStepPowers_27 : decode cX7_sumWithStepPowers 27 = .ok (.aaload, 1) := by decide +kernel
theorem dX7_sumWithStepPowers_28 : decode cX7_sumWithStepPowers 28 = .ok (.aload_n 0, 1) := by decide +kernel
theorem dX7_sumWithStepPowers_29 : decode cX7_sumWithStepPowers 29 = .ok (.getfield 14, 3) := by decide +kernel
theorem dX7_sumWithStepPowers_32 : decode cX7_sumWithStepPowers 32 = .ok (.getfield 178, 3) := by decide +kernel
theorem dX7_sumWithStepPowers_35 : decode cX7_sumWithStepPowers 35 = .ok (.getfield 212, 3) := by decide +kernel
theorem dX7_sumWithStepPowers_38 : decode cX7_sumWithStepPowers 38 = .ok (.iload_n 2, 1) := by decide +kernel
theorem dX7_sumWithStepPowers_39 : decode cX7_sumWithStepPowers 39 = .ok (.invokestatic 337, 3) := by decide +kernel
theorem dX7_sumWithStepPowers_42 : decode cX7_sumWithStepPowers 42 = .ok (.invokevirtual 123, 3) := by decide +kernel
theorem dX7_sumWithStepPowers_45 : decode cX7_sumWithStepPowers 45 = .ok (.iinc 2 1, 3) := by decide +kernel
theorem dX7_sumWithStepPowers_48 : decode cX7_sumWithStepPowers 48 = .ok (.goto (-32), 3) := by decide +kernel
theorem dX7_sumWithStepPowers_51 : decode cX7_sumWithStepPowers 51 = .ok (.return_, 1) := by decide +kernel
theorem dX7_stepPower_0 : decode cX7_stepPower 0 = .ok (.iload_n 0, 1) := by decide +kernel
theorem dX7_stepPower_1 : decode cX7_stepPower 1 = .ok (.iload_n 1, 1) := by decide +kernel
theorem dX7_stepPower_2 : decode cX7_stepPower 2 = .ok (.imul, 1) := by decide +kernel
theorem dX7_stepPower_3 : decode cX7_stepPower 3 = .ok (.iload_n 1, 1) := by decide +kernel
theorem dX7_stepPower_4 : decode cX7_stepPower 4 = .ok (.iload_n 1, 1) := by decide +kernel
theorem dX7_stepPower_5 : decode cX7_stepPower 5 = .ok (.imul, 1) := by decide +kernel
theorem dX7_stepPower_6 : decode cX7_stepPower 6 = .ok (.iadd, 1) := by decide +kernel
theorem dX7_stepPower_7 : decode cX7_stepPower 7 = .ok (.ireturn, 1) := by decide +kernel
theorem dX7_copyRow_0 : decode cX7_copyRow 0 = .ok (.aload_n 0, 1) := by decide +kernel
theorem dX7_copyRow_1 : decode cX7_copyRow 1 = .ok (.iconst 0, 1) := by decide +kernel
theorem dX7_copyRow_2 : decode cX7_copyRow 2 = .ok (.aload_n 1, 1) := by decide +kernel
theorem dX7_copyRow_3 : decode cX7_copyRow 3 = .ok (.iconst 0, 1) := by decide +kernel
theorem dX7_copyRow_4 : decode cX7_copyRow 4 = .ok (.bipush 24, 2) := by decide +kernel
theorem dX7_copyRow_6 : decode cX7_copyRow 6 = .ok (.invokestatic 288, 3) := by decide +kernel
theorem dX7_copyRow_9 : decode cX7_copyRow 9 = .ok (.return_, 1) := by decide +kernel
theorem dX7_lowestPower_0 : decode cX7_lowestPower 0 = .ok (.iconst 0, 1) := by decide +kernel
theorem dX7_lowestPower_1 : decode cX7_lowestPower 1 = .ok (.istore_n 2, 1) := by decide +kernel
theorem dX7_lowestPower_2 : decode cX7_lowestPower 2 = .ok (.iload_n 2, 1) := by decide +kernel
theorem dX7_lowestPower_3 : decode cX7_lowestPower 3 = .ok (.aload_n 0, 1) := by decide +kernel
theorem dX7_lowestPower_4 : decode cX7_lowestPower 4 = .ok (.getfield 14, 3) := by decide +kernel
theorem dX7_lowestPower_7 : decode cX7_lowestPower 7 = .ok (.getfield 78, 3) := by decide +kernel
theorem dX7_lowestPower_10 : decode cX7_lowestPower 10 = .ok (.if_icmp .ge 17, 3) := by decide +kernel
theorem dX7_lowestPower_13 : decode cX7_lowestPower 13 = .ok (.aload_n 1, 1) := by decide +kernel
theorem dX7_lowestPower_14 : decode cX7_lowestPower 14 = .ok (.iload_n 2, 1) := by decide +kernel
theorem dX7_lowestPower_15 : decode cX7_lowestPower 15 = .ok (.iaload, 1) := by decide +kernel
theorem dX7_lowestPower_16 : decode cX7_lowestPower 16 = .ok (.ifCond .eq 5, 3) := by decide +kernel
theorem dX7_lowestPower_19 : decode cX7_lowestPower 19 = .ok (.iload_n 2, 1) := by decide +kernel
theorem dX7_lowestPower_20 : decode cX7_lowestPower 20 = .ok (.ireturn, 1) := by decide +kernel
theorem dX7_lowestPower_21 : decode cX7_lowestPower 21 = .ok (.iinc 2 1, 3) := by decide +kernel
theorem dX7_lowestPower_24 : decode cX7_lowestPower 24 = .ok (.goto (-22), 3) := by decide +kernel
theorem dX7_lowestPower_27 : decode cX7_lowestPower 27 = .ok (.bipush (-7), 2) := by decide +kernel
theorem dX7_lowestPower_29 : decode cX7_lowestPower 29 = .ok (.ireturn, 1) := by decide +kernel
theorem dX7_highestPower_0 : decode cX7_highestPower 0 = .ok (.aload_n 0, 1) := by decide +kernel
theorem dX7_highestPower_1 : decode cX7_highestPower 1 = .ok (.getfield 14, 3) := by decide +kernel
theorem dX7_highestPower_4 : decode cX7_highestPower 4 = .ok (.getfield 78, 3) := by decide +kernel
theorem dX7_highestPower_7 : decode cX7_highestPower 7 = .ok (.iconst 1, 1) := by decide +kernel
theorem dX7_highestPower_8 : decode cX7_highestPower 8 = .ok (.isub, 1) := by decide +kernel
theorem dX7_highestPower_9 : decode cX7_highestPower 9 = .ok (.istore_n 2, 1) := by decide +kernel
theorem dX7_highestPower_10 : decode cX7_highestPower 10 = .ok (.iload_n 2, 1) := by decide +kernel
theorem dX7_highestPower_11 : decode cX7_highestPower 11 = .ok (.ifCond .lt 17, 3) := by decide +kernel
theorem dX7_highestPower_14 : decode cX7_highestPower 14 = .ok (.aload_n 1, 1) := by decide +kernel
theorem dX7_highestPower_15 : decode cX7_highestPower 15 = .ok (.iload_n 2, 1) := by decide +kernel
theorem dX7_highestPower_16 : decode cX7_highestPower 16 = .ok (.iaload, 1) := by decide +kernel
theorem dX7_highestPower_17 : decode cX7_highestPower 17 = .ok (.ifCond .eq 5, 3) := by decide +kernel
theorem dX7_highestPower_20 : decode cX7_highestPower 20 = .ok (.iload_n 2, 1) := by decide +kernel
theorem dX7_highestPower_21 : decode cX7_highestPower 21 = .ok (.ireturn, 1) := by decide +kernel
theorem dX7_highestPower_22 : decode cX7_highestPower 22 = .ok (.iinc 2 (-1), 3) := by decide +kernel
theorem dX7_highestPower_25 : decode cX7_highestPower 25 = .ok (.goto (-15), 3) := by decide +kernel
theorem dX7_highestPower_28 : decode cX7_highestPower 28 = .ok (.bipush (-7), 2) := by decide +kernel
theorem dX7_highestPower_30 : decode cX7_highestPower 30 = .ok (.ireturn, 1) := by decide +kernel
theorem dX7_lowestDifference_0 : decode cX7_lowestDifference 0 = .ok (.iconst 0, 1) := by decide +kernel
theorem dX7_lowestDifference_1 : decode cX7_lowestDifference 1 = .ok (.istore_n 3, 1) := by decide +kernel
theorem dX7_lowestDifference_2 : decode cX7_lowestDifference 2 = .ok (.iload_n 3, 1) := by decide +kernel
theorem dX7_lowestDifference_3 : decode cX7_lowestDifference 3 = .ok (.aload_n 0, 1) := by decide +kernel
theorem dX7_lowestDifference_4 : decode cX7_lowestDifference 4 = .ok (.getfield 14, 3) := by decide +kernel
theorem dX7_lowestDifference_7 : decode cX7_lowestDifference 7 = .ok (.getfield 78, 3) := by decide +kernel
theorem dX7_lowestDifference_10 : decode cX7_lowestDifference 10 = .ok (.if_icmp .ge 20, 3) := by decide +kernel
theorem dX7_lowestDifference_13 : decode cX7_lowestDifference 13 = .ok (.aload_n 1, 1) := by decide +kernel
theorem dX7_lowestDifference_14 : decode cX7_lowestDifference 14 = .ok (.iload_n 3, 1) := by decide +kernel
theorem dX7_lowestDifference_15 : decode cX7_lowestDifference 15 = .ok (.iaload, 1) := by decide +kernel
theorem dX7_lowestDifference_16 : decode cX7_lowestDifference 16 = .ok (.aload_n 2, 1) := by decide +kernel
theorem dX7_lowestDifference_17 : decode cX7_lowestDifference 17 = .ok (.iload_n 3, 1) := by decide +kernel
theorem dX7_lowestDifference_18 : decode cX7_lowestDifference 18 = .ok (.iaload, 1) := by decide +kernel
theorem dX7_lowestDifference_19 : decode cX7_lowestDifference 19 = .ok (.if_icmp .eq 5, 3) := by decide +kernel
theorem dX7_lowestDifference_22 : decode cX7_lowestDifference 22 = .ok (.iload_n 3, 1) := by decide +kernel
theorem dX7_lowestDifference_23 : decode cX7_lowestDifference 23 = .ok (.ireturn, 1) := by decide +kernel
theorem dX7_lowestDifference_24 : decode cX7_lowestDifference 24 = .ok (.iinc 3 1, 3) := by decide +kernel
theorem dX7_lowestDifference_27 : decode cX7_lowestDifference 27 = .ok (.goto (-25), 3) := by decide +kernel
theorem dX7_lowestDifference_30 : decode cX7_lowestDifference 30 = .ok (.bipush (-7), 2) := by decide +kernel
theorem dX7_lowestDifference_32 : decode cX7_lowestDifference 32 = .ok (.ireturn, 1) := by decide +kernel
theorem dX7_countNonzero_0 : decode cX7_countNonzero 0 = .ok (.iconst 0, 1) := by decide +kernel
theorem dX7_countNonzero_1 : decode cX7_countNonzero 1 = .ok (.istore_n 2, 1) := by decide +kernel
theorem dX7_countNonzero_2 : decode cX7_countNonzero 2 = .ok (.iconst 0, 1) := by decide +kernel
theorem dX7_countNonzero_3 : decode cX7_countNonzero 3 = .ok (.istore_n 3, 1) := by decide +kernel
theorem dX7_countNonzero_4 : decode cX7_countNonzero 4 = .ok (.iload_n 3, 1) := by decide +kernel
theorem dX7_countNonzero_5 : decode cX7_countNonzero 5 = .ok (.aload_n 0, 1) := by decide +kernel
theorem dX7_countNonzero_6 : decode cX7_countNonzero 6 = .ok (.getfield 14, 3) := by decide +kernel
theorem dX7_countNonzero_9 : decode cX7_countNonzero 9 = .ok (.getfield 78, 3) := by decide +kernel
theorem dX7_countNonzero_12 : decode cX7_countNonzero 12 = .ok (.if_icmp .ge 18, 3) := by decide +kernel
theorem dX7_countNonzero_15 : decode cX7_countNonzero 15 = .ok (.aload_n 1, 1) := by decide +kernel
theorem dX7_countNonzero_16 : decode cX7_countNonzero 16 = .ok (.iload_n 3, 1) := by decide +kernel
theorem dX7_countNonzero_17 : decode cX7_countNonzero 17 = .ok (.iaload, 1) := by decide +kernel
theorem dX7_countNonzero_18 : decode cX7_countNonzero 18 = .ok (.ifCond .eq 6, 3) := by decide +kernel
theorem dX7_countNonzero_21 : decode cX7_countNonzero 21 = .ok (.iinc 2 1, 3) := by decide +kernel
theorem dX7_countNonzero_24 : decode cX7_countNonzero 24 = .ok (.iinc 3 1, 3) := by decide +kernel
theorem dX7_countNonzero_27 : decode cX7_countNonzero 27 = .ok (.goto (-23), 3) := by decide +kernel
theorem dX7_countNonzero_30 : decode cX7_countNonzero 30 = .ok (.iload_n 2, 1) := by decide +kernel
theorem dX7_countNonzero_31 : decode cX7_countNonzero 31 = .ok (.ireturn, 1) := by decide +kernel
theorem dX7_countNegative_0 : decode cX7_countNegative 0 = .ok (.iconst 0, 1) := by decide +kernel
theorem dX7_countNegative_1 : decode cX7_countNegative 1 = .ok (.istore_n 2, 1) := by decide +kernel
theorem dX7_countNegative_2 : decode cX7_countNegative 2 = .ok (.iconst 0, 1) := by decide +kernel
theorem dX7_countNegative_3 : decode cX7_countNegative 3 = .ok (.istore_n 3, 1) := by decide +kernel
theorem dX7_countNegative_4 : decode cX7_countNegative 4 = .ok (.iload_n 3, 1) := by decide +kernel
theorem dX7_countNegative_5 : decode cX7_countNegative 5 = .ok (.aload_n 0, 1) := by decide +kernel
theorem dX7_countNegative_6 : decode cX7_countNegative 6 = .ok (.getfield 14, 3) := by decide +kernel
theorem dX7_countNegative_9 : decode cX7_countNegative 9 = .ok (.getfield 78, 3) := by decide +kernel
theorem dX7_countNegative_12 : decode cX7_countNegative 12 = .ok (.if_icmp .ge 18, 3) := by decide +kernel
theorem dX7_countNegative_15 : decode cX7_countNegative 15 = .ok (.aload_n 1, 1) := by decide +kernel
theorem dX7_countNegative_16 : decode cX7_countNegative 16 = .ok (.iload_n 3, 1) := by decide +kernel
theorem dX7_countNegative_17 : decode cX7_countNegative 17 = .ok (.iaload, 1) := by decide +kernel
theorem dX7_countNegative_18 : decode cX7_countNegative 18 = .ok (.ifCond .ge 6, 3) := by decide +kernel
theorem dX7_countNegative_21 : decode cX7_countNegative 21 = .ok (.iinc 2 1, 3) := by decide +kernel
theorem dX7_countNegative_24 : decode cX7_countNegative 24 = .ok (.iinc 3 1, 3) := by decide +kernel
theorem dX7_countNegative_27 : decode cX7_countNegative 27 = .ok (.goto (-23), 3) := by decide +kernel
theorem dX7_countNegative_30 : decode cX7_countNegative 30 = .ok (.iload_n 2, 1) := by decide +kernel
theorem dX7_countNegative_31 : decode cX7_countNegative 31 = .ok (.ireturn, 1) := by decide +kernel
theorem dX7_countSignChanges_0 : decode cX7_countSignChanges 0 = .ok (.iconst 0, 1) := by decide +kernel
theorem dX7_countSignChanges_1 : decode cX7_countSignChanges 1 = .ok (.istore_n 2, 1) := by decide +kernel
theorem dX7_countSignChanges_2 : decode cX7_countSignChanges 2 = .ok (.iconst 0, 1) := by decide +kernel
theorem dX7_countSignChanges_3 : decode cX7_countSignChanges 3 = .ok (.istore_n 3, 1) := by decide +kernel
theorem dX7_countSignChanges_4 : decode cX7_countSignChanges 4 = .ok (.iconst 0, 1) := by decide +kernel
theorem dX7_countSignChanges_5 : decode cX7_countSignChanges 5 = .ok (.istore 4, 2) := by decide +kernel
theorem dX7_countSignChanges_7 : decode cX7_countSignChanges 7 = .ok (.iload 4, 2) := by decide +kernel
theorem dX7_countSignChanges_9 : decode cX7_countSignChanges 9 = .ok (.aload_n 0, 1) := by decide +kernel
theorem dX7_countSignChanges_10 : decode cX7_countSignChanges 10 = .ok (.getfield 14, 3) := by decide +kernel
theorem dX7_countSignChanges_13 : decode cX7_countSignChanges 13 = .ok (.getfield 78, 3) := by decide +kernel
theorem dX7_countSignChanges_16 : decode cX7_countSignChanges 16 = .ok (.if_icmp .ge 37, 3) := by decide +kernel
theorem dX7_countSignChanges_19 : decode cX7_countSignChanges 19 = .ok (.aload_n 1, 1) := by decide +kernel
theorem dX7_countSignChanges_20 : decode cX7_countSignChanges 20 = .ok (.iload 4, 2) := by decide +kernel
theorem dX7_countSignChanges_22 : decode cX7_countSignChanges 22 = .ok (.iaload, 1) := by decide +kernel
theorem dX7_countSignChanges_23 : decode cX7_countSignChanges 23 = .ok (.iconst 0, 1) := by decide +kernel
theorem dX7_countSignChanges_24 : decode cX7_countSignChanges 24 = .ok (.invokestatic 340, 3) := by decide +kernel
theorem dX7_countSignChanges_27 : decode cX7_countSignChanges 27 = .ok (.istore 5, 2) := by decide +kernel
theorem dX7_countSignChanges_29 : decode cX7_countSignChanges 29 = .ok (.iload 5, 2) := by decide +kernel
theorem dX7_countSignChanges_31 : decode cX7_countSignChanges 31 = .ok (.ifCond .eq 16, 3) := by decide +kernel
theorem dX7_countSignChanges_34 : decode cX7_countSignChanges 34 = .ok (.iload 5, 2) := by decide +kernel
theorem dX7_countSignChanges_36 : decode cX7_countSignChanges 36 = .ok (.iload_n 3, 1) := by decide +kernel
theorem dX7_countSignChanges_37 : decode cX7_countSignChanges 37 = .ok (.ineg, 1) := by decide +kernel
theorem dX7_countSignChanges_38 : decode cX7_countSignChanges 38 = .ok (.if_icmp .ne 6, 3) := by decide +kernel
theorem dX7_countSignChanges_41 : decode cX7_countSignChanges 41 = .ok (.iinc 2 1, 3) := by decide +kernel
theorem dX7_countSignChanges_44 : decode cX7_countSignChanges 44 = .ok (.iload 5, 2) := by decide +kernel
theorem dX7_countSignChanges_46 : decode cX7_countSignChanges 46 = .ok (.istore_n 3, 1) := by decide +kernel
theorem dX7_countSignChanges_47 : decode cX7_countSignChanges 47 = .ok (.iinc 4 1, 3) := by decide +kernel
theorem dX7_countSignChanges_50 : decode cX7_countSignChanges 50 = .ok (.goto (-43), 3) := by decide +kernel
theorem dX7_countSignChanges_53 : decode cX7_countSignChanges 53 = .ok (.iload_n 2, 1) := by decide +kernel
theorem dX7_countSignChanges_54 : decode cX7_countSignChanges 54 = .ok (.ireturn, 1) := by decide +kernel
theorem dX7_largestAbsolute_0 : decode cX7_largestAbsolute 0 = .ok (.iconst 0, 1) := by decide +kernel
theorem dX7_largestAbsolute_1 : decode cX7_largestAbsolute 1 = .ok (.istore_n 2, 1) := by decide +kernel
theorem dX7_largestAbsolute_2 : decode cX7_largestAbsolute 2 = .ok (.iconst 0, 1) := by decide +kernel
theorem dX7_largestAbsolute_3 : decode cX7_largestAbsolute 3 = .ok (.istore_n 3, 1) := by decide +kernel
theorem dX7_largestAbsolute_4 : decode cX7_largestAbsolute 4 = .ok (.iload_n 3, 1) := by decide +kernel
theorem dX7_largestAbsolute_5 : decode cX7_largestAbsolute 5 = .ok (.aload_n 0, 1) := by decide +kernel
theorem dX7_largestAbsolute_6 : decode cX7_largestAbsolute 6 = .ok (.getfield 14, 3) := by decide +kernel
theorem dX7_largestAbsolute_9 : decode cX7_largestAbsolute 9 = .ok (.getfield 78, 3) := by decide +kernel
theorem dX7_largestAbsolute_12 : decode cX7_largestAbsolute 12 = .ok (.if_icmp .ge 20, 3) := by decide +kernel
theorem dX7_largestAbsolute_15 : decode cX7_largestAbsolute 15 = .ok (.iload_n 2, 1) := by decide +kernel
theorem dX7_largestAbsolute_16 : decode cX7_largestAbsolute 16 = .ok (.aload_n 1, 1) := by decide +kernel
theorem dX7_largestAbsolute_17 : decode cX7_largestAbsolute 17 = .ok (.iload_n 3, 1) := by decide +kernel
theorem dX7_largestAbsolute_18 : decode cX7_largestAbsolute 18 = .ok (.iaload, 1) := by decide +kernel
theorem dX7_largestAbsolute_19 : decode cX7_largestAbsolute 19 = .ok (.invokestatic 345, 3) := by decide +kernel
theorem dX7_largestAbsolute_22 : decode cX7_largestAbsolute 22 = .ok (.invokestatic 348, 3) := by decide +kernel
theorem dX7_largestAbsolute_25 : decode cX7_largestAbsolute 25 = .ok (.istore_n 2, 1) := by decide +kernel
theorem dX7_largestAbsolute_26 : decode cX7_largestAbsolute 26 = .ok (.iinc 3 1, 3) := by decide +kernel
theorem dX7_largestAbsolute_29 : decode cX7_largestAbsolute 29 = .ok (.goto (-25), 3) := by decide +kernel
theorem dX7_largestAbsolute_32 : decode cX7_largestAbsolute 32 = .ok (.iload_n 2, 1) := by decide +kernel
theorem dX7_largestAbsolute_33 : decode cX7_largestAbsolute 33 = .ok (.ireturn, 1) := by decide +kernel
theorem dX7_countRecords_0 : decode cX7_countRecords 0 = .ok (.iconst 1, 1) := by decide +kernel
theorem dX7_countRecords_1 : decode cX7_countRecords 1 = .ok (.istore_n 2, 1) := by decide +kernel
theorem dX7_countRecords_2 : decode cX7_countRecords 2 = .ok (.aload_n 1, 1) := by decide +kernel
theorem dX7_countRecords_3 : decode cX7_countRecords 3 = .ok (.iconst 0, 1) := by decide +kernel
theorem dX7_countRecords_4 : decode cX7_countRecords 4 = .ok (.iaload, 1) := by decide +kernel
theorem dX7_countRecords_5 : decode cX7_countRecords 5 = .ok (.istore_n 3, 1) := by decide +kernel
theorem dX7_countRecords_6 : decode cX7_countRecords 6 = .ok (.iconst 1, 1) := by decide +kernel
theorem dX7_countRecords_7 : decode cX7_countRecords 7 = .ok (.istore 4, 2) := by decide +kernel
theorem dX7_countRecords_9 : decode cX7_countRecords 9 = .ok (.iload 4, 2) := by decide +kernel
theorem dX7_countRecords_11 : decode cX7_countRecords 11 = .ok (.aload_n 0, 1) := by decide +kernel
theorem dX7_countRecords_12 : decode cX7_countRecords 12 = .ok (.getfield 14, 3) := by decide +kernel
theorem dX7_countRecords_15 : decode cX7_countRecords 15 = .ok (.getfield 78, 3) := by decide +kernel
theorem dX7_countRecords_18 : decode cX7_countRecords 18 = .ok (.if_icmp .ge 25, 3) := by decide +kernel
theorem dX7_countRecords_21 : decode cX7_countRecords 21 = .ok (.aload_n 1, 1) := by decide +kernel
theorem dX7_countRecords_22 : decode cX7_countRecords 22 = .ok (.iload 4, 2) := by decide +kernel
theorem dX7_countRecords_24 : decode cX7_countRecords 24 = .ok (.iaload, 1) := by decide +kernel
theorem dX7_countRecords_25 : decode cX7_countRecords 25 = .ok (.iload_n 3, 1) := by decide +kernel
theorem dX7_countRecords_26 : decode cX7_countRecords 26 = .ok (.if_icmp .le 11, 3) := by decide +kernel
theorem dX7_countRecords_29 : decode cX7_countRecords 29 = .ok (.aload_n 1, 1) := by decide +kernel
theorem dX7_countRecords_30 : decode cX7_countRecords 30 = .ok (.iload 4, 2) := by decide +kernel
theorem dX7_countRecords_32 : decode cX7_countRecords 32 = .ok (.iaload, 1) := by decide +kernel
theorem dX7_countRecords_33 : decode cX7_countRecords 33 = .ok (.istore_n 3, 1) := by decide +kernel
theorem dX7_countRecords_34 : decode cX7_countRecords 34 = .ok (.iinc 2 1, 3) := by decide +kernel
theorem dX7_countRecords_37 : decode cX7_countRecords 37 = .ok (.iinc 4 1, 3) := by decide +kernel
theorem dX7_countRecords_40 : decode cX7_countRecords 40 = .ok (.goto (-31), 3) := by decide +kernel
theorem dX7_countRecords_43 : decode cX7_countRecords 43 = .ok (.iload_n 2, 1) := by decide +kernel
theorem dX7_countRecords_44 : decode cX7_countRecords 44 = .ok (.ireturn, 1) := by decide +kernel
theorem dX7_rankOf_0 : decode cX7_rankOf 0 = .ok (.iconst 0, 1) := by decide +kernel
theorem dX7_rankOf_1 : decode cX7_rankOf 1 = .ok (.istore_n 2, 1) := by decide +kernel
theorem dX7_rankOf_2 : decode cX7_rankOf 2 = .ok (.iconst 0, 1) := by decide +kernel
theorem dX7_rankOf_3 : decode cX7_rankOf 3 = .ok (.istore_n 3, 1) := by decide +kernel
theorem dX7_rankOf_4 : decode cX7_rankOf 4 = .ok (.iload_n 3, 1) := by decide +kernel
theorem dX7_rankOf_5 : decode cX7_rankOf 5 = .ok (.bipush 6, 2) := by decide +kernel
theorem dX7_rankOf_7 : decode cX7_rankOf 7 = .ok (.if_icmp .ge 21, 3) := by decide +kernel
theorem dX7_rankOf_10 : decode cX7_rankOf 10 = .ok (.aload_n 0, 1) := by decide +kernel
theorem dX7_rankOf_11 : decode cX7_rankOf 11 = .ok (.iload_n 3, 1) := by decide +kernel
theorem dX7_rankOf_12 : decode cX7_rankOf 12 = .ok (.iload_n 1, 1) := by decide +kernel
theorem dX7_rankOf_13 : decode cX7_rankOf 13 = .ok (.invokevirtual 351, 3) := by decide +kernel
theorem dX7_rankOf_16 : decode cX7_rankOf 16 = .ok (.ifCond .eq 6, 3) := by decide +kernel
theorem dX7_rankOf_19 : decode cX7_rankOf 19 = .ok (.iinc 2 1, 3) := by decide +kernel
theorem dX7_rankOf_22 : decode cX7_rankOf 22 = .ok (.iinc 3 1, 3) := by decide +kernel
theorem dX7_rankOf_25 : decode cX7_rankOf 25 = .ok (.goto (-21), 3) := by decide +kernel
theorem dX7_rankOf_28 : decode cX7_rankOf 28 = .ok (.iload_n 2, 1) := by decide +kernel
theorem dX7_rankOf_29 : decode cX7_rankOf 29 = .ok (.ireturn, 1) := by decide +kernel
theorem dX7_comesBefore_0 : decode cX7_comesBefore 0 = .ok (.aload_n 0, 1) := by decide +kernel
theorem dX7_comesBefore_1 : decode cX7_comesBefore 1 = .ok (.aload_n 0, 1) := by decide +kernel
theorem dX7_comesBefore_2 : decode cX7_comesBefore 2 = .ok (.getfield 14, 3) := by decide +kernel
theorem dX7_comesBefore_5 : decode cX7_comesBefore 5 = .ok (.getfield 91, 3) := by decide +kernel
theorem dX7_comesBefore_8 : decode cX7_comesBefore 8 = .ok (.iload_n 1, 1) := by decide +kernel
theorem dX7_comesBefore_9 : decode cX7_comesBefore 9 = .ok (.aaload, 1) := by decide +kernel
theorem dX7_comesBefore_10 : decode cX7_comesBefore 10 = .ok (.invokevirtual 97, 3) := by decide +kernel
theorem dX7_comesBefore_13 : decode cX7_comesBefore 13 = .ok (.istore_n 3, 1) := by decide +kernel
theorem dX7_comesBefore_14 : decode cX7_comesBefore 14 = .ok (.aload_n 0, 1) := by decide +kernel
theorem dX7_comesBefore_15 : decode cX7_comesBefore 15 = .ok (.aload_n 0, 1) := by decide +kernel
theorem dX7_comesBefore_16 : decode cX7_comesBefore 16 = .ok (.getfield 14, 3) := by decide +kernel
theorem dX7_comesBefore_19 : decode cX7_comesBefore 19 = .ok (.getfield 91, 3) := by decide +kernel
theorem dX7_comesBefore_22 : decode cX7_comesBefore 22 = .ok (.iload_n 2, 1) := by decide +kernel
theorem dX7_comesBefore_23 : decode cX7_comesBefore 23 = .ok (.aaload, 1) := by decide +kernel
theorem dX7_comesBefore_24 : decode cX7_comesBefore 24 = .ok (.invokevirtual 97, 3) := by decide +kernel
theorem dX7_comesBefore_27 : decode cX7_comesBefore 27 = .ok (.istore 4, 2) := by decide +kernel
theorem dX7_comesBefore_29 : decode cX7_comesBefore 29 = .ok (.iload_n 3, 1) := by decide +kernel
theorem dX7_comesBefore_30 : decode cX7_comesBefore 30 = .ok (.iload 4, 2) := by decide +kernel
theorem dX7_comesBefore_32 : decode cX7_comesBefore 32 = .ok (.if_icmp .eq 28, 3) := by decide +kernel
theorem dX7_comesBefore_35 : decode cX7_comesBefore 35 = .ok (.iload_n 3, 1) := by decide +kernel
theorem dX7_comesBefore_36 : decode cX7_comesBefore 36 = .ok (.bipush (-7), 2) := by decide +kernel
theorem dX7_comesBefore_38 : decode cX7_comesBefore 38 = .ok (.if_icmp .eq 20, 3) := by decide +kernel
theorem dX7_comesBefore_41 : decode cX7_comesBefore 41 = .ok (.iload 4, 2) := by decide +kernel
theorem dX7_comesBefore_43 : decode cX7_comesBefore 43 = .ok (.bipush (-7), 2) := by decide +kernel
theorem dX7_comesBefore_45 : decode cX7_comesBefore 45 = .ok (.if_icmp .eq 9, 3) := by decide +kernel
theorem dX7_comesBefore_48 : decode cX7_comesBefore 48 = .ok (.iload_n 3, 1) := by decide +kernel
theorem dX7_comesBefore_49 : decode cX7_comesBefore 49 = .ok (.iload 4, 2) := by decide +kernel
theorem dX7_comesBefore_51 : decode cX7_comesBefore 51 = .ok (.if_icmp .ge 7, 3) := by decide +kernel
theorem dX7_comesBefore_54 : decode cX7_comesBefore 54 = .ok (.iconst 1, 1) := by decide +kernel
theorem dX7_comesBefore_55 : decode cX7_comesBefore 55 = .ok (.goto 4, 3) := by decide +kernel
theorem dX7_comesBefore_58 : decode cX7_comesBefore 58 = .ok (.iconst 0, 1) := by decide +kernel
theorem dX7_comesBefore_59 : decode cX7_comesBefore 59 = .ok (.ireturn, 1) := by decide +kernel
theorem dX7_comesBefore_60 : decode cX7_comesBefore 60 = .ok (.aload_n 0, 1) := by decide +kernel
theorem dX7_comesBefore_61 : decode cX7_comesBefore 61 = .ok (.aload_n 0, 1) := by decide +kernel
theorem dX7_comesBefore_62 : decode cX7_comesBefore 62 = .ok (.getfield 14, 3) := by decide +kernel
theorem dX7_comesBefore_65 : decode cX7_comesBefore 65 = .ok (.getfield 91, 3) := by decide +kernel
theorem dX7_comesBefore_68 : decode cX7_comesBefore 68 = .ok (.iload_n 1, 1) := by decide +kernel
theorem dX7_comesBefore_69 : decode cX7_comesBefore 69 = .ok (.aaload, 1) := by decide +kernel
theorem dX7_comesBefore_70 : decode cX7_comesBefore 70 = .ok (.invokevirtual 101, 3) := by decide +kernel
theorem dX7_comesBefore_73 : decode cX7_comesBefore 73 = .ok (.istore 5, 2) := by decide +kernel
theorem dX7_comesBefore_75 : decode cX7_comesBefore 75 = .ok (.aload_n 0, 1) := by decide +kernel
theorem dX7_comesBefore_76 : decode cX7_comesBefore 76 = .ok (.aload_n 0, 1) := by decide +kernel
theorem dX7_comesBefore_77 : decode cX7_comesBefore 77 = .ok (.getfield 14, 3) := by decide +kernel
theorem dX7_comesBefore_80 : decode cX7_comesBefore 80 = .ok (.getfield 91, 3) := by decide +kernel
theorem dX7_comesBefore_83 : decode cX7_comesBefore 83 = .ok (.iload_n 2, 1) := by decide +kernel
theorem dX7_comesBefore_84 : decode cX7_comesBefore 84 = .ok (.aaload, 1) := by decide +kernel
theorem dX7_comesBefore_85 : decode cX7_comesBefore 85 = .ok (.invokevirtual 101, 3) := by decide +kernel
theorem dX7_comesBefore_88 : decode cX7_comesBefore 88 = .ok (.istore 6, 2) := by decide +kernel
theorem dX7_comesBefore_90 : decode cX7_comesBefore 90 = .ok (.iload 5, 2) := by decide +kernel
theorem dX7_comesBefore_92 : decode cX7_comesBefore 92 = .ok (.iload 6, 2) := by decide +kernel
theorem dX7_comesBefore_94 : decode cX7_comesBefore 94 = .ok (.if_icmp .eq 16, 3) := by decide +kernel
theorem dX7_comesBefore_97 : decode cX7_comesBefore 97 = .ok (.iload 5, 2) := by decide +kernel
theorem dX7_comesBefore_99 : decode cX7_comesBefore 99 = .ok (.iload 6, 2) := by decide +kernel
theorem dX7_comesBefore_101 : decode cX7_comesBefore 101 = .ok (.if_icmp .le 7, 3) := by decide +kernel
theorem dX7_comesBefore_104 : decode cX7_comesBefore 104 = .ok (.iconst 1, 1) := by decide +kernel
theorem dX7_comesBefore_105 : decode cX7_comesBefore 105 = .ok (.goto 4, 3) := by decide +kernel
theorem dX7_comesBefore_108 : decode cX7_comesBefore 108 = .ok (.iconst 0, 1) := by decide +kernel
theorem dX7_comesBefore_109 : decode cX7_comesBefore 109 = .ok (.ireturn, 1) := by decide +kernel
theorem dX7_comesBefore_110 : decode cX7_comesBefore 110 = .ok (.iload_n 1, 1) := by decide +kernel
theorem dX7_comesBefore_111 : decode cX7_comesBefore 111 = .ok (.iload_n 2, 1) := by decide +kernel
theorem dX7_comesBefore_112 : decode cX7_comesBefore 112 = .ok (.if_icmp .ge 7, 3) := by decide +kernel
theorem dX7_comesBefore_115 : decode cX7_comesBefore 115 = .ok (.iconst 1, 1) := by decide +kernel
theorem dX7_comesBefore_116 : decode cX7_comesBefore 116 = .ok (.goto 4, 3) := by decide +kernel
theorem dX7_comesBefore_119 : decode cX7_comesBefore 119 = .ok (.iconst 0, 1) := by decide +kernel
theorem dX7_comesBefore_120 : decode cX7_comesBefore 120 = .ok (.ireturn, 1) := by decide +kernel
theorem dX7_filterInInput_0 : decode cX7_filterInInput 0 = .ok (.aload_n 0, 1) := by decide +kernel
theorem dX7_filterInInput_1 : decode cX7_filterInInput 1 = .ok (.getfield 56, 3) := by decide +kernel
theorem dX7_filterInInput_4 : decode cX7_filterInInput 4 = .ok (.ldc_w 354, 3) := by decide +kernel
theorem dX7_filterInInput_7 : decode cX7_filterInInput 7 = .ok (.invokevirtual 356, 3) := by decide +kernel
theorem dX7_filterInInput_10 : decode cX7_filterInInput 10 = .ok (.ifCond .eq 5, 3) := by decide +kernel
theorem dX7_filterInInput_13 : decode cX7_filterInInput 13 = .ok (.iconst 1, 1) := by decide +kernel
theorem dX7_filterInInput_14 : decode cX7_filterInInput 14 = .ok (.ireturn, 1) := by decide +kernel
theorem dX7_filterInInput_15 : decode cX7_filterInInput 15 = .ok (.aload_n 0, 1) := by decide +kernel
theorem dX7_filterInInput_16 : decode cX7_filterInInput 16 = .ok (.getfield 56, 3) := by decide +kernel
theorem dX7_filterInInput_19 : decode cX7_filterInInput 19 = .ok (.ldc_w 360, 3) := by decide +kernel
theorem dX7_filterInInput_22 : decode cX7_filterInInput 22 = .ok (.invokevirtual 356, 3) := by decide +kernel
theorem dX7_filterInInput_25 : decode cX7_filterInInput 25 = .ok (.ifCond .eq 5, 3) := by decide +kernel
theorem dX7_filterInInput_28 : decode cX7_filterInInput 28 = .ok (.iconst 2, 1) := by decide +kernel
theorem dX7_filterInInput_29 : decode cX7_filterInInput 29 = .ok (.ireturn, 1) := by decide +kernel
theorem dX7_filterInInput_30 : decode cX7_filterInInput 30 = .ok (.aload_n 0, 1) := by decide +kernel
theorem dX7_filterInInput_31 : decode cX7_filterInInput 31 = .ok (.getfield 56, 3) := by decide +kernel
theorem dX7_filterInInput_34 : decode cX7_filterInInput 34 = .ok (.ldc_w 362, 3) := by decide +kernel
theorem dX7_filterInInput_37 : decode cX7_filterInInput 37 = .ok (.invokevirtual 356, 3) := by decide +kernel
theorem dX7_filterInInput_40 : decode cX7_filterInInput 40 = .ok (.ifCond .eq 5, 3) := by decide +kernel
theorem dX7_filterInInput_43 : decode cX7_filterInInput 43 = .ok (.iconst 3, 1) := by decide +kernel
theorem dX7_filterInInput_44 : decode cX7_filterInInput 44 = .ok (.ireturn, 1) := by decide +kernel
theorem dX7_filterInInput_45 : decode cX7_filterInInput 45 = .ok (.aload_n 0, 1) := by decide +kernel
theorem dX7_filterInInput_46 : decode cX7_filterInInput 46 = .ok (.getfield 56, 3) := by decide +kernel
theorem dX7_filterInInput_49 : decode cX7_filterInInput 49 = .ok (.ldc_w 364, 3) := by decide +kernel
theorem dX7_filterInInput_52 : decode cX7_filterInInput 52 = .ok (.invokevirtual 356, 3) := by decide +kernel
theorem dX7_filterInInput_55 : decode cX7_filterInInput 55 = .ok (.ifCond .eq 5, 3) := by decide +kernel
theorem dX7_filterInInput_58 : decode cX7_filterInInput 58 = .ok (.iconst 4, 1) := by decide +kernel
theorem dX7_filterInInput_59 : decode cX7_filterInInput 59 = .ok (.ireturn, 1) := by decide +kernel
theorem dX7_filterInInput_60 : decode cX7_filterInInput 60 = .ok (.aload_n 0, 1) := by decide +kernel
theorem dX7_filterInInput_61 : decode cX7_filterInInput 61 = .ok (.getfield 56, 3) := by decide +kernel
theorem dX7_filterInInput_64 : decode cX7_filterInInput 64 = .ok (.ldc_w 366, 3) := by decide +kernel
theorem dX7_filterInInput_67 : decode cX7_filterInInput 67 = .ok (.invokevirtual 356, 3) := by decide +kernel
theorem dX7_filterInInput_70 : decode cX7_filterInInput 70 = .ok (.ifCond .eq 5, 3) := by decide +kernel
theorem dX7_filterInInput_73 : decode cX7_filterInInput 73 = .ok (.iconst 5, 1) := by decide +kernel
theorem dX7_filterInInput_74 : decode cX7_filterInInput 74 = .ok (.ireturn, 1) := by decide +kernel
theorem dX7_filterInInput_75 : decode cX7_filterInInput 75 = .ok (.aload_n 0, 1) := by decide +kernel
theorem dX7_filterInInput_76 : decode cX7_filterInInput 76 = .ok (.getfield 56, 3) := by decide +kernel
theorem dX7_filterInInput_79 : decode cX7_filterInInput 79 = .ok (.ldc_w 368, 3) := by decide +kernel
theorem dX7_filterInInput_82 : decode cX7_filterInInput 82 = .ok (.invokevirtual 356, 3) := by decide +kernel
theorem dX7_filterInInput_85 : decode cX7_filterInInput 85 = .ok (.ifCond .eq 6, 3) := by decide +kernel
theorem dX7_filterInInput_88 : decode cX7_filterInInput 88 = .ok (.bipush 6, 2) := by decide +kernel
theorem dX7_filterInInput_90 : decode cX7_filterInInput 90 = .ok (.ireturn, 1) := by decide +kernel
theorem dX7_filterInInput_91 : decode cX7_filterInInput 91 = .ok (.iconst 0, 1) := by decide +kernel
theorem dX7_filterInInput_92 : decode cX7_filterInInput 92 = .ok (.ireturn, 1) := by decide +kernel
