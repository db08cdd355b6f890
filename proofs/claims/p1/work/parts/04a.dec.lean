theorem dX5_size_0 : decode cX5_size 0 = .ok (.aload_n 0, 1) := by decide +kernel
theorem dX5_size_1 : decode cX5_size 1 = .ok (.getfield 39, 3) := by decide +kernel
theorem dX5_size_4 : decode cX5_size 4 = .ok (.invokevirtual 43, 3) := by decide +kernel
theorem dX5_size_7 : decode cX5_size 7 = .ok (.iconst 2, 1) := by decide +kernel
theorem dX5_size_8 : decode cX5_size 8 = .ok (.idiv, 1) := by decide +kernel
theorem dX5_size_9 : decode cX5_size 9 = .ok (.ireturn, 1) := by decide +kernel
theorem dX5_cellFrom_0 : decode cX5_cellFrom 0 = .ok (.iload_n 1, 1) := by decide +kernel
theorem dX5_cellFrom_1 : decode cX5_cellFrom 1 = .ok (.aload_n 0, 1) := by decide +kernel
theorem dX5_cellFrom_2 : decode cX5_cellFrom 2 = .ok (.iconst 2, 1) := by decide +kernel
theorem dX5_cellFrom_3 : decode cX5_cellFrom 3 = .ok (.iload_n 3, 1) := by decide +kernel
theorem dX5_cellFrom_4 : decode cX5_cellFrom 4 = .ok (.imul, 1) := by decide +kernel
theorem dX5_cellFrom_5 : decode cX5_cellFrom 5 = .ok (.invokevirtual 49, 3) := by decide +kernel
theorem dX5_cellFrom_8 : decode cX5_cellFrom 8 = .ok (.iadd, 1) := by decide +kernel
theorem dX5_cellFrom_9 : decode cX5_cellFrom 9 = .ok (.istore 4, 2) := by decide +kernel
theorem dX5_cellFrom_11 : decode cX5_cellFrom 11 = .ok (.iload_n 2, 1) := by decide +kernel
theorem dX5_cellFrom_12 : decode cX5_cellFrom 12 = .ok (.aload_n 0, 1) := by decide +kernel
theorem dX5_cellFrom_13 : decode cX5_cellFrom 13 = .ok (.iconst 2, 1) := by decide +kernel
theorem dX5_cellFrom_14 : decode cX5_cellFrom 14 = .ok (.iload_n 3, 1) := by decide +kernel
theorem dX5_cellFrom_15 : decode cX5_cellFrom 15 = .ok (.imul, 1) := by decide +kernel
theorem dX5_cellFrom_16 : decode cX5_cellFrom 16 = .ok (.iconst 1, 1) := by decide +kernel
theorem dX5_cellFrom_17 : decode cX5_cellFrom 17 = .ok (.iadd, 1) := by decide +kernel
theorem dX5_cellFrom_18 : decode cX5_cellFrom 18 = .ok (.invokevirtual 49, 3) := by decide +kernel
theorem dX5_cellFrom_21 : decode cX5_cellFrom 21 = .ok (.iadd, 1) := by decide +kernel
theorem dX5_cellFrom_22 : decode cX5_cellFrom 22 = .ok (.istore 5, 2) := by decide +kernel
theorem dX5_cellFrom_24 : decode cX5_cellFrom 24 = .ok (.iload 4, 2) := by decide +kernel
theorem dX5_cellFrom_26 : decode cX5_cellFrom 26 = .ok (.iload 5, 2) := by decide +kernel
theorem dX5_cellFrom_28 : decode cX5_cellFrom 28 = .ok (.invokestatic 53, 3) := by decide +kernel
theorem dX5_cellFrom_31 : decode cX5_cellFrom 31 = .ok (.ifCond .eq 13, 3) := by decide +kernel
theorem dX5_cellFrom_34 : decode cX5_cellFrom 34 = .ok (.iload 4, 2) := by decide +kernel
theorem dX5_cellFrom_36 : decode cX5_cellFrom 36 = .ok (.iload 5, 2) := by decide +kernel
theorem dX5_cellFrom_38 : decode cX5_cellFrom 38 = .ok (.invokestatic 59, 3) := by decide +kernel
theorem dX5_cellFrom_41 : decode cX5_cellFrom 41 = .ok (.goto 4, 3) := by decide +kernel
theorem dX5_cellFrom_44 : decode cX5_cellFrom 44 = .ok (.iconst (-1), 1) := by decide +kernel
theorem dX5_cellFrom_45 : decode cX5_cellFrom 45 = .ok (.ireturn, 1) := by decide +kernel
theorem dX5_digit_0 : decode cX5_digit 0 = .ok (.iload_n 1, 1) := by decide +kernel
theorem dX5_digit_1 : decode cX5_digit 1 = .ok (.ifCond .lt 28, 3) := by decide +kernel
theorem dX5_digit_4 : decode cX5_digit 4 = .ok (.iload_n 1, 1) := by decide +kernel
theorem dX5_digit_5 : decode cX5_digit 5 = .ok (.aload_n 0, 1) := by decide +kernel
theorem dX5_digit_6 : decode cX5_digit 6 = .ok (.getfield 39, 3) := by decide +kernel
theorem dX5_digit_9 : decode cX5_digit 9 = .ok (.invokevirtual 43, 3) := by decide +kernel
theorem dX5_digit_12 : decode cX5_digit 12 = .ok (.if_icmp .ge 17, 3) := by decide +kernel
theorem dX5_digit_15 : decode cX5_digit 15 = .ok (.aload_n 0, 1) := by decide +kernel
theorem dX5_digit_16 : decode cX5_digit 16 = .ok (.getfield 39, 3) := by decide +kernel
theorem dX5_digit_19 : decode cX5_digit 19 = .ok (.iload_n 1, 1) := by decide +kernel
theorem dX5_digit_20 : decode cX5_digit 20 = .ok (.invokevirtual 63, 3) := by decide +kernel
theorem dX5_digit_23 : decode cX5_digit 23 = .ok (.bipush 48, 2) := by decide +kernel
theorem dX5_digit_25 : decode cX5_digit 25 = .ok (.isub, 1) := by decide +kernel
theorem dX5_digit_26 : decode cX5_digit 26 = .ok (.goto 4, 3) := by decide +kernel
theorem dX5_digit_29 : decode cX5_digit 29 = .ok (.iconst 0, 1) := by decide +kernel
theorem dX5_digit_30 : decode cX5_digit 30 = .ok (.ireturn, 1) := by decide +kernel
theorem dX6_bearsWith_0 : decode cX6_bearsWith 0 = .ok (.aload_n 0, 1) := by decide +kernel
theorem dX6_bearsWith_1 : decode cX6_bearsWith 1 = .ok (.getfield 40, 3) := by decide +kernel
theorem dX6_bearsWith_4 : decode cX6_bearsWith 4 = .ok (.iload_n 1, 1) := by decide +kernel
theorem dX6_bearsWith_5 : decode cX6_bearsWith 5 = .ok (.ishr, 1) := by decide +kernel
theorem dX6_bearsWith_6 : decode cX6_bearsWith 6 = .ok (.iconst 1, 1) := by decide +kernel
theorem dX6_bearsWith_7 : decode cX6_bearsWith 7 = .ok (.iand, 1) := by decide +kernel
theorem dX6_bearsWith_8 : decode cX6_bearsWith 8 = .ok (.iconst 1, 1) := by decide +kernel
theorem dX6_bearsWith_9 : decode cX6_bearsWith 9 = .ok (.if_icmp .ne 7, 3) := by decide +kernel
theorem dX6_bearsWith_12 : decode cX6_bearsWith 12 = .ok (.iconst 1, 1) := by decide +kernel
theorem dX6_bearsWith_13 : decode cX6_bearsWith 13 = .ok (.goto 4, 3) := by decide +kernel
theorem dX6_bearsWith_16 : decode cX6_bearsWith 16 = .ok (.iconst 0, 1) := by decide +kernel
theorem dX6_bearsWith_17 : decode cX6_bearsWith 17 = .ok (.ireturn, 1) := by decide +kernel
theorem dX6_sparesWith_0 : decode cX6_sparesWith 0 = .ok (.aload_n 0, 1) := by decide +kernel
theorem dX6_sparesWith_1 : decode cX6_sparesWith 1 = .ok (.getfield 43, 3) := by decide +kernel
theorem dX6_sparesWith_4 : decode cX6_sparesWith 4 = .ok (.iload_n 1, 1) := by decide +kernel
theorem dX6_sparesWith_5 : decode cX6_sparesWith 5 = .ok (.ishr, 1) := by decide +kernel
theorem dX6_sparesWith_6 : decode cX6_sparesWith 6 = .ok (.iconst 1, 1) := by decide +kernel
theorem dX6_sparesWith_7 : decode cX6_sparesWith 7 = .ok (.iand, 1) := by decide +kernel
theorem dX6_sparesWith_8 : decode cX6_sparesWith 8 = .ok (.iconst 1, 1) := by decide +kernel
theorem dX6_sparesWith_9 : decode cX6_sparesWith 9 = .ok (.if_icmp .ne 7, 3) := by decide +kernel
theorem dX6_sparesWith_12 : decode cX6_sparesWith 12 = .ok (.iconst 1, 1) := by decide +kernel
theorem dX6_sparesWith_13 : decode cX6_sparesWith 13 = .ok (.goto 4, 3) := by decide +kernel
theorem dX6_sparesWith_16 : decode cX6_sparesWith 16 = .ok (.iconst 0, 1) := by decide +kernel
theorem dX6_sparesWith_17 : decode cX6_sparesWith 17 = .ok (.ireturn, 1) := by decide +kernel
theorem dX7_init_0 : decode cX7_init 0 = .ok (.aload_n 0, 1) := by decide +kernel
theorem dX7_init_1 : decode cX7_init 1 = .ok (.invokespecial 3, 3) := by decide +kernel
theorem dX7_init_4 : decode cX7_init 4 = .ok (.aload_n 0, 1) := by decide +kernel
theorem dX7_init_5 : decode cX7_init 5 = .ok (.new 9, 3) := by decide +kernel
theorem dX7_init_8 : decode cX7_init 8 = .ok (.dup, 1) := by decide +kernel
theorem dX7_init_9 : decode cX7_init 9 = .ok (.invokespecial 11, 3) := by decide +kernel
theorem dX7_init_12 : decode cX7_init 12 = .ok (.putfield 12, 3) := by decide +kernel
theorem dX7_init_15 : decode cX7_init 15 = .ok (.return_, 1) := by decide +kernel
theorem dX7_passSeveral_0 : decode cX7_passSeveral 0 = .ok (.aload_n 1, 1) := by decide +kernel
theorem dX7_passSeveral_1 : decode cX7_passSeveral 1 = .ok (.getfield 18, 3) := by decide +kernel
theorem dX7_passSeveral_4 : decode cX7_passSeveral 4 = .ok (.istore_n 3, 1) := by decide +kernel
theorem dX7_passSeveral_5 : decode cX7_passSeveral 5 = .ok (.iconst 0, 1) := by decide +kernel
theorem dX7_passSeveral_6 : decode cX7_passSeveral 6 = .ok (.istore 4, 2) := by decide +kernel
theorem dX7_passSeveral_8 : decode cX7_passSeveral 8 = .ok (.iload 4, 2) := by decide +kernel
theorem dX7_passSeveral_10 : decode cX7_passSeveral 10 = .ok (.iload_n 2, 1) := by decide +kernel
theorem dX7_passSeveral_11 : decode cX7_passSeveral 11 = .ok (.if_icmp .ge 14, 3) := by decide +kernel
theorem dX7_passSeveral_14 : decode cX7_passSeveral 14 = .ok (.aload_n 0, 1) := by decide +kernel
theorem dX7_passSeveral_15 : decode cX7_passSeveral 15 = .ok (.aload_n 1, 1) := by decide +kernel
theorem dX7_passSeveral_16 : decode cX7_passSeveral 16 = .ok (.invokevirtual 22, 3) := by decide +kernel
theorem dX7_passSeveral_19 : decode cX7_passSeveral 19 = .ok (.iinc 4 1, 3) := by decide +kernel
theorem dX7_passSeveral_22 : decode cX7_passSeveral 22 = .ok (.goto (-14), 3) := by decide +kernel
theorem dX7_passSeveral_25 : decode cX7_passSeveral 25 = .ok (.aload_n 1, 1) := by decide +kernel
theorem dX7_passSeveral_26 : decode cX7_passSeveral 26 = .ok (.getfield 18, 3) := by decide +kernel
theorem dX7_passSeveral_29 : decode cX7_passSeveral 29 = .ok (.iload_n 3, 1) := by decide +kernel
theorem dX7_passSeveral_30 : decode cX7_passSeveral 30 = .ok (.isub, 1) := by decide +kernel
theorem dX7_passSeveral_31 : decode cX7_passSeveral 31 = .ok (.ireturn, 1) := by decide +kernel
theorem dX7_pass_0 : decode cX7_pass 0 = .ok (.aload_n 0, 1) := by decide +kernel
theorem dX7_pass_1 : decode cX7_pass 1 = .ok (.getfield 12, 3) := by decide +kernel
theorem dX7_pass_4 : decode cX7_pass 4 = .ok (.aload_n 1, 1) := by decide +kernel
theorem dX7_pass_5 : decode cX7_pass 5 = .ok (.invokevirtual 26, 3) := by decide +kernel
theorem dX7_pass_8 : decode cX7_pass 8 = .ok (.iconst 0, 1) := by decide +kernel
theorem dX7_pass_9 : decode cX7_pass 9 = .ok (.istore_n 2, 1) := by decide +kernel
theorem dX7_pass_10 : decode cX7_pass 10 = .ok (.iload_n 2, 1) := by decide +kernel
theorem dX7_pass_11 : decode cX7_pass 11 = .ok (.bipush 64, 2) := by decide +kernel
theorem dX7_pass_13 : decode cX7_pass 13 = .ok (.if_icmp .ge 100, 3) := by decide +kernel
theorem dX7_pass_16 : decode cX7_pass 16 = .ok (.aload_n 0, 1) := by decide +kernel
theorem dX7_pass_17 : decode cX7_pass 17 = .ok (.getfield 12, 3) := by decide +kernel
theorem dX7_pass_20 : decode cX7_pass 20 = .ok (.iload_n 2, 1) := by decide +kernel
theorem dX7_pass_21 : decode cX7_pass 21 = .ok (.invokevirtual 29, 3) := by decide +kernel
theorem dX7_pass_24 : decode cX7_pass 24 = .ok (.istore_n 3, 1) := by decide +kernel
theorem dX7_pass_25 : decode cX7_pass 25 = .ok (.aload_n 0, 1) := by decide +kernel
theorem dX7_pass_26 : decode cX7_pass 26 = .ok (.getfield 12, 3) := by decide +kernel
theorem dX7_pass_29 : decode cX7_pass 29 = .ok (.iload_n 2, 1) := by decide +kernel
theorem dX7_pass_30 : decode cX7_pass 30 = .ok (.invokevirtual 33, 3) := by decide +kernel
theorem dX7_pass_33 : decode cX7_pass 33 = .ok (.istore 4, 2) := by decide +kernel
theorem dX7_pass_35 : decode cX7_pass 35 = .ok (.iload_n 3, 1) := by decide +kernel
theorem dX7_pass_36 : decode cX7_pass 36 = .ok (.invokestatic 37, 3) := by decide +kernel
theorem dX7_pass_39 : decode cX7_pass 39 = .ok (.ifCond .eq 16, 3) := by decide +kernel
theorem dX7_pass_42 : decode cX7_pass 42 = .ok (.iload 4, 2) := by decide +kernel
theorem dX7_pass_44 : decode cX7_pass 44 = .ok (.ifCond .eq 11, 3) := by decide +kernel
theorem dX7_pass_47 : decode cX7_pass 47 = .ok (.aload_n 1, 1) := by decide +kernel
theorem dX7_pass_48 : decode cX7_pass 48 = .ok (.iload_n 2, 1) := by decide +kernel
theorem dX7_pass_49 : decode cX7_pass 49 = .ok (.invokevirtual 41, 3) := by decide +kernel
theorem dX7_pass_52 : decode cX7_pass 52 = .ok (.goto 55, 3) := by decide +kernel
theorem dX7_pass_55 : decode cX7_pass 55 = .ok (.iload_n 3, 1) := by decide +kernel
theorem dX7_pass_56 : decode cX7_pass 56 = .ok (.invokestatic 37, 3) := by decide +kernel
theorem dX7_pass_59 : decode cX7_pass 59 = .ok (.ifCond .eq 11, 3) := by decide +kernel
theorem dX7_pass_62 : decode cX7_pass 62 = .ok (.aload_n 1, 1) := by decide +kernel
theorem dX7_pass_63 : decode cX7_pass 63 = .ok (.iload_n 2, 1) := by decide +kernel
theorem dX7_pass_64 : decode cX7_pass 64 = .ok (.invokevirtual 45, 3) := by decide +kernel
theorem dX7_pass_67 : decode cX7_pass 67 = .ok (.goto 40, 3) := by decide +kernel
theorem dX7_pass_70 : decode cX7_pass 70 = .ok (.iload_n 3, 1) := by decide +kernel
theorem dX7_pass_71 : decode cX7_pass 71 = .ok (.bipush 35, 2) := by decide +kernel
theorem dX7_pass_73 : decode cX7_pass 73 = .ok (.if_icmp .ne 16, 3) := by decide +kernel
theorem dX7_pass_76 : decode cX7_pass 76 = .ok (.iload 4, 2) := by decide +kernel
theorem dX7_pass_78 : decode cX7_pass 78 = .ok (.ifCond .eq 11, 3) := by decide +kernel
theorem dX7_pass_81 : decode cX7_pass 81 = .ok (.aload_n 1, 1) := by decide +kernel
theorem dX7_pass_82 : decode cX7_pass 82 = .ok (.iload_n 2, 1) := by decide +kernel
theorem dX7_pass_83 : decode cX7_pass 83 = .ok (.invokevirtual 48, 3) := by decide +kernel
theorem dX7_pass_86 : decode cX7_pass 86 = .ok (.goto 21, 3) := by decide +kernel
theorem dX7_pass_89 : decode cX7_pass 89 = .ok (.iload 4, 2) := by decide +kernel
theorem dX7_pass_91 : decode cX7_pass 91 = .ok (.ifCond .eq 16, 3) := by decide +kernel
theorem dX7_pass_94 : decode cX7_pass 94 = .ok (.aload_n 1, 1) := by decide +kernel
theorem dX7_pass_95 : decode cX7_pass 95 = .ok (.iload_n 2, 1) := by decide +kernel
theorem dX7_pass_96 : decode cX7_pass 96 = .ok (.aload_n 0, 1) := by decide +kernel
theorem dX7_pass_97 : decode cX7_pass 97 = .ok (.getfield 12, 3) := by decide +kernel
theorem dX7_pass_100 : decode cX7_pass 100 = .ok (.iload_n 2, 1) := by decide +kernel
theorem dX7_pass_101 : decode cX7_pass 101 = .ok (.invokevirtual 51, 3) := by decide +kernel
theorem dX7_pass_104 : decode cX7_pass 104 = .ok (.invokevirtual 54, 3) := by decide +kernel
theorem dX7_pass_107 : decode cX7_pass 107 = .ok (.iinc 2 1, 3) := by decide +kernel
theorem dX7_pass_110 : decode cX7_pass 110 = .ok (.goto (-100), 3) := by decide +kernel
theorem dX7_pass_113 : decode cX7_pass 113 = .ok (.aload_n 1, 1) := by decide +kernel
theorem dX7_pass_114 : decode cX7_pass 114 = .ok (.dup, 1) := by decide +kernel
theorem dX7_pass_115 : decode cX7_pass 115 = .ok (.getfield 58, 3) := by decide +kernel
theorem dX7_pass_118 : decode cX7_pass 118 = .ok (.iconst 1, 1) := by decide +kernel
theorem dX7_pass_119 : decode cX7_pass 119 = .ok (.iadd, 1) := by decide +kernel
theorem dX7_pass_120 : decode cX7_pass 120 = .ok (.putfield 58, 3) := by decide +kernel
theorem dX7_pass_123 : decode cX7_pass 123 = .ok (.return_, 1) := by decide +kernel
theorem dX8_init_0 : decode cX8_init 0 = .ok (.aload_n 0, 1) := by decide +kernel
theorem dX8_init_1 : decode cX8_init 1 = .ok (.invokespecial 3, 3) := by decide +kernel
theorem dX8_init_4 : decode cX8_init 4 = .ok (.aload_n 0, 1) := by decide +kernel
theorem dX8_init_5 : decode cX8_init 5 = .ok (.bipush 64, 2) := by decide +kernel
theorem dX8_init_7 : decode cX8_init 7 = .ok (.newarray .char, 2) := by decide +kernel
theorem dX8_init_9 : decode cX8_init 9 = .ok (.putfield 9, 3) := by decide +kernel
theorem dX8_init_12 : decode cX8_init 12 = .ok (.aload_n 0, 1) := by decide +kernel
theorem dX8_init_13 : decode cX8_init 13 = .ok (.bipush 64, 2) := by decide +kernel
theorem dX8_init_15 : decode cX8_init 15 = .ok (.newarray .int, 2) := by decide +kernel
theorem dX8_init_17 : decode cX8_init 17 = .ok (.putfield 15, 3) := by decide +kernel
theorem dX8_init_20 : decode cX8_init 20 = .ok (.aload_n 0, 1) := by decide +kernel
theorem dX8_init_21 : decode cX8_init 21 = .ok (.getstatic 19, 3) := by decide +kernel
theorem dX8_init_24 : decode cX8_init 24 = .ok (.putfield 25, 3) := by decide +kernel
theorem dX8_init_27 : decode cX8_init 27 = .ok (.aload_n 0, 1) := by decide +kernel
theorem dX8_init_28 : decode cX8_init 28 = .ok (.iconst 0, 1) := by decide +kernel
theorem dX8_init_29 : decode cX8_init 29 = .ok (.putfield 28, 3) := by decide +kernel
theorem dX8_init_32 : decode cX8_init 32 = .ok (.aload_n 0, 1) := by decide +kernel
theorem dX8_init_33 : decode cX8_init 33 = .ok (.iconst 0, 1) := by decide +kernel
theorem dX8_init_34 : decode cX8_init 34 = .ok (.putfield 32, 3) := by decide +kernel
theorem dX8_init_37 : decode cX8_init 37 = .ok (.aload_n 0, 1) := by decide +kernel
theorem dX8_init_38 : decode cX8_init 38 = .ok (.iconst 0, 1) := by decide +kernel
theorem dX8_init_39 : decode cX8_init 39 = .ok (.putfield 35, 3) := by decide +kernel
theorem dX8_init_42 : decode cX8_init 42 = .ok (.aload_n 0, 1) := by decide +kernel
theorem dX8_init_43 : decode cX8_init 43 = .ok (.iconst 0, 1) := by decide +kernel
theorem dX8_init_44 : decode cX8_init 44 = .ok (.putfield 38, 3) := by decide +kernel
theorem dX8_init_47 : decode cX8_init 47 = .ok (.aload_n 0, 1) := by decide +kernel
theorem dX8_init_48 : decode cX8_init 48 = .ok (.iconst 0, 1) := by decide +kernel
theorem dX8_init_49 : decode cX8_init 49 = .ok (.putfield 41, 3) := by decide +kernel
theorem dX8_init_52 : decode cX8_init 52 = .ok (.aload_n 0, 1) := by decide +kernel
theorem dX8_init_53 : decode cX8_init 53 = .ok (.iconst 0, 1) := by decide +kernel
theorem dX8_init_54 : decode cX8_init 54 = .ok (.putfield 44, 3) := by decide +kernel
theorem dX8_init_57 : decode cX8_init 57 = .ok (.return_, 1) := by decide +kernel
theorem dX8_copyFrom_0 : decode cX8_copyFrom 0 = .ok (.aload_n 1, 1) := by decide +kernel
theorem dX8_copyFrom_1 : decode cX8_copyFrom 1 = .ok (.getfield 9, 3) := by decide +kernel
theorem dX8_copyFrom_4 : decode cX8_copyFrom 4 = .ok (.iconst 0, 1) := by decide +kernel
theorem dX8_copyFrom_5 : decode cX8_copyFrom 5 = .ok (.aload_n 0, 1) := by decide +kernel
theorem dX8_copyFrom_6 : decode cX8_copyFrom 6 = .ok (.getfield 9, 3) := by decide +kernel
theorem dX8_copyFrom_9 : decode cX8_copyFrom 9 = .ok (.iconst 0, 1) := by decide +kernel
theorem dX8_copyFrom_10 : decode cX8_copyFrom 10 = .ok (.bipush 64, 2) := by decide +kernel
theorem dX8_copyFrom_12 : decode cX8_copyFrom 12 = .ok (.invokestatic 47, 3) := by decide +kernel
theorem dX8_copyFrom_15 : decode cX8_copyFrom 15 = .ok (.aload_n 1, 1) := by decide +kernel
theorem dX8_copyFrom_16 : decode cX8_copyFrom 16 = .ok (.getfield 15, 3) := by decide +kernel
theorem dX8_copyFrom_19 : decode cX8_copyFrom 19 = .ok (.iconst 0, 1) := by decide +kernel
theorem dX8_copyFrom_20 : decode cX8_copyFrom 20 = .ok (.aload_n 0, 1) := by decide +kernel
theorem dX8_copyFrom_21 : decode cX8_copyFrom 21 = .ok (.getfield 15, 3) := by decide +kernel
theorem dX8_copyFrom_24 : decode cX8_copyFrom 24 = .ok (.iconst 0, 1) := by decide +kernel
theorem dX8_copyFrom_25 : decode cX8_copyFrom 25 = .ok (.bipush 64, 2) := by decide +kernel
theorem dX8_copyFrom_27 : decode cX8_copyFrom 27 = .ok (.invokestatic 47, 3) := by decide +kernel
theorem dX8_copyFrom_30 : decode cX8_copyFrom 30 = .ok (.aload_n 0, 1) := by decide +kernel
theorem dX8_copyFrom_31 : decode cX8_copyFrom 31 = .ok (.aload_n 1, 1) := by decide +kernel
theorem dX8_copyFrom_32 : decode cX8_copyFrom 32 = .ok (.getfield 25, 3) := by decide +kernel
theorem dX8_copyFrom_35 : decode cX8_copyFrom 35 = .ok (.putfield 25, 3) := by decide +kernel
theorem dX8_copyFrom_38 : decode cX8_copyFrom 38 = .ok (.aload_n 0, 1) := by decide +kernel
theorem dX8_copyFrom_39 : decode cX8_copyFrom 39 = .ok (.aload_n 1, 1) := by decide +kernel
theorem dX8_copyFrom_40 : decode cX8_copyFrom 40 = .ok (.getfield 28, 3) := by decide +kernel
theorem dX8_copyFrom_43 : decode cX8_copyFrom 43 = .ok (.putfield 28, 3) := by decide +kernel
theorem dX8_copyFrom_46 : decode cX8_copyFrom 46 = .ok (.aload_n 0, 1) := by decide +kernel
theorem dX8_copyFrom_47 : decode cX8_copyFrom 47 = .ok (.aload_n 1, 1) := by decide +kernel
theorem dX8_copyFrom_48 : decode cX8_copyFrom 48 = .ok (.getfield 32, 3) := by decide +kernel
theorem dX8_copyFrom_51 : decode cX8_copyFrom 51 = .ok (.putfield 32, 3) := by decide +kernel
theorem dX8_copyFrom_54 : decode cX8_copyFrom 54 = .ok (.aload_n 0, 1) := by decide +kernel
theorem dX8_copyFrom_55 : decode cX8_copyFrom 55 = .ok (.aload_n 1, 1) := by decide +kernel
theorem dX8_copyFrom_56 : decode cX8_copyFrom 56 = .ok (.getfield 35, 3) := by decide +kernel
theorem dX8_copyFrom_59 : decode cX8_copyFrom 59 = .ok (.putfield 35, 3) := by decide +kernel
theorem dX8_copyFrom_62 : decode cX8_copyFrom 62 = .ok (.aload_n 0, 1) := by decide +kernel
theorem dX8_copyFrom_63 : decode cX8_copyFrom 63 = .ok (.aload_n 1, 1) := by decide +kernel
theorem dX8_copyFrom_64 : decode cX8_copyFrom 64 = .ok (.getfield 38, 3) := by decide +kernel
theorem dX8_copyFrom_67 : decode cX8_copyFrom 67 = .ok (.putfield 38, 3) := by decide +kernel
theorem dX8_copyFrom_70 : decode cX8_copyFrom 70 = .ok (.aload_n 0, 1) := by decide +kernel
theorem dX8_copyFrom_71 : decode cX8_copyFrom 71 = .ok (.aload_n 1, 1) := by decide +kernel
theorem dX8_copyFrom_72 : decode cX8_copyFrom 72 = .ok (.getfield 41, 3) := by decide +kernel
theorem dX8_copyFrom_75 : decode cX8_copyFrom 75 = .ok (.putfield 41, 3) := by decide +kernel
theorem dX8_copyFrom_78 : decode cX8_copyFrom 78 = .ok (.aload_n 0, 1) := by decide +kernel
theorem dX8_copyFrom_79 : decode cX8_copyFrom 79 = .ok (.aload_n 1, 1) := by decide +kernel
theorem dX8_copyFrom_80 : decode cX8_copyFrom 80 = .ok (.getfield 44, 3) := by decide +kernel
theorem dX8_copyFrom_83 : decode cX8_copyFrom 83 = .ok (.putfield 44, 3) := by decide +kernel
theorem dX8_copyFrom_86 : decode cX8_copyFrom 86 = .ok (.return_, 1) := by decide +kernel
theorem dX8_kindOf_0 : decode cX8_kindOf 0 = .ok (.iload_n 1, 1) := by decide +kernel
theorem dX8_kindOf_1 : decode cX8_kindOf 1 = .ok (.ifCond .lt 18, 3) := by decide +kernel
theorem dX8_kindOf_4 : decode cX8_kindOf 4 = .ok (.iload_n 1, 1) := by decide +kernel
theorem dX8_kindOf_5 : decode cX8_kindOf 5 = .ok (.bipush 64, 2) := by decide +kernel
theorem dX8_kindOf_7 : decode cX8_kindOf 7 = .ok (.if_icmp .ge 12, 3) := by decide +kernel
theorem dX8_kindOf_10 : decode cX8_kindOf 10 = .ok (.aload_n 0, 1) := by decide +kernel
theorem dX8_kindOf_11 : decode cX8_kindOf 11 = .ok (.getfield 9, 3) := by decide +kernel
theorem dX8_kindOf_14 : decode cX8_kindOf 14 = .ok (.iload_n 1, 1) := by decide +kernel
theorem dX8_kindOf_15 : decode cX8_kindOf 15 = .ok (.caload, 1) := by decide +kernel
theorem dX8_kindOf_16 : decode cX8_kindOf 16 = .ok (.goto 4, 3) := by decide +kernel
theorem dX8_kindOf_19 : decode cX8_kindOf 19 = .ok (.iconst 0, 1) := by decide +kernel
theorem dX8_kindOf_20 : decode cX8_kindOf 20 = .ok (.ireturn, 1) := by decide +kernel
theorem dX8_ageOf_0 : decode cX8_ageOf 0 = .ok (.iload_n 1, 1) := by decide +kernel
theorem dX8_ageOf_1 : decode cX8_ageOf 1 = .ok (.ifCond .lt 18, 3) := by decide +kernel
theorem dX8_ageOf_4 : decode cX8_ageOf 4 = .ok (.iload_n 1, 1) := by decide +kernel
theorem dX8_ageOf_5 : decode cX8_ageOf 5 = .ok (.bipush 64, 2) := by decide +kernel
theorem dX8_ageOf_7 : decode cX8_ageOf 7 = .ok (.if_icmp .ge 12, 3) := by decide +kernel
theorem dX8_ageOf_10 : decode cX8_ageOf 10 = .ok (.aload_n 0, 1) := by decide +kernel
theorem dX8_ageOf_11 : decode cX8_ageOf 11 = .ok (.getfield 15, 3) := by decide +kernel
theorem dX8_ageOf_14 : decode cX8_ageOf 14 = .ok (.iload_n 1, 1) := by decide +kernel
theorem dX8_ageOf_15 : decode cX8_ageOf 15 = .ok (.iaload, 1) := by decide +kernel
theorem dX8_ageOf_16 : decode cX8_ageOf 16 = .ok (.goto 4, 3) := by decide +kernel
theorem dX8_ageOf_19 : decode cX8_ageOf 19 = .ok (.iconst 0, 1) := by decide +kernel
theorem dX8_ageOf_20 : decode cX8_ageOf 20 = .ok (.ireturn, 1) := by decide +kernel
theorem dX8_holds_0 : decode cX8_holds 0 = .ok (.aload_n 0, 1) := by decide +kernel
theorem dX8_holds_1 : decode cX8_holds 1 = .ok (.iload_n 1, 1) := by decide +kernel
theorem dX8_holds_2 : decode cX8_holds 2 = .ok (.invokevirtual 53, 3) := by decide +kernel
theorem dX8_holds_5 : decode cX8_holds 5 = .ok (.istore_n 3, 1) := by decide +kernel
theorem dX8_holds_6 : decode cX8_holds 6 = .ok (.iload_n 2, 1) := by decide +kernel
theorem dX8_holds_7 : decode cX8_holds 7 = .ok (.bipush 42, 2) := by decide +kernel
theorem dX8_holds_9 : decode cX8_holds 9 = .ok (.if_icmp .ne 10, 3) := by decide +kernel
theorem dX8_holds_12 : decode cX8_holds 12 = .ok (.iload_n 3, 1) := by decide +kernel
theorem dX8_holds_13 : decode cX8_holds 13 = .ok (.invokestatic 57, 3) := by decide +kernel
theorem dX8_holds_16 : decode cX8_holds 16 = .ok (.goto 13, 3) := by decide +kernel
theorem dX8_holds_19 : decode cX8_holds 19 = .ok (.iload_n 3, 1) := by decide +kernel
theorem dX8_holds_20 : decode cX8_holds 20 = .ok (.iload_n 2, 1) := by decide +kernel
theorem dX8_holds_21 : decode cX8_holds 21 = .ok (.if_icmp .ne 7, 3) := by decide +kernel
theorem dX8_holds_24 : decode cX8_holds 24 = .ok (.iconst 1, 1) := by decide +kernel
theorem dX8_holds_25 : decode cX8_holds 25 = .ok (.goto 4, 3) := by decide +kernel
theorem dX8_holds_28 : decode cX8_holds 28 = .ok (.iconst 0, 1) := by decide +kernel
theorem dX8_holds_29 : decode cX8_holds 29 = .ok (.ireturn, 1) := by decide +kernel
theorem dX8_signOf_0 : decode cX8_signOf 0 = .ok (.aload_n 0, 1) := by decide +kernel
theorem dX8_signOf_1 : decode cX8_signOf 1 = .ok (.iload_n 1, 1) := by decide +kernel
theorem dX8_signOf_2 : decode cX8_signOf 2 = .ok (.invokevirtual 53, 3) := by decide +kernel
theorem dX8_signOf_5 : decode cX8_signOf 5 = .ok (.istore_n 2, 1) := by decide +kernel
theorem dX8_signOf_6 : decode cX8_signOf 6 = .ok (.iload_n 2, 1) := by decide +kernel
theorem dX8_signOf_7 : decode cX8_signOf 7 = .ok (.ifCond .ne 6, 3) := by decide +kernel
theorem dX8_signOf_10 : decode cX8_signOf 10 = .ok (.bipush 46, 2) := by decide +kernel
theorem dX8_signOf_12 : decode cX8_signOf 12 = .ok (.ireturn, 1) := by decide +kernel
theorem dX8_signOf_13 : decode cX8_signOf 13 = .ok (.iload_n 2, 1) := by decide +kernel
theorem dX8_signOf_14 : decode cX8_signOf 14 = .ok (.invokestatic 57, 3) := by decide +kernel
theorem dX8_signOf_17 : decode cX8_signOf 17 = .ok (.ifCond .eq 23, 3) := by decide +kernel
theorem dX8_signOf_20 : decode cX8_signOf 20 = .ok (.aload_n 0, 1) := by decide +kernel
theorem dX8_signOf_21 : decode cX8_signOf 21 = .ok (.iload_n 1, 1) := by decide +kernel
theorem dX8_signOf_22 : decode cX8_signOf 22 = .ok (.invokevirtual 61, 3) := by decide +kernel
theorem dX8_signOf_25 : decode cX8_signOf 25 = .ok (.iconst 5, 1) := by decide +kernel
theorem dX8_signOf_26 : decode cX8_signOf 26 = .ok (.if_icmp .lt 14, 3) := by decide +kernel
theorem dX8_signOf_29 : decode cX8_signOf 29 = .ok (.iload_n 2, 1) := by decide +kernel
theorem dX8_signOf_30 : decode cX8_signOf 30 = .ok (.bipush 97, 2) := by decide +kernel
theorem dX8_signOf_32 : decode cX8_signOf 32 = .ok (.isub, 1) := by decide +kernel
theorem dX8_signOf_33 : decode cX8_signOf 33 = .ok (.bipush 65, 2) := by decide +kernel
theorem dX8_signOf_35 : decode cX8_signOf 35 = .ok (.iadd, 1) := by decide +kernel
theorem dX8_signOf_36 : decode cX8_signOf 36 = .ok (.i2c, 1) := by decide +kernel
theorem dX8_signOf_37 : decode cX8_signOf 37 = .ok (.goto 4, 3) := by decide +kernel
theorem dX8_signOf_40 : decode cX8_signOf 40 = .ok (.iload_n 2, 1) := by decide +kernel
theorem dX8_signOf_41 : decode cX8_signOf 41 = .ok (.ireturn, 1) := by decide +kernel
theorem dX8_count_0 : decode cX8_count 0 = .ok (.iconst 0, 1) := by decide +kernel
theorem dX8_count_1 : decode cX8_count 1 = .ok (.istore_n 2, 1) := by decide +kernel
theorem dX8_count_2 : decode cX8_count 2 = .ok (.iconst 0, 1) := by decide +kernel
theorem dX8_count_3 : decode cX8_count 3 = .ok (.istore_n 3, 1) := by decide +kernel
theorem dX8_count_4 : decode cX8_count 4 = .ok (.iload_n 3, 1) := by decide +kernel
theorem dX8_count_5 : decode cX8_count 5 = .ok (.bipush 64, 2) := by decide +kernel
theorem dX8_count_7 : decode cX8_count 7 = .ok (.if_icmp .ge 21, 3) := by decide +kernel
theorem dX8_count_10 : decode cX8_count 10 = .ok (.aload_n 0, 1) := by decide +kernel
theorem dX8_count_11 : decode cX8_count 11 = .ok (.iload_n 3, 1) := by decide +kernel
theorem dX8_count_12 : decode cX8_count 12 = .ok (.iload_n 1, 1) := by decide +kernel
theorem dX8_count_13 : decode cX8_count 13 = .ok (.invokevirtual 65, 3) := by decide +kernel
theorem dX8_count_16 : decode cX8_count 16 = .ok (.ifCond .eq 6, 3) := by decide +kernel
theorem dX8_count_19 : decode cX8_count 19 = .ok (.iinc 2 1, 3) := by decide +kernel
theorem dX8_count_22 : decode cX8_count 22 = .ok (.iinc 3 1, 3) := by decide +kernel
theorem dX8_count_25 : decode cX8_count 25 = .ok (.goto (-21), 3) := by decide +kernel
theorem dX8_count_28 : decode cX8_count 28 = .ok (.iload_n 2, 1) := by decide +kernel
theorem dX8_count_29 : decode cX8_count 29 = .ok (.ireturn, 1) := by decide +kernel
theorem dX8_countInRow_0 : decode cX8_countInRow 0 = .ok (.iconst 0, 1) := by decide +kernel
theorem dX8_countInRow_1 : decode cX8_countInRow 1 = .ok (.istore_n 3, 1) := by decide +kernel
theorem dX8_countInRow_2 : decode cX8_countInRow 2 = .ok (.iconst 0, 1) := by decide +kernel
theorem dX8_countInRow_3 : decode cX8_countInRow 3 = .ok (.istore 4, 2) := by decide +kernel
theorem dX8_countInRow_5 : decode cX8_countInRow 5 = .ok (.iload 4, 2) := by decide +kernel
theorem dX8_countInRow_7 : decode cX8_countInRow 7 = .ok (.bipush 8, 2) := by decide +kernel
theorem dX8_countInRow_9 : decode cX8_countInRow 9 = .ok (.if_icmp .ge 26, 3) := by decide +kernel
theorem dX8_countInRow_12 : decode cX8_countInRow 12 = .ok (.aload_n 0, 1) := by decide +kernel
theorem dX8_countInRow_13 : decode cX8_countInRow 13 = .ok (.iload_n 1, 1) := by decide +kernel
theorem dX8_countInRow_14 : decode cX8_countInRow 14 = .ok (.iload 4, 2) := by decide +kernel
theorem dX8_countInRow_16 : decode cX8_countInRow 16 = .ok (.invokestatic 69, 3) := by decide +kernel
theorem dX8_countInRow_19 : decode cX8_countInRow 19 = .ok (.iload_n 2, 1) := by decide +kernel
theorem dX8_countInRow_20 : decode cX8_countInRow 20 = .ok (.invokevirtual 65, 3) := by decide +kernel
theorem dX8_countInRow_23 : decode cX8_countInRow 23 = .ok (.ifCond .eq 6, 3) := by decide +kernel
theorem dX8_countInRow_26 : decode cX8_countInRow 26 = .ok (.iinc 3 1, 3) := by decide +kernel
theorem dX8_countInRow_29 : decode cX8_countInRow 29 = .ok (.iinc 4 1, 3) := by decide +kernel
theorem dX8_countInRow_32 : decode cX8_countInRow 32 = .ok (.goto (-27), 3) := by decide +kernel
theorem dX8_countInRow_35 : decode cX8_countInRow 35 = .ok (.iload_n 3, 1) := by decide +kernel
theorem dX8_countInRow_36 : decode cX8_countInRow 36 = .ok (.ireturn, 1) := by decide +kernel
theorem dX8_countAround_0 : decode cX8_countAround 0 = .ok (.iload_n 1, 1) := by decide +kernel
theorem dX8_countAround_1 : decode cX8_countAround 1 = .ok (.bipush 8, 2) := by decide +kernel
theorem dX8_countAround_3 : decode cX8_countAround 3 = .ok (.idiv, 1) := by decide +kernel
theorem dX8_countAround_4 : decode cX8_countAround 4 = .ok (.istore_n 3, 1) := by decide +kernel
theorem dX8_countAround_5 : decode cX8_countAround 5 = .ok (.iload_n 1, 1) := by decide +kernel
theorem dX8_countAround_6 : decode cX8_countAround 6 = .ok (.bipush 8, 2) := by decide +kernel
theorem dX8_countAround_8 : decode cX8_countAround 8 = .ok (.irem, 1) := by decide +kernel
theorem dX8_countAround_9 : decode cX8_countAround 9 = .ok (.istore 4, 2) := by decide +kernel
theorem dX8_countAround_11 : decode cX8_countAround 11 = .ok (.iconst 0, 1) := by decide +kernel
theorem dX8_countAround_12 : decode cX8_countAround 12 = .ok (.istore 5, 2) := by decide +kernel
theorem dX8_countAround_14 : decode cX8_countAround 14 = .ok (.iconst (-1), 1) := by decide +kernel
theorem dX8_countAround_15 : decode cX8_countAround 15 = .ok (.istore 6, 2) := by decide +kernel
theorem dX8_countAround_17 : decode cX8_countAround 17 = .ok (.iload 6, 2) := by decide +kernel
theorem dX8_countAround_19 : decode cX8_countAround 19 = .ok (.iconst 1, 1) := by decide +kernel
theorem dX8_countAround_20 : decode cX8_countAround 20 = .ok (.if_icmp .gt 109, 3) := by decide +kernel
theorem dX8_countAround_23 : decode cX8_countAround 23 = .ok (.iconst (-1), 1) := by decide +kernel
theorem dX8_countAround_24 : decode cX8_countAround 24 = .ok (.istore 7, 2) := by decide +kernel
theorem dX8_countAround_26 : decode cX8_countAround 26 = .ok (.iload 7, 2) := by decide +kernel
theorem dX8_countAround_28 : decode cX8_countAround 28 = .ok (.iconst 1, 1) := by decide +kernel
theorem dX8_countAround_29 : decode cX8_countAround 29 = .ok (.if_icmp .gt 94, 3) := by decide +kernel
theorem dX8_countAround_32 : decode cX8_countAround 32 = .ok (.iload 6, 2) := by decide +kernel
theorem dX8_countAround_34 : decode cX8_countAround 34 = .ok (.ifCond .ne 12, 3) := by decide +kernel
theorem dX8_countAround_37 : decode cX8_countAround 37 = .ok (.iload 7, 2) := by decide +kernel
theorem dX8_countAround_39 : decode cX8_countAround 39 = .ok (.ifCond .ne 7, 3) := by decide +kernel
theorem dX8_countAround_42 : decode cX8_countAround 42 = .ok (.iconst 1, 1) := by decide +kernel
theorem dX8_countAround_43 : decode cX8_countAround 43 = .ok (.goto 4, 3) := by decide +kernel
theorem dX8_countAround_46 : decode cX8_countAround 46 = .ok (.iconst 0, 1) := by decide +kernel
theorem dX8_countAround_47 : decode cX8_countAround 47 = .ok (.istore 8, 2) := by decide +kernel
theorem dX8_countAround_49 : decode cX8_countAround 49 = .ok (.iload 8, 2) := by decide +kernel
theorem dX8_countAround_51 : decode cX8_countAround 51 = .ok (.ifCond .ne 66, 3) := by decide +kernel
theorem dX8_countAround_54 : decode cX8_countAround 54 = .ok (.iload_n 3, 1) := by decide +kernel
theorem dX8_countAround_55 : decode cX8_countAround 55 = .ok (.iload 6, 2) := by decide +kernel
theorem dX8_countAround_57 : decode cX8_countAround 57 = .ok (.iadd, 1) := by decide +kernel
theorem dX8_countAround_58 : decode cX8_countAround 58 = .ok (.iload 4, 2) := by decide +kernel
theorem dX8_countAround_60 : decode cX8_countAround 60 = .ok (.iload 7, 2) := by decide +kernel
theorem dX8_countAround_62 : decode cX8_countAround 62 = .ok (.iadd, 1) := by decide +kernel
theorem dX8_countAround_63 : decode cX8_countAround 63 = .ok (.invokestatic 73, 3) := by decide +kernel
theorem dX8_countAround_66 : decode cX8_countAround 66 = .ok (.ifCond .eq 51, 3) := by decide +kernel
theorem dX8_countAround_69 : decode cX8_countAround 69 = .ok (.aload_n 0, 1) := by decide +kernel
theorem dX8_countAround_70 : decode cX8_countAround 70 = .ok (.iload_n 3, 1) := by decide +kernel
theorem dX8_countAround_71 : decode cX8_countAround 71 = .ok (.iload 6, 2) := by decide +kernel
theorem dX8_countAround_73 : decode cX8_countAround 73 = .ok (.iadd, 1) := by decide +kernel
theorem dX8_countAround_74 : decode cX8_countAround 74 = .ok (.iload 4, 2) := by decide +kernel
theorem dX8_countAround_76 : decode cX8_countAround 76 = .ok (.iload 7, 2) := by decide +kernel
theorem dX8_countAround_78 : decode cX8_countAround 78 = .ok (.iadd, 1) := by decide +kernel
theorem dX8_countAround_79 : decode cX8_countAround 79 = .ok (.invokestatic 69, 3) := by decide +kernel
theorem dX8_countAround_82 : decode cX8_countAround 82 = .ok (.invokevirtual 53, 3) := by decide +kernel
theorem dX8_countAround_85 : decode cX8_countAround 85 = .ok (.istore 9, 2) := by decide +kernel
theorem dX8_countAround_87 : decode cX8_countAround 87 = .ok (.iload 5, 2) := by decide +kernel
theorem dX8_countAround_89 : decode cX8_countAround 89 = .ok (.iload 9, 2) := by decide +kernel
theorem dX8_countAround_91 : decode cX8_countAround 91 = .ok (.iload_n 2, 1) := by decide +kernel
theorem dX8_countAround_92 : decode cX8_countAround 92 = .ok (.if_icmp .eq 17, 3) := by decide +kernel
theorem dX8_countAround_95 : decode cX8_countAround 95 = .ok (.iload_n 2, 1) := by decide +kernel
theorem dX8_countAround_96 : decode cX8_countAround 96 = .ok (.bipush 42, 2) := by decide +kernel
theorem dX8_countAround_98 : decode cX8_countAround 98 = .ok (.if_icmp .ne 15, 3) := by decide +kernel
theorem dX8_countAround_101 : decode cX8_countAround 101 = .ok (.iload 9, 2) := by decide +kernel
theorem dX8_countAround_103 : decode cX8_countAround 103 = .ok (.invokestatic 57, 3) := by decide +kernel
theorem dX8_countAround_106 : decode cX8_countAround 106 = .ok (.ifCond .eq 7, 3) := by decide +kernel
theorem dX8_countAround_109 : decode cX8_countAround 109 = .ok (.iconst 1, 1) := by decide +kernel
theorem dX8_countAround_110 : decode cX8_countAround 110 = .ok (.goto 4, 3) := by decide +kernel
theorem dX8_countAround_113 : decode cX8_countAround 113 = .ok (.iconst 0, 1) := by decide +kernel
theorem dX8_countAround_114 : decode cX8_countAround 114 = .ok (.iadd, 1) := by decide +kernel
theorem dX8_countAround_115 : decode cX8_countAround 115 = .ok (.istore 5, 2) := by decide +kernel
theorem dX8_countAround_117 : decode cX8_countAround 117 = .ok (.iinc 7 1, 3) := by decide +kernel
theorem dX8_countAround_120 : decode cX8_countAround 120 = .ok (.goto (-94), 3) := by decide +kernel
theorem dX8_countAround_123 : decode cX8_countAround 123 = .ok (.iinc 6 1, 3) := by decide +kernel
theorem dX8_countAround_126 : decode cX8_countAround 126 = .ok (.goto (-109), 3) := by decide +kernel
theorem dX8_countAround_129 : decode cX8_countAround 129 = .ok (.iload 5, 2) := by decide +kernel
theorem dX8_countAround_131 : decode cX8_countAround 131 = .ok (.ireturn, 1) := by decide +kernel
theorem dX8_mostColourAround_0 : decode cX8_mostColourAround 0 = .ok (.iconst 0, 1) := by decide +kernel
theorem dX8_mostColourAround_1 : decode cX8_mostColourAround 1 = .ok (.istore_n 2, 1) := by decide +kernel
theorem dX8_mostColourAround_2 : decode cX8_mostColourAround 2 = .ok (.iconst 0, 1) := by decide +kernel
theorem dX8_mostColourAround_3 : decode cX8_mostColourAround 3 = .ok (.istore_n 3, 1) := by decide +kernel
theorem dX8_mostColourAround_4 : decode cX8_mostColourAround 4 = .ok (.iconst 0, 1) := by decide +kernel
theorem dX8_mostColourAround_5 : decode cX8_mostColourAround 5 = .ok (.istore 4, 2) := by decide +kernel
theorem dX8_mostColourAround_7 : decode cX8_mostColourAround 7 = .ok (.iload 4, 2) := by decide +kernel
theorem dX8_mostColourAround_9 : decode cX8_mostColourAround 9 = .ok (.iconst 4, 1) := by decide +kernel
theorem dX8_mostColourAround_10 : decode cX8_mostColourAround 10 = .ok (.if_icmp .ge 36, 3) := by decide +kernel
theorem dX8_mostColourAround_13 : decode cX8_mostColourAround 13 = .ok (.aload_n 0, 1) := by decide +kernel
theorem dX8_mostColourAround_14 : decode cX8_mostColourAround 14 = .ok (.iload_n 1, 1) := by decide +kernel
theorem dX8_mostColourAround_15 : decode cX8_mostColourAround 15 = .ok (.iload 4, 2) := by decide +kernel
theorem dX8_mostColourAround_17 : decode cX8_mostColourAround 17 = .ok (.invokestatic 77, 3) := by decide +kernel
theorem dX8_mostColourAround_20 : decode cX8_mostColourAround 20 = .ok (.invokevirtual 80, 3) := by decide +kernel
theorem dX8_mostColourAround_23 : decode cX8_mostColourAround 23 = .ok (.istore 5, 2) := by decide +kernel
theorem dX8_mostColourAround_25 : decode cX8_mostColourAround 25 = .ok (.iload 5, 2) := by decide +kernel
theorem dX8_mostColourAround_27 : decode cX8_mostColourAround 27 = .ok (.iload_n 3, 1) := by decide +kernel
theorem dX8_mostColourAround_28 : decode cX8_mostColourAround 28 = .ok (.if_icmp .le 12, 3) := by decide +kernel
theorem dX8_mostColourAround_31 : decode cX8_mostColourAround 31 = .ok (.iload 5, 2) := by decide +kernel
theorem dX8_mostColourAround_33 : decode cX8_mostColourAround 33 = .ok (.istore_n 3, 1) := by decide +kernel
theorem dX8_mostColourAround_34 : decode cX8_mostColourAround 34 = .ok (.iload 4, 2) := by decide +kernel
theorem dX8_mostColourAround_36 : decode cX8_mostColourAround 36 = .ok (.invokestatic 77, 3) := by decide +kernel
theorem dX8_mostColourAround_39 : decode cX8_mostColourAround 39 = .ok (.istore_n 2, 1) := by decide +kernel
theorem dX8_mostColourAround_40 : decode cX8_mostColourAround 40 = .ok (.iinc 4 1, 3) := by decide +kernel
theorem dX8_mostColourAround_43 : decode cX8_mostColourAround 43 = .ok (.goto (-36), 3) := by decide +kernel
theorem dX8_mostColourAround_46 : decode cX8_mostColourAround 46 = .ok (.iload_n 2, 1) := by decide +kernel
theorem dX8_mostColourAround_47 : decode cX8_mostColourAround 47 = .ok (.ireturn, 1) := by decide +kernel
theorem dX8_sumOfAges_0 : decode cX8_sumOfAges 0 = .ok (.iconst 0, 1) := by decide +kernel
theorem dX8_sumOfAges_1 : decode cX8_sumOfAges 1 = .ok (.istore_n 1, 1) := by decide +kernel
theorem dX8_sumOfAges_2 : decode cX8_sumOfAges 2 = .ok (.iconst 0, 1) := by decide +kernel
theorem dX8_sumOfAges_3 : decode cX8_sumOfAges 3 = .ok (.istore_n 2, 1) := by decide +kernel
theorem dX8_sumOfAges_4 : decode cX8_sumOfAges 4 = .ok (.iload_n 2, 1) := by decide +kernel
theorem dX8_sumOfAges_5 : decode cX8_sumOfAges 5 = .ok (.bipush 64, 2) := by decide +kernel
theorem dX8_sumOfAges_7 : decode cX8_sumOfAges 7 = .ok (.if_icmp .ge 18, 3) := by decide +kernel
theorem dX8_sumOfAges_10 : decode cX8_sumOfAges 10 = .ok (.iload_n 1, 1) := by decide +kernel
theorem dX8_sumOfAges_11 : decode cX8_sumOfAges 11 = .ok (.aload_n 0, 1) := by decide +kernel
theorem dX8_sumOfAges_12 : decode cX8_sumOfAges 12 = .ok (.getfield 15, 3) := by decide +kernel
theorem dX8_sumOfAges_15 : decode cX8_sumOfAges 15 = .ok (.iload_n 2, 1) := by decide +kernel
theorem dX8_sumOfAges_16 : decode cX8_sumOfAges 16 = .ok (.iaload, 1) := by decide +kernel
theorem dX8_sumOfAges_17 : decode cX8_sumOfAges 17 = .ok (.iadd, 1) := by decide +kernel
theorem dX8_sumOfAges_18 : decode cX8_sumOfAges 18 = .ok (.istore_n 1, 1) := by decide +kernel
theorem dX8_sumOfAges_19 : decode cX8_sumOfAges 19 = .ok (.iinc 2 1, 3) := by decide +kernel
theorem dX8_sumOfAges_22 : decode cX8_sumOfAges 22 = .ok (.goto (-18), 3) := by decide +kernel
theorem dX8_sumOfAges_25 : decode cX8_sumOfAges 25 = .ok (.iload_n 1, 1) := by decide +kernel
theorem dX8_sumOfAges_26 : decode cX8_sumOfAges 26 = .ok (.ireturn, 1) := by decide +kernel
theorem dX8_hasBalancedTotals_0 : decode cX8_hasBalancedTotals 0 = .ok (.aload_n 0, 1) := by decide +kernel
theorem dX8_hasBalancedTotals_1 : decode cX8_hasBalancedTotals 1 = .ok (.bipush 35, 2) := by decide +kernel
theorem dX8_hasBalancedTotals_3 : decode cX8_hasBalancedTotals 3 = .ok (.invokevirtual 84, 3) := by decide +kernel
theorem dX8_hasBalancedTotals_6 : decode cX8_hasBalancedTotals 6 = .ok (.istore_n 1, 1) := by decide +kernel
theorem dX8_hasBalancedTotals_7 : decode cX8_hasBalancedTotals 7 = .ok (.iconst 0, 1) := by decide +kernel
theorem dX8_hasBalancedTotals_8 : decode cX8_hasBalancedTotals 8 = .ok (.istore_n 2, 1) := by decide +kernel
theorem dX8_hasBalancedTotals_9 : decode cX8_hasBalancedTotals 9 = .ok (.iload_n 2, 1) := by decide +kernel
theorem dX8_hasBalancedTotals_10 : decode cX8_hasBalancedTotals 10 = .ok (.iconst 4, 1) := by decide +kernel
theorem dX8_hasBalancedTotals_11 : decode cX8_hasBalancedTotals 11 = .ok (.if_icmp .ge 20, 3) := by decide +kernel
theorem dX8_hasBalancedTotals_14 : decode cX8_hasBalancedTotals 14 = .ok (.iload_n 1, 1) := by decide +kernel
theorem dX8_hasBalancedTotals_15 : decode cX8_hasBalancedTotals 15 = .ok (.aload_n 0, 1) := by decide +kernel
theorem dX8_hasBalancedTotals_16 : decode cX8_hasBalancedTotals 16 = .ok (.iload_n 2, 1) := by decide +kernel
theorem dX8_hasBalancedTotals_17 : decode cX8_hasBalancedTotals 17 = .ok (.invokestatic 77, 3) := by decide +kernel
theorem dX8_hasBalancedTotals_20 : decode cX8_hasBalancedTotals 20 = .ok (.invokevirtual 84, 3) := by decide +kernel
theorem dX8_hasBalancedTotals_23 : decode cX8_hasBalancedTotals 23 = .ok (.iadd, 1) := by decide +kernel
theorem dX8_hasBalancedTotals_24 : decode cX8_hasBalancedTotals 24 = .ok (.istore_n 1, 1) := by decide +kernel
theorem dX8_hasBalancedTotals_25 : decode cX8_hasBalancedTotals 25 = .ok (.iinc 2 1, 3) := by decide +kernel
theorem dX8_hasBalancedTotals_28 : decode cX8_hasBalancedTotals 28 = .ok (.goto (-19), 3) := by decide +kernel
theorem dX8_hasBalancedTotals_31 : decode cX8_hasBalancedTotals 31 = .ok (.aload_n 0, 1) := by decide +kernel
theorem dX8_hasBalancedTotals_32 : decode cX8_hasBalancedTotals 32 = .ok (.getfield 32, 3) := by decide +kernel
theorem dX8_hasBalancedTotals_35 : decode cX8_hasBalancedTotals 35 = .ok (.aload_n 0, 1) := by decide +kernel
theorem dX8_hasBalancedTotals_36 : decode cX8_hasBalancedTotals 36 = .ok (.getfield 38, 3) := by decide +kernel
theorem dX8_hasBalancedTotals_39 : decode cX8_hasBalancedTotals 39 = .ok (.iadd, 1) := by decide +kernel
theorem dX8_hasBalancedTotals_40 : decode cX8_hasBalancedTotals 40 = .ok (.aload_n 0, 1) := by decide +kernel
theorem dX8_hasBalancedTotals_41 : decode cX8_hasBalancedTotals 41 = .ok (.getfield 35, 3) := by decide +kernel
theorem dX8_hasBalancedTotals_44 : decode cX8_hasBalancedTotals 44 = .ok (.isub, 1) := by decide +kernel
theorem dX8_hasBalancedTotals_45 : decode cX8_hasBalancedTotals 45 = .ok (.aload_n 0, 1) := by decide +kernel
theorem dX8_hasBalancedTotals_46 : decode cX8_hasBalancedTotals 46 = .ok (.getfield 44, 3) := by decide +kernel
theorem dX8_hasBalancedTotals_49 : decode cX8_hasBalancedTotals 49 = .ok (.isub, 1) := by decide +kernel
theorem dX8_hasBalancedTotals_50 : decode cX8_hasBalancedTotals 50 = .ok (.iload_n 1, 1) := by decide +kernel
theorem dX8_hasBalancedTotals_51 : decode cX8_hasBalancedTotals 51 = .ok (.if_icmp .ne 7, 3) := by decide +kernel
theorem dX8_hasBalancedTotals_54 : decode cX8_hasBalancedTotals 54 = .ok (.iconst 1, 1) := by decide +kernel
theorem dX8_hasBalancedTotals_55 : decode cX8_hasBalancedTotals 55 = .ok (.goto 4, 3) := by decide +kernel
theorem dX8_hasBalancedTotals_58 : decode cX8_hasBalancedTotals 58 = .ok (.iconst 0, 1) := by decide +kernel
theorem dX8_hasBalancedTotals_59 : decode cX8_hasBalancedTotals 59 = .ok (.ireturn, 1) := by decide +kernel
theorem dX8_hasFittingAges_0 : decode cX8_hasFittingAges 0 = .ok (.iconst 1, 1) := by decide +kernel
theorem dX8_hasFittingAges_1 : decode cX8_hasFittingAges 1 = .ok (.istore_n 1, 1) := by decide +kernel
theorem dX8_hasFittingAges_2 : decode cX8_hasFittingAges 2 = .ok (.iconst 0, 1) := by decide +kernel
theorem dX8_hasFittingAges_3 : decode cX8_hasFittingAges 3 = .ok (.istore_n 2, 1) := by decide +kernel
theorem dX8_hasFittingAges_4 : decode cX8_hasFittingAges 4 = .ok (.iload_n 2, 1) := by decide +kernel
theorem dX8_hasFittingAges_5 : decode cX8_hasFittingAges 5 = .ok (.bipush 64, 2) := by decide +kernel
theorem dX8_hasFittingAges_7 : decode cX8_hasFittingAges 7 = .ok (.if_icmp .ge 57, 3) := by decide +kernel
theorem dX8_hasFittingAges_10 : decode cX8_hasFittingAges 10 = .ok (.aload_n 0, 1) := by decide +kernel
theorem dX8_hasFittingAges_11 : decode cX8_hasFittingAges 11 = .ok (.getfield 9, 3) := by decide +kernel
theorem dX8_hasFittingAges_14 : decode cX8_hasFittingAges 14 = .ok (.iload_n 2, 1) := by decide +kernel
theorem dX8_hasFittingAges_15 : decode cX8_hasFittingAges 15 = .ok (.caload, 1) := by decide +kernel
theorem dX8_hasFittingAges_16 : decode cX8_hasFittingAges 16 = .ok (.invokestatic 57, 3) := by decide +kernel
theorem dX8_hasFittingAges_19 : decode cX8_hasFittingAges 19 = .ok (.ifCond .eq 8, 3) := by decide +kernel
theorem dX8_hasFittingAges_22 : decode cX8_hasFittingAges 22 = .ok (.bipush 9, 2) := by decide +kernel
theorem dX8_hasFittingAges_24 : decode cX8_hasFittingAges 24 = .ok (.goto 4, 3) := by decide +kernel
theorem dX8_hasFittingAges_27 : decode cX8_hasFittingAges 27 = .ok (.iconst 0, 1) := by decide +kernel
theorem dX8_hasFittingAges_28 : decode cX8_hasFittingAges 28 = .ok (.istore_n 3, 1) := by decide +kernel
theorem dX8_hasFittingAges_29 : decode cX8_hasFittingAges 29 = .ok (.iload_n 1, 1) := by decide +kernel
theorem dX8_hasFittingAges_30 : decode cX8_hasFittingAges 30 = .ok (.ifCond .eq 26, 3) := by decide +kernel
theorem dX8_hasFittingAges_33 : decode cX8_hasFittingAges 33 = .ok (.aload_n 0, 1) := by decide +kernel
theorem dX8_hasFittingAges_34 : decode cX8_hasFittingAges 34 = .ok (.getfield 15, 3) := by decide +kernel
theorem dX8_hasFittingAges_37 : decode cX8_hasFittingAges 37 = .ok (.iload_n 2, 1) := by decide +kernel
theorem dX8_hasFittingAges_38 : decode cX8_hasFittingAges 38 = .ok (.iaload, 1) := by decide +kernel
theorem dX8_hasFittingAges_39 : decode cX8_hasFittingAges 39 = .ok (.ifCond .lt 17, 3) := by decide +kernel
theorem dX8_hasFittingAges_42 : decode cX8_hasFittingAges 42 = .ok (.aload_n 0, 1) := by decide +kernel
theorem dX8_hasFittingAges_43 : decode cX8_hasFittingAges 43 = .ok (.getfield 15, 3) := by decide +kernel
theorem dX8_hasFittingAges_46 : decode cX8_hasFittingAges 46 = .ok (.iload_n 2, 1) := by decide +kernel
theorem dX8_hasFittingAges_47 : decode cX8_hasFittingAges 47 = .ok (.iaload, 1) := by decide +kernel
theorem dX8_hasFittingAges_48 : decode cX8_hasFittingAges 48 = .ok (.iload_n 3, 1) := by decide +kernel
theorem dX8_hasFittingAges_49 : decode cX8_hasFittingAges 49 = .ok (.if_icmp .gt 7, 3) := by decide +kernel
theorem dX8_hasFittingAges_52 : decode cX8_hasFittingAges 52 = .ok (.iconst 1, 1) := by decide +kernel
theorem dX8_hasFittingAges_53 : decode cX8_hasFittingAges 53 = .ok (.goto 4, 3) := by decide +kernel
theorem dX8_hasFittingAges_56 : decode cX8_hasFittingAges 56 = .ok (.iconst 0, 1) := by decide +kernel
theorem dX8_hasFittingAges_57 : decode cX8_hasFittingAges 57 = .ok (.istore_n 1, 1) := by decide +kernel
theorem dX8_hasFittingAges_58 : decode cX8_hasFittingAges 58 = .ok (.iinc 2 1, 3) := by decide +kernel
theorem dX8_hasFittingAges_61 : decode cX8_hasFittingAges 61 = .ok (.goto (-57), 3) := by decide +kernel
theorem dX8_hasFittingAges_64 : decode cX8_hasFittingAges 64 = .ok (.iload_n 1, 1) := by decide +kernel
theorem dX8_hasFittingAges_65 : decode cX8_hasFittingAges 65 = .ok (.ireturn, 1) := by decide +kernel
theorem dX8_changesInTide_0 : decode cX8_changesInTide 0 = .ok (.aload_n 0, 1) := by decide +kernel
theorem dX8_changesInTide_1 : decode cX8_changesInTide 1 = .ok (.iload_n 1, 1) := by decide +kernel
theorem dX8_changesInTide_2 : decode cX8_changesInTide 2 = .ok (.bipush 42, 2) := by decide +kernel
theorem dX8_changesInTide_4 : decode cX8_changesInTide 4 = .ok (.invokevirtual 80, 3) := by decide +kernel
theorem dX8_changesInTide_7 : decode cX8_changesInTide 7 = .ok (.istore_n 2, 1) := by decide +kernel
theorem dX8_changesInTide_8 : decode cX8_changesInTide 8 = .ok (.aload_n 0, 1) := by decide +kernel
theorem dX8_changesInTide_9 : decode cX8_changesInTide 9 = .ok (.iload_n 1, 1) := by decide +kernel
theorem dX8_changesInTide_10 : decode cX8_changesInTide 10 = .ok (.invokevirtual 53, 3) := by decide +kernel
theorem dX8_changesInTide_13 : decode cX8_changesInTide 13 = .ok (.istore_n 3, 1) := by decide +kernel
theorem dX8_changesInTide_14 : decode cX8_changesInTide 14 = .ok (.iload_n 3, 1) := by decide +kernel
theorem dX8_changesInTide_15 : decode cX8_changesInTide 15 = .ok (.ifCond .ne 12, 3) := by decide +kernel
theorem dX8_changesInTide_18 : decode cX8_changesInTide 18 = .ok (.aload_n 0, 1) := by decide +kernel
theorem dX8_changesInTide_19 : decode cX8_changesInTide 19 = .ok (.getfield 25, 3) := by decide +kernel
theorem dX8_changesInTide_22 : decode cX8_changesInTide 22 = .ok (.iload_n 2, 1) := by decide +kernel
theorem dX8_changesInTide_23 : decode cX8_changesInTide 23 = .ok (.invokevirtual 88, 3) := by decide +kernel
theorem dX8_changesInTide_26 : decode cX8_changesInTide 26 = .ok (.ireturn, 1) := by decide +kernel
theorem dX8_changesInTide_27 : decode cX8_changesInTide 27 = .ok (.iload_n 3, 1) := by decide +kernel
theorem dX8_changesInTide_28 : decode cX8_changesInTide 28 = .ok (.bipush 35, 2) := by decide +kernel
theorem dX8_changesInTide_30 : decode cX8_changesInTide 30 = .ok (.if_icmp .ne 15, 3) := by decide +kernel
theorem dX8_changesInTide_33 : decode cX8_changesInTide 33 = .ok (.iload_n 2, 1) := by decide +kernel
theorem dX8_changesInTide_34 : decode cX8_changesInTide 34 = .ok (.ifCond .ne 7, 3) := by decide +kernel
theorem dX8_changesInTide_37 : decode cX8_changesInTide 37 = .ok (.iconst 1, 1) := by decide +kernel
theorem dX8_changesInTide_38 : decode cX8_changesInTide 38 = .ok (.goto 23, 3) := by decide +kernel
theorem dX8_changesInTide_41 : decode cX8_changesInTide 41 = .ok (.iconst 0, 1) := by decide +kernel
theorem dX8_changesInTide_42 : decode cX8_changesInTide 42 = .ok (.goto 19, 3) := by decide +kernel
theorem dX8_changesInTide_45 : decode cX8_changesInTide 45 = .ok (.aload_n 0, 1) := by decide +kernel
theorem dX8_changesInTide_46 : decode cX8_changesInTide 46 = .ok (.getfield 25, 3) := by decide +kernel
theorem dX8_changesInTide_49 : decode cX8_changesInTide 49 = .ok (.iload_n 2, 1) := by decide +kernel
theorem dX8_changesInTide_50 : decode cX8_changesInTide 50 = .ok (.invokevirtual 92, 3) := by decide +kernel
theorem dX8_changesInTide_53 : decode cX8_changesInTide 53 = .ok (.ifCond .ne 7, 3) := by decide +kernel
theorem dX8_changesInTide_56 : decode cX8_changesInTide 56 = .ok (.iconst 1, 1) := by decide +kernel
theorem dX8_changesInTide_57 : decode cX8_changesInTide 57 = .ok (.goto 4, 3) := by decide +kernel
theorem dX8_changesInTide_60 : decode cX8_changesInTide 60 = .ok (.iconst 0, 1) := by decide +kernel
theorem dX8_changesInTide_61 : decode cX8_changesInTide 61 = .ok (.ireturn, 1) := by decide +kernel
theorem dX8_livesAfterTide_0 : decode cX8_livesAfterTide 0 = .ok (.aload_n 0, 1) := by decide +kernel
theorem dX8_livesAfterTide_1 : decode cX8_livesAfterTide 1 = .ok (.iload_n 1, 1) := by decide +kernel
theorem dX8_livesAfterTide_2 : decode cX8_livesAfterTide 2 = .ok (.invokevirtual 53, 3) := by decide +kernel
theorem dX8_livesAfterTide_5 : decode cX8_livesAfterTide 5 = .ok (.istore_n 2, 1) := by decide +kernel
theorem dX8_livesAfterTide_6 : decode cX8_livesAfterTide 6 = .ok (.iload_n 2, 1) := by decide +kernel
theorem dX8_livesAfterTide_7 : decode cX8_livesAfterTide 7 = .ok (.bipush 35, 2) := by decide +kernel
theorem dX8_livesAfterTide_9 : decode cX8_livesAfterTide 9 = .ok (.if_icmp .eq 24, 3) := by decide +kernel
theorem dX8_livesAfterTide_12 : decode cX8_livesAfterTide 12 = .ok (.iload_n 2, 1) := by decide +kernel
theorem dX8_livesAfterTide_13 : decode cX8_livesAfterTide 13 = .ok (.ifCond .ne 7, 3) := by decide +kernel
theorem dX8_livesAfterTide_16 : decode cX8_livesAfterTide 16 = .ok (.iconst 1, 1) := by decide +kernel
theorem dX8_livesAfterTide_17 : decode cX8_livesAfterTide 17 = .ok (.goto 4, 3) := by decide +kernel
theorem dX8_livesAfterTide_20 : decode cX8_livesAfterTide 20 = .ok (.iconst 0, 1) := by decide +kernel
theorem dX8_livesAfterTide_21 : decode cX8_livesAfterTide 21 = .ok (.aload_n 0, 1) := by decide +kernel
theorem dX8_livesAfterTide_22 : decode cX8_livesAfterTide 22 = .ok (.iload_n 1, 1) := by decide +kernel
theorem dX8_livesAfterTide_23 : decode cX8_livesAfterTide 23 = .ok (.invokevirtual 95, 3) := by decide +kernel
theorem dX8_livesAfterTide_26 : decode cX8_livesAfterTide 26 = .ok (.if_icmp .ne 7, 3) := by decide +kernel
theorem dX8_livesAfterTide_29 : decode cX8_livesAfterTide 29 = .ok (.iconst 1, 1) := by decide +kernel
theorem dX8_livesAfterTide_30 : decode cX8_livesAfterTide 30 = .ok (.goto 4, 3) := by decide +kernel
theorem dX8_livesAfterTide_33 : decode cX8_livesAfterTide 33 = .ok (.iconst 0, 1) := by decide +kernel
theorem dX8_livesAfterTide_34 : decode cX8_livesAfterTide 34 = .ok (.ireturn, 1) := by decide +kernel
theorem dX8_staysInTide_0 : decode cX8_staysInTide 0 = .ok (.iconst 0, 1) := by decide +kernel
theorem dX8_staysInTide_1 : decode cX8_staysInTide 1 = .ok (.istore_n 1, 1) := by decide +kernel
theorem dX8_staysInTide_2 : decode cX8_staysInTide 2 = .ok (.iload_n 1, 1) := by decide +kernel
theorem dX8_staysInTide_3 : decode cX8_staysInTide 3 = .ok (.bipush 64, 2) := by decide +kernel
theorem dX8_staysInTide_5 : decode cX8_staysInTide 5 = .ok (.if_icmp .ge 19, 3) := by decide +kernel
theorem dX8_staysInTide_8 : decode cX8_staysInTide 8 = .ok (.aload_n 0, 1) := by decide +kernel
theorem dX8_staysInTide_9 : decode cX8_staysInTide 9 = .ok (.iload_n 1, 1) := by decide +kernel
theorem dX8_staysInTide_10 : decode cX8_staysInTide 10 = .ok (.invokevirtual 95, 3) := by decide +kernel
theorem dX8_staysInTide_13 : decode cX8_staysInTide 13 = .ok (.ifCond .eq 5, 3) := by decide +kernel
theorem dX8_staysInTide_16 : decode cX8_staysInTide 16 = .ok (.iconst 0, 1) := by decide +kernel
theorem dX8_staysInTide_17 : decode cX8_staysInTide 17 = .ok (.ireturn, 1) := by decide +kernel
theorem dX8_staysInTide_18 : decode cX8_staysInTide 18 = .ok (.iinc 1 1, 3) := by decide +kernel
theorem dX8_staysInTide_21 : decode cX8_staysInTide 21 = .ok (.goto (-19), 3) := by decide +kernel
theorem dX8_staysInTide_24 : decode cX8_staysInTide 24 = .ok (.iconst 1, 1) := by decide +kernel
theorem dX8_staysInTide_25 : decode cX8_staysInTide 25 = .ok (.ireturn, 1) := by decide +kernel
theorem dX8_reasonAgainstPlacing_0 : decode cX8_reasonAgainstPlacing 0 = .ok (.aload_n 0, 1) := by decide +kernel
theorem dX8_reasonAgainstPlacing_1 : decode cX8_reasonAgainstPlacing 1 = .ok (.iload_n 1, 1) := by decide +kernel
theorem dX8_reasonAgainstPlacing_2 : decode cX8_reasonAgainstPlacing 2 = .ok (.invokevirtual 53, 3) := by decide +kernel
theorem dX8_reasonAgainstPlacing_5 : decode cX8_reasonAgainstPlacing 5 = .ok (.ifCond .ne 7, 3) := by decide +kernel
theorem dX8_reasonAgainstPlacing_8 : decode cX8_reasonAgainstPlacing 8 = .ok (.iconst 0, 1) := by decide +kernel
theorem dX8_reasonAgainstPlacing_9 : decode cX8_reasonAgainstPlacing 9 = .ok (.goto 4, 3) := by decide +kernel
theorem dX8_reasonAgainstPlacing_12 : decode cX8_reasonAgainstPlacing 12 = .ok (.iconst 1, 1) := by decide +kernel
theorem dX8_reasonAgainstPlacing_13 : decode cX8_reasonAgainstPlacing 13 = .ok (.ireturn, 1) := by decide +kernel
theorem dX8_reasonAgainstRemoving_0 : decode cX8_reasonAgainstRemoving 0 = .ok (.aload_n 0, 1) := by decide +kernel
theorem dX8_reasonAgainstRemoving_1 : decode cX8_reasonAgainstRemoving 1 = .ok (.iload_n 1, 1) := by decide +kernel
theorem dX8_reasonAgainstRemoving_2 : decode cX8_reasonAgainstRemoving 2 = .ok (.invokevirtual 53, 3) := by decide +kernel
theorem dX8_reasonAgainstRemoving_5 : decode cX8_reasonAgainstRemoving 5 = .ok (.ifCond .ne 7, 3) := by decide +kernel
theorem dX8_reasonAgainstRemoving_8 : decode cX8_reasonAgainstRemoving 8 = .ok (.iconst 2, 1) := by decide +kernel
theorem dX8_reasonAgainstRemoving_9 : decode cX8_reasonAgainstRemoving 9 = .ok (.goto 4, 3) := by decide +kernel
theorem dX8_reasonAgainstRemoving_12 : decode cX8_reasonAgainstRemoving 12 = .ok (.iconst 0, 1) := by decide +kernel
theorem dX8_reasonAgainstRemoving_13 : decode cX8_reasonAgainstRemoving 13 = .ok (.ireturn, 1) := by decide +kernel
theorem dX8_reasonAgainstAltering_0 : decode cX8_reasonAgainstAltering 0 = .ok (.aload_n 0, 1) := by decide +kernel
theorem dX8_reasonAgainstAltering_1 : decode cX8_reasonAgainstAltering 1 = .ok (.iload_n 1, 1) := by decide +kernel
theorem dX8_reasonAgainstAltering_2 : decode cX8_reasonAgainstAltering 2 = .ok (.invokevirtual 53, 3) := by decide +kernel
theorem dX8_reasonAgainstAltering_5 : decode cX8_reasonAgainstAltering 5 = .ok (.istore_n 2, 1) := by decide +kernel
theorem dX8_reasonAgainstAltering_6 : decode cX8_reasonAgainstAltering 6 = .ok (.iload_n 2, 1) := by decide +kernel
theorem dX8_reasonAgainstAltering_7 : decode cX8_reasonAgainstAltering 7 = .ok (.ifCond .ne 5, 3) := by decide +kernel
theorem dX8_reasonAgainstAltering_10 : decode cX8_reasonAgainstAltering 10 = .ok (.iconst 2, 1) := by decide +kernel
theorem dX8_reasonAgainstAltering_11 : decode cX8_reasonAgainstAltering 11 = .ok (.ireturn, 1) := by decide +kernel
theorem dX8_reasonAgainstAltering_12 : decode cX8_reasonAgainstAltering 12 = .ok (.iload_n 2, 1) := by decide +kernel
theorem dX8_reasonAgainstAltering_13 : decode cX8_reasonAgainstAltering 13 = .ok (.bipush 35, 2) := by decide +kernel
theorem dX8_reasonAgainstAltering_15 : decode cX8_reasonAgainstAltering 15 = .ok (.if_icmp .ne 7, 3) := by decide +kernel
theorem dX8_reasonAgainstAltering_18 : decode cX8_reasonAgainstAltering 18 = .ok (.iconst 3, 1) := by decide +kernel
theorem dX8_reasonAgainstAltering_19 : decode cX8_reasonAgainstAltering 19 = .ok (.goto 4, 3) := by decide +kernel
theorem dX8_reasonAgainstAltering_22 : decode cX8_reasonAgainstAltering 22 = .ok (.iconst 0, 1) := by decide +kernel
theorem dX8_reasonAgainstAltering_23 : decode cX8_reasonAgainstAltering 23 = .ok (.ireturn, 1) := by decide +kernel
theorem dX8_reasonAgainstPlanting_0 : decode cX8_reasonAgainstPlanting 0 = .ok (.iconst 0, 1) := by decide +kernel
theorem dX8_reasonAgainstPlanting_1 : decode cX8_reasonAgainstPlanting 1 = .ok (.istore 4, 2) := by decide +kernel
theorem dX8_reasonAgainstPlanting_3 : decode cX8_reasonAgainstPlanting 3 = .ok (.iload 4, 2) := by decide +kernel
theorem dX8_reasonAgainstPlanting_5 : decode cX8_reasonAgainstPlanting 5 = .ok (.aload_n 3, 1) := by decide +kernel
theorem dX8_reasonAgainstPlanting_6 : decode cX8_reasonAgainstPlanting 6 = .ok (.invokevirtual 98, 3) := by decide +kernel
theorem dX8_reasonAgainstPlanting_9 : decode cX8_reasonAgainstPlanting 9 = .ok (.if_icmp .ge 22, 3) := by decide +kernel
theorem dX8_reasonAgainstPlanting_12 : decode cX8_reasonAgainstPlanting 12 = .ok (.aload_n 3, 1) := by decide +kernel
theorem dX8_reasonAgainstPlanting_13 : decode cX8_reasonAgainstPlanting 13 = .ok (.iload_n 1, 1) := by decide +kernel
theorem dX8_reasonAgainstPlanting_14 : decode cX8_reasonAgainstPlanting 14 = .ok (.iload_n 2, 1) := by decide +kernel
theorem dX8_reasonAgainstPlanting_15 : decode cX8_reasonAgainstPlanting 15 = .ok (.iload 4, 2) := by decide +kernel
theorem dX8_reasonAgainstPlanting_17 : decode cX8_reasonAgainstPlanting 17 = .ok (.invokevirtual 104, 3) := by decide +kernel
theorem dX8_reasonAgainstPlanting_20 : decode cX8_reasonAgainstPlanting 20 = .ok (.ifCond .ge 5, 3) := by decide +kernel
theorem dX8_reasonAgainstPlanting_23 : decode cX8_reasonAgainstPlanting 23 = .ok (.iconst 4, 1) := by decide +kernel
theorem dX8_reasonAgainstPlanting_24 : decode cX8_reasonAgainstPlanting 24 = .ok (.ireturn, 1) := by decide +kernel
theorem dX8_reasonAgainstPlanting_25 : decode cX8_reasonAgainstPlanting 25 = .ok (.iinc 4 1, 3) := by decide +kernel
theorem dX8_reasonAgainstPlanting_28 : decode cX8_reasonAgainstPlanting 28 = .ok (.goto (-25), 3) := by decide +kernel
theorem dX8_reasonAgainstPlanting_31 : decode cX8_reasonAgainstPlanting 31 = .ok (.aload_n 0, 1) := by decide +kernel
theorem dX8_reasonAgainstPlanting_32 : decode cX8_reasonAgainstPlanting 32 = .ok (.iload_n 1, 1) := by decide +kernel
theorem dX8_reasonAgainstPlanting_33 : decode cX8_reasonAgainstPlanting 33 = .ok (.iload_n 2, 1) := by decide +kernel
theorem dX8_reasonAgainstPlanting_34 : decode cX8_reasonAgainstPlanting 34 = .ok (.aload_n 3, 1) := by decide +kernel
theorem dX8_reasonAgainstPlanting_35 : decode cX8_reasonAgainstPlanting 35 = .ok (.invokevirtual 108, 3) := by decide +kernel
theorem dX8_reasonAgainstPlanting_38 : decode cX8_reasonAgainstPlanting 38 = .ok (.ifCond .ge 7, 3) := by decide +kernel
theorem dX8_reasonAgainstPlanting_41 : decode cX8_reasonAgainstPlanting 41 = .ok (.iconst 0, 1) := by decide +kernel
theorem dX8_reasonAgainstPlanting_42 : decode cX8_reasonAgainstPlanting 42 = .ok (.goto 4, 3) := by decide +kernel
theorem dX8_reasonAgainstPlanting_45 : decode cX8_reasonAgainstPlanting 45 = .ok (.iconst 1, 1) := by decide +kernel
theorem dX8_reasonAgainstPlanting_46 : decode cX8_reasonAgainstPlanting 46 = .ok (.ireturn, 1) := by decide +kernel
theorem dX8_reasonAgainstRule_0 : decode cX8_reasonAgainstRule 0 = .ok (.aload_n 0, 1) := by decide +kernel
theorem dX8_reasonAgainstRule_1 : decode cX8_reasonAgainstRule 1 = .ok (.getfield 25, 3) := by decide +kernel
theorem dX8_reasonAgainstRule_4 : decode cX8_reasonAgainstRule 4 = .ok (.aload_n 1, 1) := by decide +kernel
theorem dX8_reasonAgainstRule_5 : decode cX8_reasonAgainstRule 5 = .ok (.if_acmp .ne 7, 3) := by decide +kernel
theorem dX8_reasonAgainstRule_8 : decode cX8_reasonAgainstRule 8 = .ok (.iconst 5, 1) := by decide +kernel
theorem dX8_reasonAgainstRule_9 : decode cX8_reasonAgainstRule 9 = .ok (.goto 4, 3) := by decide +kernel
theorem dX8_reasonAgainstRule_12 : decode cX8_reasonAgainstRule 12 = .ok (.iconst 0, 1) := by decide +kernel
theorem dX8_reasonAgainstRule_13 : decode cX8_reasonAgainstRule 13 = .ok (.ireturn, 1) := by decide +kernel
theorem dX8_firstTakenCell_0 : decode cX8_firstTakenCell 0 = .ok (.iconst 0, 1) := by decide +kernel
theorem dX8_firstTakenCell_1 : decode cX8_firstTakenCell 1 = .ok (.istore 4, 2) := by decide +kernel
theorem dX8_firstTakenCell_3 : decode cX8_firstTakenCell 3 = .ok (.iload 4, 2) := by decide +kernel
theorem dX8_firstTakenCell_5 : decode cX8_firstTakenCell 5 = .ok (.aload_n 3, 1) := by decide +kernel
theorem dX8_firstTakenCell_6 : decode cX8_firstTakenCell 6 = .ok (.invokevirtual 98, 3) := by decide +kernel
theorem dX8_firstTakenCell_9 : decode cX8_firstTakenCell 9 = .ok (.if_icmp .ge 31, 3) := by decide +kernel
theorem dX8_firstTakenCell_12 : decode cX8_firstTakenCell 12 = .ok (.aload_n 3, 1) := by decide +kernel
theorem dX8_firstTakenCell_13 : decode cX8_firstTakenCell 13 = .ok (.iload_n 1, 1) := by decide +kernel
theorem dX8_firstTakenCell_14 : decode cX8_firstTakenCell 14 = .ok (.iload_n 2, 1) := by decide +kernel
theorem dX8_firstTakenCell_15 : decode cX8_firstTakenCell 15 = .ok (.iload 4, 2) := by decide +kernel
theorem dX8_firstTakenCell_17 : decode cX8_firstTakenCell 17 = .ok (.invokevirtual 104, 3) := by decide +kernel
theorem dX8_firstTakenCell_20 : decode cX8_firstTakenCell 20 = .ok (.istore 5, 2) := by decide +kernel
theorem dX8_firstTakenCell_22 : decode cX8_firstTakenCell 22 = .ok (.aload_n 0, 1) := by decide +kernel
theorem dX8_firstTakenCell_23 : decode cX8_firstTakenCell 23 = .ok (.iload 5, 2) := by decide +kernel
theorem dX8_firstTakenCell_25 : decode cX8_firstTakenCell 25 = .ok (.invokevirtual 53, 3) := by decide +kernel
theorem dX8_firstTakenCell_28 : decode cX8_firstTakenCell 28 = .ok (.ifCond .eq 6, 3) := by decide +kernel
theorem dX8_firstTakenCell_31 : decode cX8_firstTakenCell 31 = .ok (.iload 5, 2) := by decide +kernel
theorem dX8_firstTakenCell_33 : decode cX8_firstTakenCell 33 = .ok (.ireturn, 1) := by decide +kernel
theorem dX8_firstTakenCell_34 : decode cX8_firstTakenCell 34 = .ok (.iinc 4 1, 3) := by decide +kernel
theorem dX8_firstTakenCell_37 : decode cX8_firstTakenCell 37 = .ok (.goto (-34), 3) := by decide +kernel
theorem dX8_firstTakenCell_40 : decode cX8_firstTakenCell 40 = .ok (.iconst (-1), 1) := by decide +kernel
theorem dX8_firstTakenCell_41 : decode cX8_firstTakenCell 41 = .ok (.ireturn, 1) := by decide +kernel
theorem dX8_putPlaced_0 : decode cX8_putPlaced 0 = .ok (.aload_n 0, 1) := by decide +kernel
theorem dX8_putPlaced_1 : decode cX8_putPlaced 1 = .ok (.iload_n 1, 1) := by decide +kernel
theorem dX8_putPlaced_2 : decode cX8_putPlaced 2 = .ok (.iload_n 2, 1) := by decide +kernel
theorem dX8_putPlaced_3 : decode cX8_putPlaced 3 = .ok (.invokevirtual 112, 3) := by decide +kernel
theorem dX8_putPlaced_6 : decode cX8_putPlaced 6 = .ok (.aload_n 0, 1) := by decide +kernel
theorem dX8_putPlaced_7 : decode cX8_putPlaced 7 = .ok (.dup, 1) := by decide +kernel
theorem dX8_putPlaced_8 : decode cX8_putPlaced 8 = .ok (.getfield 32, 3) := by decide +kernel
theorem dX8_putPlaced_11 : decode cX8_putPlaced 11 = .ok (.iconst 1, 1) := by decide +kernel
theorem dX8_putPlaced_12 : decode cX8_putPlaced 12 = .ok (.iadd, 1) := by decide +kernel
theorem dX8_putPlaced_13 : decode cX8_putPlaced 13 = .ok (.putfield 32, 3) := by decide +kernel
theorem dX8_putPlaced_16 : decode cX8_putPlaced 16 = .ok (.return_, 1) := by decide +kernel
theorem dX8_putPattern_0 : decode cX8_putPattern 0 = .ok (.iconst 0, 1) := by decide +kernel
theorem dX8_putPattern_1 : decode cX8_putPattern 1 = .ok (.istore 5, 2) := by decide +kernel
theorem dX8_putPattern_3 : decode cX8_putPattern 3 = .ok (.iload 5, 2) := by decide +kernel
theorem dX8_putPattern_5 : decode cX8_putPattern 5 = .ok (.aload_n 3, 1) := by decide +kernel
theorem dX8_putPattern_6 : decode cX8_putPattern 6 = .ok (.invokevirtual 98, 3) := by decide +kernel
theorem dX8_putPattern_9 : decode cX8_putPattern 9 = .ok (.if_icmp .ge 23, 3) := by decide +kernel
theorem dX8_putPattern_12 : decode cX8_putPattern 12 = .ok (.aload_n 0, 1) := by decide +kernel
theorem dX8_putPattern_13 : decode cX8_putPattern 13 = .ok (.aload_n 3, 1) := by decide +kernel
theorem dX8_putPattern_14 : decode cX8_putPattern 14 = .ok (.iload_n 1, 1) := by decide +kernel
theorem dX8_putPattern_15 : decode cX8_putPattern 15 = .ok (.iload_n 2, 1) := by decide +kernel
theorem dX8_putPattern_16 : decode cX8_putPattern 16 = .ok (.iload 5, 2) := by decide +kernel
theorem dX8_putPattern_18 : decode cX8_putPattern 18 = .ok (.invokevirtual 104, 3) := by decide +kernel
theorem dX8_putPattern_21 : decode cX8_putPattern 21 = .ok (.iload 4, 2) := by decide +kernel
theorem dX8_putPattern_23 : decode cX8_putPattern 23 = .ok (.invokevirtual 116, 3) := by decide +kernel
theorem dX8_putPattern_26 : decode cX8_putPattern 26 = .ok (.iinc 5 1, 3) := by decide +kernel
theorem dX8_putPattern_29 : decode cX8_putPattern 29 = .ok (.goto (-26), 3) := by decide +kernel
theorem dX8_putPattern_32 : decode cX8_putPattern 32 = .ok (.return_, 1) := by decide +kernel
theorem dX8_putBorn_0 : decode cX8_putBorn 0 = .ok (.aload_n 0, 1) := by decide +kernel
theorem dX8_putBorn_1 : decode cX8_putBorn 1 = .ok (.iload_n 1, 1) := by decide +kernel
theorem dX8_putBorn_2 : decode cX8_putBorn 2 = .ok (.iload_n 2, 1) := by decide +kernel
theorem dX8_putBorn_3 : decode cX8_putBorn 3 = .ok (.invokevirtual 112, 3) := by decide +kernel
theorem dX8_putBorn_6 : decode cX8_putBorn 6 = .ok (.aload_n 0, 1) := by decide +kernel
theorem dX8_putBorn_7 : decode cX8_putBorn 7 = .ok (.dup, 1) := by decide +kernel
theorem dX8_putBorn_8 : decode cX8_putBorn 8 = .ok (.getfield 38, 3) := by decide +kernel
theorem dX8_putBorn_11 : decode cX8_putBorn 11 = .ok (.iconst 1, 1) := by decide +kernel
theorem dX8_putBorn_12 : decode cX8_putBorn 12 = .ok (.iadd, 1) := by decide +kernel
theorem dX8_putBorn_13 : decode cX8_putBorn 13 = .ok (.putfield 38, 3) := by decide +kernel
theorem dX8_putBorn_16 : decode cX8_putBorn 16 = .ok (.return_, 1) := by decide +kernel
theorem dX8_takeRemoved_0 : decode cX8_takeRemoved 0 = .ok (.aload_n 0, 1) := by decide +kernel
theorem dX8_takeRemoved_1 : decode cX8_takeRemoved 1 = .ok (.iload_n 1, 1) := by decide +kernel
theorem dX8_takeRemoved_2 : decode cX8_takeRemoved 2 = .ok (.iconst 0, 1) := by decide +kernel
theorem dX8_takeRemoved_3 : decode cX8_takeRemoved 3 = .ok (.invokevirtual 112, 3) := by decide +kernel
theorem dX8_takeRemoved_6 : decode cX8_takeRemoved 6 = .ok (.aload_n 0, 1) := by decide +kernel
theorem dX8_takeRemoved_7 : decode cX8_takeRemoved 7 = .ok (.dup, 1) := by decide +kernel
theorem dX8_takeRemoved_8 : decode cX8_takeRemoved 8 = .ok (.getfield 35, 3) := by decide +kernel
theorem dX8_takeRemoved_11 : decode cX8_takeRemoved 11 = .ok (.iconst 1, 1) := by decide +kernel
theorem dX8_takeRemoved_12 : decode cX8_takeRemoved 12 = .ok (.iadd, 1) := by decide +kernel
theorem dX8_takeRemoved_13 : decode cX8_takeRemoved 13 = .ok (.putfield 35, 3) := by decide +kernel
theorem dX8_takeRemoved_16 : decode cX8_takeRemoved 16 = .ok (.return_, 1) := by decide +kernel
theorem dX8_takeWashed_0 : decode cX8_takeWashed 0 = .ok (.aload_n 0, 1) := by decide +kernel
theorem dX8_takeWashed_1 : decode cX8_takeWashed 1 = .ok (.iload_n 1, 1) := by decide +kernel
theorem dX8_takeWashed_2 : decode cX8_takeWashed 2 = .ok (.iconst 0, 1) := by decide +kernel
theorem dX8_takeWashed_3 : decode cX8_takeWashed 3 = .ok (.invokevirtual 112, 3) := by decide +kernel
theorem dX8_takeWashed_6 : decode cX8_takeWashed 6 = .ok (.aload_n 0, 1) := by decide +kernel
theorem dX8_takeWashed_7 : decode cX8_takeWashed 7 = .ok (.dup, 1) := by decide +kernel
theorem dX8_takeWashed_8 : decode cX8_takeWashed 8 = .ok (.getfield 44, 3) := by decide +kernel
theorem dX8_takeWashed_11 : decode cX8_takeWashed 11 = .ok (.iconst 1, 1) := by decide +kernel
theorem dX8_takeWashed_12 : decode cX8_takeWashed 12 = .ok (.iadd, 1) := by decide +kernel
theorem dX8_takeWashed_13 : decode cX8_takeWashed 13 = .ok (.putfield 44, 3) := by decide +kernel
theorem dX8_takeWashed_16 : decode cX8_takeWashed 16 = .ok (.return_, 1) := by decide +kernel
theorem dX8_turnPale_0 : decode cX8_turnPale 0 = .ok (.aload_n 0, 1) := by decide +kernel
theorem dX8_turnPale_1 : decode cX8_turnPale 1 = .ok (.iload_n 1, 1) := by decide +kernel
theorem dX8_turnPale_2 : decode cX8_turnPale 2 = .ok (.bipush 35, 2) := by decide +kernel
theorem dX8_turnPale_4 : decode cX8_turnPale 4 = .ok (.invokevirtual 112, 3) := by decide +kernel
theorem dX8_turnPale_7 : decode cX8_turnPale 7 = .ok (.aload_n 0, 1) := by decide +kernel
theorem dX8_turnPale_8 : decode cX8_turnPale 8 = .ok (.dup, 1) := by decide +kernel
theorem dX8_turnPale_9 : decode cX8_turnPale 9 = .ok (.getfield 41, 3) := by decide +kernel
theorem dX8_turnPale_12 : decode cX8_turnPale 12 = .ok (.iconst 1, 1) := by decide +kernel
theorem dX8_turnPale_13 : decode cX8_turnPale 13 = .ok (.iadd, 1) := by decide +kernel
theorem dX8_turnPale_14 : decode cX8_turnPale 14 = .ok (.putfield 41, 3) := by decide +kernel
theorem dX8_turnPale_17 : decode cX8_turnPale 17 = .ok (.return_, 1) := by decide +kernel
theorem dX8_paint_0 : decode cX8_paint 0 = .ok (.iload_n 1, 1) := by decide +kernel
theorem dX8_paint_1 : decode cX8_paint 1 = .ok (.ifCond .lt 16, 3) := by decide +kernel
theorem dX8_paint_4 : decode cX8_paint 4 = .ok (.iload_n 1, 1) := by decide +kernel
theorem dX8_paint_5 : decode cX8_paint 5 = .ok (.bipush 64, 2) := by decide +kernel
theorem dX8_paint_7 : decode cX8_paint 7 = .ok (.if_icmp .ge 10, 3) := by decide +kernel
theorem dX8_paint_10 : decode cX8_paint 10 = .ok (.aload_n 0, 1) := by decide +kernel
theorem dX8_paint_11 : decode cX8_paint 11 = .ok (.getfield 9, 3) := by decide +kernel
theorem dX8_paint_14 : decode cX8_paint 14 = .ok (.iload_n 1, 1) := by decide +kernel
theorem dX8_paint_15 : decode cX8_paint 15 = .ok (.iload_n 2, 1) := by decide +kernel
theorem dX8_paint_16 : decode cX8_paint 16 = .ok (.castore, 1) := by decide +kernel
theorem dX8_paint_17 : decode cX8_paint 17 = .ok (.return_, 1) := by decide +kernel
theorem dX8_growOlder_0 : decode cX8_growOlder 0 = .ok (.iload_n 1, 1) := by decide +kernel
theorem dX8_growOlder_1 : decode cX8_growOlder 1 = .ok (.ifCond .lt 28, 3) := by decide +kernel
theorem dX8_growOlder_4 : decode cX8_growOlder 4 = .ok (.iload_n 1, 1) := by decide +kernel
theorem dX8_growOlder_5 : decode cX8_growOlder 5 = .ok (.bipush 64, 2) := by decide +kernel
theorem dX8_growOlder_7 : decode cX8_growOlder 7 = .ok (.if_icmp .ge 22, 3) := by decide +kernel
theorem dX8_growOlder_10 : decode cX8_growOlder 10 = .ok (.aload_n 0, 1) := by decide +kernel
theorem dX8_growOlder_11 : decode cX8_growOlder 11 = .ok (.getfield 15, 3) := by decide +kernel
theorem dX8_growOlder_14 : decode cX8_growOlder 14 = .ok (.iload_n 1, 1) := by decide +kernel
theorem dX8_growOlder_15 : decode cX8_growOlder 15 = .ok (.aload_n 0, 1) := by decide +kernel
theorem dX8_growOlder_16 : decode cX8_growOlder 16 = .ok (.getfield 15, 3) := by decide +kernel
theorem dX8_growOlder_19 : decode cX8_growOlder 19 = .ok (.iload_n 1, 1) := by decide +kernel
theorem dX8_growOlder_20 : decode cX8_growOlder 20 = .ok (.iaload, 1) := by decide +kernel
theorem dX8_growOlder_21 : decode cX8_growOlder 21 = .ok (.iconst 1, 1) := by decide +kernel
theorem dX8_growOlder_22 : decode cX8_growOlder 22 = .ok (.iadd, 1) := by decide +kernel
theorem dX8_growOlder_23 : decode cX8_growOlder 23 = .ok (.bipush 9, 2) := by decide +kernel
theorem dX8_growOlder_25 : decode cX8_growOlder 25 = .ok (.invokestatic 119, 3) := by decide +kernel
theorem dX8_growOlder_28 : decode cX8_growOlder 28 = .ok (.iastore, 1) := by decide +kernel
theorem dX8_growOlder_29 : decode cX8_growOlder 29 = .ok (.return_, 1) := by decide +kernel
theorem dX8_put_0 : decode cX8_put 0 = .ok (.iload_n 1, 1) := by decide +kernel
theorem dX8_put_1 : decode cX8_put 1 = .ok (.ifCond .lt 23, 3) := by decide +kernel
theorem dX8_put_4 : decode cX8_put 4 = .ok (.iload_n 1, 1) := by decide +kernel
theorem dX8_put_5 : decode cX8_put 5 = .ok (.bipush 64, 2) := by decide +kernel
theorem dX8_put_7 : decode cX8_put 7 = .ok (.if_icmp .ge 17, 3) := by decide +kernel
theorem dX8_put_10 : decode cX8_put 10 = .ok (.aload_n 0, 1) := by decide +kernel
theorem dX8_put_11 : decode cX8_put 11 = .ok (.getfield 9, 3) := by decide +kernel
theorem dX8_put_14 : decode cX8_put 14 = .ok (.iload_n 1, 1) := by decide +kernel
theorem dX8_put_15 : decode cX8_put 15 = .ok (.iload_n 2, 1) := by decide +kernel
theorem dX8_put_16 : decode cX8_put 16 = .ok (.castore, 1) := by decide +kernel
theorem dX8_put_17 : decode cX8_put 17 = .ok (.aload_n 0, 1) := by decide +kernel
theorem dX8_put_18 : decode cX8_put 18 = .ok (.getfield 15, 3) := by decide +kernel
theorem dX8_put_21 : decode cX8_put 21 = .ok (.iload_n 1, 1) := by decide +kernel
theorem dX8_put_22 : decode cX8_put 22 = .ok (.iconst 0, 1) := by decide +kernel
theorem dX8_put_23 : decode cX8_put 23 = .ok (.iastore, 1) := by decide +kernel
theorem dX8_put_24 : decode cX8_put 24 = .ok (.return_, 1) := by decide +kernel
theorem dX10_init_0 : decode cX10_init 0 = .ok (.aload_n 0, 1) := by decide +kernel
theorem dX10_init_1 : decode cX10_init 1 = .ok (.invokespecial 1, 3) := by decide +kernel
theorem dX10_init_4 : decode cX10_init 4 = .ok (.aload_n 0, 1) := by decide +kernel
theorem dX10_init_5 : decode cX10_init 5 = .ok (.new 7, 3) := by decide +kernel
theorem dX10_init_8 : decode cX10_init 8 = .ok (.dup, 1) := by decide +kernel
theorem dX10_init_9 : decode cX10_init 9 = .ok (.invokespecial 9, 3) := by decide +kernel
theorem dX10_init_12 : decode cX10_init 12 = .ok (.putfield 10, 3) := by decide +kernel
theorem dX10_init_15 : decode cX10_init 15 = .ok (.aload_n 0, 1) := by decide +kernel
theorem dX10_init_16 : decode cX10_init 16 = .ok (.new 7, 3) := by decide +kernel
theorem dX10_init_19 : decode cX10_init 19 = .ok (.dup, 1) := by decide +kernel
theorem dX10_init_20 : decode cX10_init 20 = .ok (.invokespecial 9, 3) := by decide +kernel
theorem dX10_init_23 : decode cX10_init 23 = .ok (.putfield 16, 3) := by decide +kernel
theorem dX10_init_26 : decode cX10_init 26 = .ok (.aload_n 0, 1) := by decide +kernel
theorem dX10_init_27 : decode cX10_init 27 = .ok (.new 7, 3) := by decide +kernel
theorem dX10_init_30 : decode cX10_init 30 = .ok (.dup, 1) := by decide +kernel
theorem dX10_init_31 : decode cX10_init 31 = .ok (.invokespecial 9, 3) := by decide +kernel
theorem dX10_init_34 : decode cX10_init 34 = .ok (.putfield 19, 3) := by decide +kernel
theorem dX10_init_37 : decode cX10_init 37 = .ok (.aload_n 0, 1) := by decide +kernel
theorem dX10_init_38 : decode cX10_init 38 = .ok (.new 22, 3) := by decide +kernel
theorem dX10_init_41 : decode cX10_init 41 = .ok (.dup, 1) := by decide +kernel
theorem dX10_init_42 : decode cX10_init 42 = .ok (.invokespecial 24, 3) := by decide +kernel
theorem dX10_init_45 : decode cX10_init 45 = .ok (.putfield 25, 3) := by decide +kernel
theorem dX10_init_48 : decode cX10_init 48 = .ok (.aload_n 0, 1) := by decide +kernel
theorem dX10_init_49 : decode cX10_init 49 = .ok (.new 29, 3) := by decide +kernel
theorem dX10_init_52 : decode cX10_init 52 = .ok (.dup, 1) := by decide +kernel
theorem dX10_init_53 : decode cX10_init 53 = .ok (.invokespecial 31, 3) := by decide +kernel
theorem dX10_init_56 : decode cX10_init 56 = .ok (.putfield 32, 3) := by decide +kernel
theorem dX10_init_59 : decode cX10_init 59 = .ok (.aload_n 0, 1) := by decide +kernel
theorem dX10_init_60 : decode cX10_init 60 = .ok (.new 36, 3) := by decide +kernel
theorem dX10_init_63 : decode cX10_init 63 = .ok (.dup, 1) := by decide +kernel
theorem dX10_init_64 : decode cX10_init 64 = .ok (.invokespecial 38, 3) := by decide +kernel
theorem dX10_init_67 : decode cX10_init 67 = .ok (.putfield 39, 3) := by decide +kernel
theorem dX10_init_70 : decode cX10_init 70 = .ok (.aload_n 0, 1) := by decide +kernel
theorem dX10_init_71 : decode cX10_init 71 = .ok (.new 43, 3) := by decide +kernel
theorem dX10_init_74 : decode cX10_init 74 = .ok (.dup, 1) := by decide +kernel
theorem dX10_init_75 : decode cX10_init 75 = .ok (.invokespecial 45, 3) := by decide +kernel
theorem dX10_init_78 : decode cX10_init 78 = .ok (.putfield 46, 3) := by decide +kernel
theorem dX10_init_81 : decode cX10_init 81 = .ok (.aload_n 0, 1) := by decide +kernel
theorem dX10_init_82 : decode cX10_init 82 = .ok (.new 50, 3) := by decide +kernel
theorem dX10_init_85 : decode cX10_init 85 = .ok (.dup, 1) := by decide +kernel
theorem dX10_init_86 : decode cX10_init 86 = .ok (.invokespecial 52, 3) := by decide +kernel
theorem dX10_init_89 : decode cX10_init 89 = .ok (.putfield 53, 3) := by decide +kernel
theorem dX10_init_92 : decode cX10_init 92 = .ok (.aload_n 0, 1) := by decide +kernel
theorem dX10_init_93 : decode cX10_init 93 = .ok (.iconst 0, 1) := by decide +kernel
theorem dX10_init_94 : decode cX10_init 94 = .ok (.putfield 57, 3) := by decide +kernel
theorem dX10_init_97 : decode cX10_init 97 = .ok (.aload_n 0, 1) := by decide +kernel
theorem dX10_init_98 : decode cX10_init 98 = .ok (.iconst (-1), 1) := by decide +kernel
theorem dX10_init_99 : decode cX10_init 99 = .ok (.putfield 61, 3) := by decide +kernel
theorem dX10_init_102 : decode cX10_init 102 = .ok (.aload_n 0, 1) := by decide +kernel
theorem dX10_init_103 : decode cX10_init 103 = .ok (.iconst 0, 1) := by decide +kernel
theorem dX10_init_104 : decode cX10_init 104 = .ok (.putfield 65, 3) := by decide +kernel
theorem dX10_init_107 : decode cX10_init 107 = .ok (.aload_n 0, 1) := by decide +kernel
theorem dX10_init_108 : decode cX10_init 108 = .ok (.iconst 0, 1) := by decide +kernel
theorem dX10_init_109 : decode cX10_init 109 = .ok (.putfield 68, 3) := by decide +kernel
theorem dX10_init_112 : decode cX10_init 112 = .ok (.aload_n 0, 1) := by decide +kernel
theorem dX10_init_113 : decode cX10_init 113 = .ok (.iconst 0, 1) := by decide +kernel
theorem dX10_init_114 : decode cX10_init 114 = .ok (.putfield 71, 3) := by decide +kernel
theorem dX10_init_117 : decode cX10_init 117 = .ok (.return_, 1) := by decide +kernel
theorem dX10_place_0 : decode cX10_place 0 = .ok (.iload_n 1, 1) := by decide +kernel
theorem dX10_place_1 : decode cX10_place 1 = .ok (.iload_n 2, 1) := by decide +kernel
theorem dX10_place_2 : decode cX10_place 2 = .ok (.invokestatic 74, 3) := by decide +kernel
theorem dX10_place_5 : decode cX10_place 5 = .ok (.iload_n 3, 1) := by decide +kernel
theorem dX10_place_6 : decode cX10_place 6 = .ok (.invokestatic 78, 3) := by decide +kernel
theorem dX10_place_9 : decode cX10_place 9 = .ok (.iload_n 1, 1) := by decide +kernel
theorem dX10_place_10 : decode cX10_place 10 = .ok (.iload_n 2, 1) := by decide +kernel
theorem dX10_place_11 : decode cX10_place 11 = .ok (.invokestatic 82, 3) := by decide +kernel
theorem dX10_place_14 : decode cX10_place 14 = .ok (.istore 4, 2) := by decide +kernel
theorem dX10_place_16 : decode cX10_place 16 = .ok (.aload_n 0, 1) := by decide +kernel
theorem dX10_place_17 : decode cX10_place 17 = .ok (.aload_n 0, 1) := by decide +kernel
theorem dX10_place_18 : decode cX10_place 18 = .ok (.getfield 10, 3) := by decide +kernel
theorem dX10_place_21 : decode cX10_place 21 = .ok (.iload 4, 2) := by decide +kernel
theorem dX10_place_23 : decode cX10_place 23 = .ok (.invokevirtual 86, 3) := by decide +kernel
theorem dX10_place_26 : decode cX10_place 26 = .ok (.iload 4, 2) := by decide +kernel
theorem dX10_place_28 : decode cX10_place 28 = .ok (.invokevirtual 90, 3) := by decide +kernel
theorem dX10_place_31 : decode cX10_place 31 = .ok (.aload_n 0, 1) := by decide +kernel
theorem dX10_place_32 : decode cX10_place 32 = .ok (.getfield 25, 3) := by decide +kernel
theorem dX10_place_35 : decode cX10_place 35 = .ok (.aload_n 0, 1) := by decide +kernel
theorem dX10_place_36 : decode cX10_place 36 = .ok (.getfield 10, 3) := by decide +kernel
theorem dX10_place_39 : decode cX10_place 39 = .ok (.invokevirtual 93, 3) := by decide +kernel
theorem dX10_place_42 : decode cX10_place 42 = .ok (.aload_n 0, 1) := by decide +kernel
theorem dX10_place_43 : decode cX10_place 43 = .ok (.getfield 10, 3) := by decide +kernel
theorem dX10_place_46 : decode cX10_place 46 = .ok (.iload 4, 2) := by decide +kernel
theorem dX10_place_48 : decode cX10_place 48 = .ok (.iload_n 3, 1) := by decide +kernel
theorem dX10_place_49 : decode cX10_place 49 = .ok (.invokevirtual 97, 3) := by decide +kernel
theorem dX10_place_52 : decode cX10_place 52 = .ok (.aload_n 0, 1) := by decide +kernel
theorem dX10_place_53 : decode cX10_place 53 = .ok (.getfield 10, 3) := by decide +kernel
theorem dX10_place_56 : decode cX10_place 56 = .ok (.bipush 42, 2) := by decide +kernel
theorem dX10_place_58 : decode cX10_place 58 = .ok (.invokevirtual 101, 3) := by decide +kernel
theorem dX10_place_61 : decode cX10_place 61 = .ok (.ireturn, 1) := by decide +kernel
theorem dX10_remove_0 : decode cX10_remove 0 = .ok (.iload_n 1, 1) := by decide +kernel
theorem dX10_remove_1 : decode cX10_remove 1 = .ok (.iload_n 2, 1) := by decide +kernel
theorem dX10_remove_2 : decode cX10_remove 2 = .ok (.invokestatic 74, 3) := by decide +kernel
theorem dX10_remove_5 : decode cX10_remove 5 = .ok (.iload_n 1, 1) := by decide +kernel
theorem dX10_remove_6 : decode cX10_remove 6 = .ok (.iload_n 2, 1) := by decide +kernel
theorem dX10_remove_7 : decode cX10_remove 7 = .ok (.invokestatic 82, 3) := by decide +kernel
theorem dX10_remove_10 : decode cX10_remove 10 = .ok (.istore_n 3, 1) := by decide +kernel
theorem dX10_remove_11 : decode cX10_remove 11 = .ok (.aload_n 0, 1) := by decide +kernel
theorem dX10_remove_12 : decode cX10_remove 12 = .ok (.aload_n 0, 1) := by decide +kernel
theorem dX10_remove_13 : decode cX10_remove 13 = .ok (.getfield 10, 3) := by decide +kernel
theorem dX10_remove_16 : decode cX10_remove 16 = .ok (.iload_n 3, 1) := by decide +kernel
theorem dX10_remove_17 : decode cX10_remove 17 = .ok (.invokevirtual 105, 3) := by decide +kernel
theorem dX10_remove_20 : decode cX10_remove 20 = .ok (.iload_n 3, 1) := by decide +kernel
theorem dX10_remove_21 : decode cX10_remove 21 = .ok (.invokevirtual 90, 3) := by decide +kernel
theorem dX10_remove_24 : decode cX10_remove 24 = .ok (.aload_n 0, 1) := by decide +kernel
theorem dX10_remove_25 : decode cX10_remove 25 = .ok (.getfield 25, 3) := by decide +kernel
theorem dX10_remove_28 : decode cX10_remove 28 = .ok (.aload_n 0, 1) := by decide +kernel
theorem dX10_remove_29 : decode cX10_remove 29 = .ok (.getfield 10, 3) := by decide +kernel
theorem dX10_remove_32 : decode cX10_remove 32 = .ok (.invokevirtual 93, 3) := by decide +kernel
theorem dX10_remove_35 : decode cX10_remove 35 = .ok (.aload_n 0, 1) := by decide +kernel
theorem dX10_remove_36 : decode cX10_remove 36 = .ok (.getfield 10, 3) := by decide +kernel
theorem dX10_remove_39 : decode cX10_remove 39 = .ok (.iload_n 3, 1) := by decide +kernel
theorem dX10_remove_40 : decode cX10_remove 40 = .ok (.invokevirtual 108, 3) := by decide +kernel
theorem dX10_remove_43 : decode cX10_remove 43 = .ok (.aload_n 0, 1) := by decide +kernel
theorem dX10_remove_44 : decode cX10_remove 44 = .ok (.getfield 10, 3) := by decide +kernel
theorem dX10_remove_47 : decode cX10_remove 47 = .ok (.bipush 42, 2) := by decide +kernel
theorem dX10_remove_49 : decode cX10_remove 49 = .ok (.invokevirtual 101, 3) := by decide +kernel
theorem dX10_remove_52 : decode cX10_remove 52 = .ok (.ireturn, 1) := by decide +kernel
theorem dX10_bleach_0 : decode cX10_bleach 0 = .ok (.iload_n 1, 1) := by decide +kernel
theorem dX10_bleach_1 : decode cX10_bleach 1 = .ok (.iload_n 2, 1) := by decide +kernel
theorem dX10_bleach_2 : decode cX10_bleach 2 = .ok (.invokestatic 74, 3) := by decide +kernel
theorem dX10_bleach_5 : decode cX10_bleach 5 = .ok (.iload_n 1, 1) := by decide +kernel
theorem dX10_bleach_6 : decode cX10_bleach 6 = .ok (.iload_n 2, 1) := by decide +kernel
theorem dX10_bleach_7 : decode cX10_bleach 7 = .ok (.invokestatic 82, 3) := by decide +kernel
theorem dX10_bleach_10 : decode cX10_bleach 10 = .ok (.istore_n 3, 1) := by decide +kernel
theorem dX10_bleach_11 : decode cX10_bleach 11 = .ok (.aload_n 0, 1) := by decide +kernel
theorem dX10_bleach_12 : decode cX10_bleach 12 = .ok (.iload_n 3, 1) := by decide +kernel
theorem dX10_bleach_13 : decode cX10_bleach 13 = .ok (.invokevirtual 112, 3) := by decide +kernel
theorem dX10_bleach_16 : decode cX10_bleach 16 = .ok (.aload_n 0, 1) := by decide +kernel
theorem dX10_bleach_17 : decode cX10_bleach 17 = .ok (.getfield 25, 3) := by decide +kernel
theorem dX10_bleach_20 : decode cX10_bleach 20 = .ok (.aload_n 0, 1) := by decide +kernel
theorem dX10_bleach_21 : decode cX10_bleach 21 = .ok (.getfield 10, 3) := by decide +kernel
theorem dX10_bleach_24 : decode cX10_bleach 24 = .ok (.invokevirtual 93, 3) := by decide +kernel
theorem dX10_bleach_27 : decode cX10_bleach 27 = .ok (.aload_n 0, 1) := by decide +kernel
theorem dX10_bleach_28 : decode cX10_bleach 28 = .ok (.getfield 10, 3) := by decide +kernel
theorem dX10_bleach_31 : decode cX10_bleach 31 = .ok (.iload_n 3, 1) := by decide +kernel
theorem dX10_bleach_32 : decode cX10_bleach 32 = .ok (.invokevirtual 115, 3) := by decide +kernel
theorem dX10_bleach_35 : decode cX10_bleach 35 = .ok (.istore 4, 2) := by decide +kernel
theorem dX10_bleach_37 : decode cX10_bleach 37 = .ok (.aload_n 0, 1) := by decide +kernel
theorem dX10_bleach_38 : decode cX10_bleach 38 = .ok (.getfield 10, 3) := by decide +kernel
theorem dX10_bleach_41 : decode cX10_bleach 41 = .ok (.iload_n 3, 1) := by decide +kernel
theorem dX10_bleach_42 : decode cX10_bleach 42 = .ok (.invokevirtual 118, 3) := by decide +kernel
theorem dX10_bleach_45 : decode cX10_bleach 45 = .ok (.iload 4, 2) := by decide +kernel
theorem dX10_bleach_47 : decode cX10_bleach 47 = .ok (.ireturn, 1) := by decide +kernel
theorem dX10_recolour_0 : decode cX10_recolour 0 = .ok (.iload_n 1, 1) := by decide +kernel
theorem dX10_recolour_1 : decode cX10_recolour 1 = .ok (.iload_n 2, 1) := by decide +kernel
theorem dX10_recolour_2 : decode cX10_recolour 2 = .ok (.invokestatic 74, 3) := by decide +kernel
theorem dX10_recolour_5 : decode cX10_recolour 5 = .ok (.iload_n 3, 1) := by decide +kernel
theorem dX10_recolour_6 : decode cX10_recolour 6 = .ok (.invokestatic 78, 3) := by decide +kernel
theorem dX10_recolour_9 : decode cX10_recolour 9 = .ok (.iload_n 1, 1) := by decide +kernel
theorem dX10_recolour_10 : decode cX10_recolour 10 = .ok (.iload_n 2, 1) := by decide +kernel
theorem dX10_recolour_11 : decode cX10_recolour 11 = .ok (.invokestatic 82, 3) := by decide +kernel
theorem dX10_recolour_14 : decode cX10_recolour 14 = .ok (.istore 4, 2) := by decide +kernel
theorem dX10_recolour_16 : decode cX10_recolour 16 = .ok (.aload_n 0, 1) := by decide +kernel
theorem dX10_recolour_17 : decode cX10_recolour 17 = .ok (.iload 4, 2) := by decide +kernel
theorem dX10_recolour_19 : decode cX10_recolour 19 = .ok (.invokevirtual 112, 3) := by decide +kernel
theorem dX10_recolour_22 : decode cX10_recolour 22 = .ok (.aload_n 0, 1) := by decide +kernel
theorem dX10_recolour_23 : decode cX10_recolour 23 = .ok (.getfield 25, 3) := by decide +kernel
theorem dX10_recolour_26 : decode cX10_recolour 26 = .ok (.aload_n 0, 1) := by decide +kernel
theorem dX10_recolour_27 : decode cX10_recolour 27 = .ok (.getfield 10, 3) := by decide +kernel
theorem dX10_recolour_30 : decode cX10_recolour 30 = .ok (.invokevirtual 93, 3) := by decide +kernel
theorem dX10_recolour_33 : decode cX10_recolour 33 = .ok (.aload_n 0, 1) := by decide +kernel
theorem dX10_recolour_34 : decode cX10_recolour 34 = .ok (.getfield 10, 3) := by decide +kernel
theorem dX10_recolour_37 : decode cX10_recolour 37 = .ok (.iload 4, 2) := by decide +kernel
theorem dX10_recolour_39 : decode cX10_recolour 39 = .ok (.invokevirtual 121, 3) := by decide +kernel
theorem dX10_recolour_42 : decode cX10_recolour 42 = .ok (.istore 5, 2) := by decide +kernel
theorem dX10_recolour_44 : decode cX10_recolour 44 = .ok (.aload_n 0, 1) := by decide +kernel
theorem dX10_recolour_45 : decode cX10_recolour 45 = .ok (.getfield 10, 3) := by decide +kernel
theorem dX10_recolour_48 : decode cX10_recolour 48 = .ok (.iload 4, 2) := by decide +kernel
theorem dX10_recolour_50 : decode cX10_recolour 50 = .ok (.iload_n 3, 1) := by decide +kernel
theorem dX10_recolour_51 : decode cX10_recolour 51 = .ok (.invokevirtual 125, 3) := by decide +kernel
theorem dX10_recolour_54 : decode cX10_recolour 54 = .ok (.iload 5, 2) := by decide +kernel
theorem dX10_recolour_56 : decode cX10_recolour 56 = .ok (.ireturn, 1) := by decide +kernel
theorem dX10_plant_0 : decode cX10_plant 0 = .ok (.iload_n 1, 1) := by decide +kernel
theorem dX10_plant_1 : decode cX10_plant 1 = .ok (.iload_n 2, 1) := by decide +kernel
theorem dX10_plant_2 : decode cX10_plant 2 = .ok (.invokestatic 74, 3) := by decide +kernel
theorem dX10_plant_5 : decode cX10_plant 5 = .ok (.iload_n 3, 1) := by decide +kernel
theorem dX10_plant_6 : decode cX10_plant 6 = .ok (.invokestatic 128, 3) := by decide +kernel
theorem dX10_plant_9 : decode cX10_plant 9 = .ok (.astore 5, 2) := by decide +kernel
theorem dX10_plant_11 : decode cX10_plant 11 = .ok (.aload 5, 2) := by decide +kernel
theorem dX10_plant_13 : decode cX10_plant 13 = .ok (.ifnonnull 13, 3) := by decide +kernel
theorem dX10_plant_16 : decode cX10_plant 16 = .ok (.new 132, 3) := by decide +kernel
theorem dX10_plant_19 : decode cX10_plant 19 = .ok (.dup, 1) := by decide +kernel
theorem dX10_plant_20 : decode cX10_plant 20 = .ok (.ldc 134, 2) := by decide +kernel
theorem dX10_plant_22 : decode cX10_plant 22 = .ok (.invokespecial 136, 3) := by decide +kernel
theorem dX10_plant_25 : decode cX10_plant 25 = .ok (.athrow, 1) := by decide +kernel
theorem dX10_plant_26 : decode cX10_plant 26 = .ok (.iload 4, 2) := by decide +kernel
theorem dX10_plant_28 : decode cX10_plant 28 = .ok (.invokestatic 78, 3) := by decide +kernel
theorem dX10_plant_31 : decode cX10_plant 31 = .ok (.aload_n 0, 1) := by decide +kernel
theorem dX10_plant_32 : decode cX10_plant 32 = .ok (.getfield 10, 3) := by decide +kernel
theorem dX10_plant_35 : decode cX10_plant 35 = .ok (.iload_n 1, 1) := by decide +kernel
theorem dX10_plant_36 : decode cX10_plant 36 = .ok (.iload_n 2, 1) := by decide +kernel
theorem dX10_plant_37 : decode cX10_plant 37 = .ok (.aload 5, 2) := by decide +kernel
theorem dX10_plant_39 : decode cX10_plant 39 = .ok (.invokevirtual 139, 3) := by decide +kernel
theorem dX10_plant_42 : decode cX10_plant 42 = .ok (.istore 6, 2) := by decide +kernel
theorem dX10_plant_44 : decode cX10_plant 44 = .ok (.aload_n 0, 1) := by decide +kernel
theorem dX10_plant_45 : decode cX10_plant 45 = .ok (.iload 6, 2) := by decide +kernel
theorem dX10_plant_47 : decode cX10_plant 47 = .ok (.iload 6, 2) := by decide +kernel
theorem dX10_plant_49 : decode cX10_plant 49 = .ok (.iconst 4, 1) := by decide +kernel
theorem dX10_plant_50 : decode cX10_plant 50 = .ok (.if_icmp .ne 11, 3) := by decide +kernel
theorem dX10_plant_53 : decode cX10_plant 53 = .ok (.aload 5, 2) := by decide +kernel
theorem dX10_plant_55 : decode cX10_plant 55 = .ok (.invokevirtual 143, 3) := by decide +kernel
theorem dX10_plant_58 : decode cX10_plant 58 = .ok (.goto 14, 3) := by decide +kernel
theorem dX10_plant_61 : decode cX10_plant 61 = .ok (.aload_n 0, 1) := by decide +kernel
theorem dX10_plant_62 : decode cX10_plant 62 = .ok (.getfield 10, 3) := by decide +kernel
theorem dX10_plant_65 : decode cX10_plant 65 = .ok (.iload_n 1, 1) := by decide +kernel
theorem dX10_plant_66 : decode cX10_plant 66 = .ok (.iload_n 2, 1) := by decide +kernel
theorem dX10_plant_67 : decode cX10_plant 67 = .ok (.aload 5, 2) := by decide +kernel
theorem dX10_plant_69 : decode cX10_plant 69 = .ok (.invokevirtual 149, 3) := by decide +kernel
theorem dX10_plant_72 : decode cX10_plant 72 = .ok (.invokevirtual 90, 3) := by decide +kernel
theorem dX10_plant_75 : decode cX10_plant 75 = .ok (.aload_n 0, 1) := by decide +kernel
theorem dX10_plant_76 : decode cX10_plant 76 = .ok (.getfield 25, 3) := by decide +kernel
theorem dX10_plant_79 : decode cX10_plant 79 = .ok (.aload_n 0, 1) := by decide +kernel
theorem dX10_plant_80 : decode cX10_plant 80 = .ok (.getfield 10, 3) := by decide +kernel
theorem dX10_plant_83 : decode cX10_plant 83 = .ok (.invokevirtual 93, 3) := by decide +kernel
theorem dX10_plant_86 : decode cX10_plant 86 = .ok (.aload_n 0, 1) := by decide +kernel
theorem dX10_plant_87 : decode cX10_plant 87 = .ok (.getfield 10, 3) := by decide +kernel
theorem dX10_plant_90 : decode cX10_plant 90 = .ok (.iload_n 1, 1) := by decide +kernel
theorem dX10_plant_91 : decode cX10_plant 91 = .ok (.iload_n 2, 1) := by decide +kernel
theorem dX10_plant_92 : decode cX10_plant 92 = .ok (.aload 5, 2) := by decide +kernel
theorem dX10_plant_94 : decode cX10_plant 94 = .ok (.iload 4, 2) := by decide +kernel
theorem dX10_plant_96 : decode cX10_plant 96 = .ok (.invokevirtual 152, 3) := by decide +kernel
theorem dX10_plant_99 : decode cX10_plant 99 = .ok (.aload 5, 2) := by decide +kernel
theorem dX10_plant_101 : decode cX10_plant 101 = .ok (.invokevirtual 143, 3) := by decide +kernel
theorem dX10_plant_104 : decode cX10_plant 104 = .ok (.ireturn, 1) := by decide +kernel
theorem dX10_setRule_0 : decode cX10_setRule 0 = .ok (.iload_n 1, 1) := by decide +kernel
theorem dX10_setRule_1 : decode cX10_setRule 1 = .ok (.invokestatic 156, 3) := by decide +kernel
theorem dX10_setRule_4 : decode cX10_setRule 4 = .ok (.astore_n 2, 1) := by decide +kernel
theorem dX10_setRule_5 : decode cX10_setRule 5 = .ok (.aload_n 2, 1) := by decide +kernel
theorem dX10_setRule_6 : decode cX10_setRule 6 = .ok (.ifnonnull 13, 3) := by decide +kernel
theorem dX10_setRule_9 : decode cX10_setRule 9 = .ok (.new 132, 3) := by decide +kernel
theorem dX10_setRule_12 : decode cX10_setRule 12 = .ok (.dup, 1) := by decide +kernel
theorem dX10_setRule_13 : decode cX10_setRule 13 = .ok (.ldc 160, 2) := by decide +kernel
theorem dX10_setRule_15 : decode cX10_setRule 15 = .ok (.invokespecial 136, 3) := by decide +kernel
theorem dX10_setRule_18 : decode cX10_setRule 18 = .ok (.athrow, 1) := by decide +kernel
theorem dX10_setRule_19 : decode cX10_setRule 19 = .ok (.aload_n 0, 1) := by decide +kernel
theorem dX10_setRule_20 : decode cX10_setRule 20 = .ok (.aload_n 0, 1) := by decide +kernel
theorem dX10_setRule_21 : decode cX10_setRule 21 = .ok (.getfield 10, 3) := by decide +kernel
theorem dX10_setRule_24 : decode cX10_setRule 24 = .ok (.aload_n 2, 1) := by decide +kernel
theorem dX10_setRule_25 : decode cX10_setRule 25 = .ok (.invokevirtual 162, 3) := by decide +kernel
theorem dX10_setRule_28 : decode cX10_setRule 28 = .ok (.aload_n 0, 1) := by decide +kernel
theorem dX10_setRule_29 : decode cX10_setRule 29 = .ok (.getfield 10, 3) := by decide +kernel
theorem dX10_setRule_32 : decode cX10_setRule 32 = .ok (.getfield 166, 3) := by decide +kernel
theorem dX10_setRule_35 : decode cX10_setRule 35 = .ok (.invokevirtual 90, 3) := by decide +kernel
theorem dX10_setRule_38 : decode cX10_setRule 38 = .ok (.aload_n 0, 1) := by decide +kernel
theorem dX10_setRule_39 : decode cX10_setRule 39 = .ok (.getfield 25, 3) := by decide +kernel
theorem dX10_setRule_42 : decode cX10_setRule 42 = .ok (.aload_n 0, 1) := by decide +kernel
theorem dX10_setRule_43 : decode cX10_setRule 43 = .ok (.getfield 10, 3) := by decide +kernel
theorem dX10_setRule_46 : decode cX10_setRule 46 = .ok (.invokevirtual 93, 3) := by decide +kernel
theorem dX10_setRule_49 : decode cX10_setRule 49 = .ok (.aload_n 0, 1) := by decide +kernel
theorem dX10_setRule_50 : decode cX10_setRule 50 = .ok (.invokevirtual 169, 3) := by decide +kernel
theorem dX10_setRule_53 : decode cX10_setRule 53 = .ok (.istore_n 3, 1) := by decide +kernel
theorem dX10_setRule_54 : decode cX10_setRule 54 = .ok (.aload_n 0, 1) := by decide +kernel
theorem dX10_setRule_55 : decode cX10_setRule 55 = .ok (.getfield 10, 3) := by decide +kernel
theorem dX10_setRule_58 : decode cX10_setRule 58 = .ok (.aload_n 2, 1) := by decide +kernel
theorem dX10_setRule_59 : decode cX10_setRule 59 = .ok (.putfield 173, 3) := by decide +kernel
theorem dX10_setRule_62 : decode cX10_setRule 62 = .ok (.iload_n 3, 1) := by decide +kernel
theorem dX10_setRule_63 : decode cX10_setRule 63 = .ok (.ireturn, 1) := by decide +kernel
theorem dX10_isEmpty_0 : decode cX10_isEmpty 0 = .ok (.iload_n 1, 1) := by decide +kernel
theorem dX10_isEmpty_1 : decode cX10_isEmpty 1 = .ok (.iload_n 2, 1) := by decide +kernel
theorem dX10_isEmpty_2 : decode cX10_isEmpty 2 = .ok (.invokestatic 74, 3) := by decide +kernel
theorem dX10_isEmpty_5 : decode cX10_isEmpty 5 = .ok (.aload_n 0, 1) := by decide +kernel
theorem dX10_isEmpty_6 : decode cX10_isEmpty 6 = .ok (.getfield 10, 3) := by decide +kernel
theorem dX10_isEmpty_9 : decode cX10_isEmpty 9 = .ok (.iload_n 1, 1) := by decide +kernel
theorem dX10_isEmpty_10 : decode cX10_isEmpty 10 = .ok (.iload_n 2, 1) := by decide +kernel
theorem dX10_isEmpty_11 : decode cX10_isEmpty 11 = .ok (.invokestatic 82, 3) := by decide +kernel
theorem dX10_isEmpty_14 : decode cX10_isEmpty 14 = .ok (.invokevirtual 121, 3) := by decide +kernel
theorem dX10_isEmpty_17 : decode cX10_isEmpty 17 = .ok (.ifCond .ne 7, 3) := by decide +kernel
theorem dX10_isEmpty_20 : decode cX10_isEmpty 20 = .ok (.iconst 1, 1) := by decide +kernel
theorem dX10_isEmpty_21 : decode cX10_isEmpty 21 = .ok (.goto 4, 3) := by decide +kernel
theorem dX10_isEmpty_24 : decode cX10_isEmpty 24 = .ok (.iconst 0, 1) := by decide +kernel
theorem dX10_isEmpty_25 : decode cX10_isEmpty 25 = .ok (.ireturn, 1) := by decide +kernel
theorem dX10_isLiving_0 : decode cX10_isLiving 0 = .ok (.iload_n 1, 1) := by decide +kernel
theorem dX10_isLiving_1 : decode cX10_isLiving 1 = .ok (.iload_n 2, 1) := by decide +kernel
theorem dX10_isLiving_2 : decode cX10_isLiving 2 = .ok (.invokestatic 74, 3) := by decide +kernel
theorem dX10_isLiving_5 : decode cX10_isLiving 5 = .ok (.aload_n 0, 1) := by decide +kernel
theorem dX10_isLiving_6 : decode cX10_isLiving 6 = .ok (.getfield 10, 3) := by decide +kernel
theorem dX10_isLiving_9 : decode cX10_isLiving 9 = .ok (.iload_n 1, 1) := by decide +kernel
theorem dX10_isLiving_10 : decode cX10_isLiving 10 = .ok (.iload_n 2, 1) := by decide +kernel
theorem dX10_isLiving_11 : decode cX10_isLiving 11 = .ok (.invokestatic 82, 3) := by decide +kernel
theorem dX10_isLiving_14 : decode cX10_isLiving 14 = .ok (.invokevirtual 121, 3) := by decide +kernel
theorem dX10_isLiving_17 : decode cX10_isLiving 17 = .ok (.invokestatic 176, 3) := by decide +kernel
theorem dX10_isLiving_20 : decode cX10_isLiving 20 = .ok (.ireturn, 1) := by decide +kernel
theorem dX10_isBleached_0 : decode cX10_isBleached 0 = .ok (.iload_n 1, 1) := by decide +kernel
theorem dX10_isBleached_1 : decode cX10_isBleached 1 = .ok (.iload_n 2, 1) := by decide +kernel
theorem dX10_isBleached_2 : decode cX10_isBleached 2 = .ok (.invokestatic 74, 3) := by decide +kernel
theorem dX10_isBleached_5 : decode cX10_isBleached 5 = .ok (.aload_n 0, 1) := by decide +kernel
theorem dX10_isBleached_6 : decode cX10_isBleached 6 = .ok (.getfield 10, 3) := by decide +kernel
theorem dX10_isBleached_9 : decode cX10_isBleached 9 = .ok (.iload_n 1, 1) := by decide +kernel
theorem dX10_isBleached_10 : decode cX10_isBleached 10 = .ok (.iload_n 2, 1) := by decide +kernel
theorem dX10_isBleached_11 : decode cX10_isBleached 11 = .ok (.invokestatic 82, 3) := by decide +kernel
theorem dX10_isBleached_14 : decode cX10_isBleached 14 = .ok (.invokevirtual 121, 3) := by decide +kernel
theorem dX10_isBleached_17 : decode cX10_isBleached 17 = .ok (.bipush 35, 2) := by decide +kernel
theorem dX10_isBleached_19 : decode cX10_isBleached 19 = .ok (.if_icmp .ne 7, 3) := by decide +kernel
theorem dX10_isBleached_22 : decode cX10_isBleached 22 = .ok (.iconst 1, 1) := by decide +kernel
theorem dX10_isBleached_23 : decode cX10_isBleached 23 = .ok (.goto 4, 3) := by decide +kernel
theorem dX10_isBleached_26 : decode cX10_isBleached 26 = .ok (.iconst 0, 1) := by decide +kernel
theorem dX10_isBleached_27 : decode cX10_isBleached 27 = .ok (.ireturn, 1) := by decide +kernel
theorem dX10_colourAt_0 : decode cX10_colourAt 0 = .ok (.iload_n 1, 1) := by decide +kernel
theorem dX10_colourAt_1 : decode cX10_colourAt 1 = .ok (.iload_n 2, 1) := by decide +kernel
theorem dX10_colourAt_2 : decode cX10_colourAt 2 = .ok (.invokestatic 74, 3) := by decide +kernel
theorem dX10_colourAt_5 : decode cX10_colourAt 5 = .ok (.aload_n 0, 1) := by decide +kernel
theorem dX10_colourAt_6 : decode cX10_colourAt 6 = .ok (.iload_n 1, 1) := by decide +kernel
theorem dX10_colourAt_7 : decode cX10_colourAt 7 = .ok (.iload_n 2, 1) := by decide +kernel
theorem dX10_colourAt_8 : decode cX10_colourAt 8 = .ok (.invokevirtual 180, 3) := by decide +kernel
theorem dX10_colourAt_11 : decode cX10_colourAt 11 = .ok (.aload_n 0, 1) := by decide +kernel
theorem dX10_colourAt_12 : decode cX10_colourAt 12 = .ok (.getfield 10, 3) := by decide +kernel
theorem dX10_colourAt_15 : decode cX10_colourAt 15 = .ok (.iload_n 1, 1) := by decide +kernel
theorem dX10_colourAt_16 : decode cX10_colourAt 16 = .ok (.iload_n 2, 1) := by decide +kernel
theorem dX10_colourAt_17 : decode cX10_colourAt 17 = .ok (.invokestatic 82, 3) := by decide +kernel
theorem dX10_colourAt_20 : decode cX10_colourAt 20 = .ok (.invokevirtual 121, 3) := by decide +kernel
theorem dX10_colourAt_23 : decode cX10_colourAt 23 = .ok (.ireturn, 1) := by decide +kernel
theorem dX10_ageAt_0 : decode cX10_ageAt 0 = .ok (.iload_n 1, 1) := by decide +kernel
theorem dX10_ageAt_1 : decode cX10_ageAt 1 = .ok (.iload_n 2, 1) := by decide +kernel
theorem dX10_ageAt_2 : decode cX10_ageAt 2 = .ok (.invokestatic 74, 3) := by decide +kernel
theorem dX10_ageAt_5 : decode cX10_ageAt 5 = .ok (.aload_n 0, 1) := by decide +kernel
theorem dX10_ageAt_6 : decode cX10_ageAt 6 = .ok (.iload_n 1, 1) := by decide +kernel
theorem dX10_ageAt_7 : decode cX10_ageAt 7 = .ok (.iload_n 2, 1) := by decide +kernel
theorem dX10_ageAt_8 : decode cX10_ageAt 8 = .ok (.invokevirtual 180, 3) := by decide +kernel
theorem dX10_ageAt_11 : decode cX10_ageAt 11 = .ok (.aload_n 0, 1) := by decide +kernel
theorem dX10_ageAt_12 : decode cX10_ageAt 12 = .ok (.getfield 10, 3) := by decide +kernel
theorem dX10_ageAt_15 : decode cX10_ageAt 15 = .ok (.iload_n 1, 1) := by decide +kernel
theorem dX10_ageAt_16 : decode cX10_ageAt 16 = .ok (.iload_n 2, 1) := by decide +kernel
theorem dX10_ageAt_17 : decode cX10_ageAt 17 = .ok (.invokestatic 82, 3) := by decide +kernel
theorem dX10_ageAt_20 : decode cX10_ageAt 20 = .ok (.invokevirtual 115, 3) := by decide +kernel
theorem dX10_ageAt_23 : decode cX10_ageAt 23 = .ok (.ireturn, 1) := by decide +kernel
theorem dX10_neighbours_0 : decode cX10_neighbours 0 = .ok (.iload_n 1, 1) := by decide +kernel
theorem dX10_neighbours_1 : decode cX10_neighbours 1 = .ok (.iload_n 2, 1) := by decide +kernel
theorem dX10_neighbours_2 : decode cX10_neighbours 2 = .ok (.invokestatic 74, 3) := by decide +kernel
theorem dX10_neighbours_5 : decode cX10_neighbours 5 = .ok (.aload_n 0, 1) := by decide +kernel
theorem dX10_neighbours_6 : decode cX10_neighbours 6 = .ok (.getfield 10, 3) := by decide +kernel
theorem dX10_neighbours_9 : decode cX10_neighbours 9 = .ok (.iload_n 1, 1) := by decide +kernel
theorem dX10_neighbours_10 : decode cX10_neighbours 10 = .ok (.iload_n 2, 1) := by decide +kernel
theorem dX10_neighbours_11 : decode cX10_neighbours 11 = .ok (.invokestatic 82, 3) := by decide +kernel
theorem dX10_neighbours_14 : decode cX10_neighbours 14 = .ok (.bipush 42, 2) := by decide +kernel
theorem dX10_neighbours_16 : decode cX10_neighbours 16 = .ok (.invokevirtual 183, 3) := by decide +kernel
theorem dX10_neighbours_19 : decode cX10_neighbours 19 = .ok (.ireturn, 1) := by decide +kernel
theorem dX10_neighboursOf_0 : decode cX10_neighboursOf 0 = .ok (.iload_n 1, 1) := by decide +kernel
theorem dX10_neighboursOf_1 : decode cX10_neighboursOf 1 = .ok (.iload_n 2, 1) := by decide +kernel
theorem dX10_neighboursOf_2 : decode cX10_neighboursOf 2 = .ok (.invokestatic 74, 3) := by decide +kernel
theorem dX10_neighboursOf_5 : decode cX10_neighboursOf 5 = .ok (.iload_n 3, 1) := by decide +kernel
theorem dX10_neighboursOf_6 : decode cX10_neighboursOf 6 = .ok (.invokestatic 78, 3) := by decide +kernel
theorem dX10_neighboursOf_9 : decode cX10_neighboursOf 9 = .ok (.aload_n 0, 1) := by decide +kernel
theorem dX10_neighboursOf_10 : decode cX10_neighboursOf 10 = .ok (.getfield 10, 3) := by decide +kernel
theorem dX10_neighboursOf_13 : decode cX10_neighboursOf 13 = .ok (.iload_n 1, 1) := by decide +kernel
theorem dX10_neighboursOf_14 : decode cX10_neighboursOf 14 = .ok (.iload_n 2, 1) := by decide +kernel
theorem dX10_neighboursOf_15 : decode cX10_neighboursOf 15 = .ok (.invokestatic 82, 3) := by decide +kernel
theorem dX10_neighboursOf_18 : decode cX10_neighboursOf 18 = .ok (.iload_n 3, 1) := by decide +kernel
theorem dX10_neighboursOf_19 : decode cX10_neighboursOf 19 = .ok (.invokevirtual 183, 3) := by decide +kernel
theorem dX10_neighboursOf_22 : decode cX10_neighboursOf 22 = .ok (.ireturn, 1) := by decide +kernel
theorem dX10_birthColour_0 : decode cX10_birthColour 0 = .ok (.iload_n 1, 1) := by decide +kernel
theorem dX10_birthColour_1 : decode cX10_birthColour 1 = .ok (.iload_n 2, 1) := by decide +kernel
theorem dX10_birthColour_2 : decode cX10_birthColour 2 = .ok (.invokestatic 74, 3) := by decide +kernel
theorem dX10_birthColour_5 : decode cX10_birthColour 5 = .ok (.aload_n 0, 1) := by decide +kernel
theorem dX10_birthColour_6 : decode cX10_birthColour 6 = .ok (.getfield 10, 3) := by decide +kernel
theorem dX10_birthColour_9 : decode cX10_birthColour 9 = .ok (.iload_n 1, 1) := by decide +kernel
theorem dX10_birthColour_10 : decode cX10_birthColour 10 = .ok (.iload_n 2, 1) := by decide +kernel
theorem dX10_birthColour_11 : decode cX10_birthColour 11 = .ok (.invokestatic 82, 3) := by decide +kernel
theorem dX10_birthColour_14 : decode cX10_birthColour 14 = .ok (.invokevirtual 187, 3) := by decide +kernel
theorem dX10_birthColour_17 : decode cX10_birthColour 17 = .ok (.istore_n 3, 1) := by decide +kernel
theorem dX10_birthColour_18 : decode cX10_birthColour 18 = .ok (.iload_n 3, 1) := by decide +kernel
theorem dX10_birthColour_19 : decode cX10_birthColour 19 = .ok (.ifCond .ne 13, 3) := by decide +kernel
theorem dX10_birthColour_22 : decode cX10_birthColour 22 = .ok (.new 190, 3) := by decide +kernel
theorem dX10_birthColour_25 : decode cX10_birthColour 25 = .ok (.dup, 1) := by decide +kernel
theorem dX10_birthColour_26 : decode cX10_birthColour 26 = .ok (.ldc 192, 2) := by decide +kernel
theorem dX10_birthColour_28 : decode cX10_birthColour 28 = .ok (.invokespecial 194, 3) := by decide +kernel
theorem dX10_birthColour_31 : decode cX10_birthColour 31 = .ok (.athrow, 1) := by decide +kernel
theorem dX10_birthColour_32 : decode cX10_birthColour 32 = .ok (.iload_n 3, 1) := by decide +kernel
theorem dX10_birthColour_33 : decode cX10_birthColour 33 = .ok (.ireturn, 1) := by decide +kernel
theorem dX10_livingCount_0 : decode cX10_livingCount 0 = .ok (.aload_n 0, 1) := by decide +kernel
theorem dX10_livingCount_1 : decode cX10_livingCount 1 = .ok (.getfield 10, 3) := by decide +kernel
theorem dX10_livingCount_4 : decode cX10_livingCount 4 = .ok (.bipush 42, 2) := by decide +kernel
theorem dX10_livingCount_6 : decode cX10_livingCount 6 = .ok (.invokevirtual 101, 3) := by decide +kernel
theorem dX10_livingCount_9 : decode cX10_livingCount 9 = .ok (.ireturn, 1) := by decide +kernel
theorem dX10_bleachedCount_0 : decode cX10_bleachedCount 0 = .ok (.aload_n 0, 1) := by decide +kernel
theorem dX10_bleachedCount_1 : decode cX10_bleachedCount 1 = .ok (.getfield 10, 3) := by decide +kernel
theorem dX10_bleachedCount_4 : decode cX10_bleachedCount 4 = .ok (.bipush 35, 2) := by decide +kernel
theorem dX10_bleachedCount_6 : decode cX10_bleachedCount 6 = .ok (.invokevirtual 101, 3) := by decide +kernel
theorem dX10_bleachedCount_9 : decode cX10_bleachedCount 9 = .ok (.ireturn, 1) := by decide +kernel
theorem dX10_countOf_0 : decode cX10_countOf 0 = .ok (.iload_n 1, 1) := by decide +kernel
theorem dX10_countOf_1 : decode cX10_countOf 1 = .ok (.invokestatic 78, 3) := by decide +kernel
theorem dX10_countOf_4 : decode cX10_countOf 4 = .ok (.aload_n 0, 1) := by decide +kernel
theorem dX10_countOf_5 : decode cX10_countOf 5 = .ok (.getfield 10, 3) := by decide +kernel
theorem dX10_countOf_8 : decode cX10_countOf 8 = .ok (.iload_n 1, 1) := by decide +kernel
theorem dX10_countOf_9 : decode cX10_countOf 9 = .ok (.invokevirtual 101, 3) := by decide +kernel
theorem dX10_countOf_12 : decode cX10_countOf 12 = .ok (.ireturn, 1) := by decide +kernel
theorem dX10_islandCount_0 : decode cX10_islandCount 0 = .ok (.aload_n 0, 1) := by decide +kernel
theorem dX10_islandCount_1 : decode cX10_islandCount 1 = .ok (.getfield 39, 3) := by decide +kernel
theorem dX10_islandCount_4 : decode cX10_islandCount 4 = .ok (.aload_n 0, 1) := by decide +kernel
theorem dX10_islandCount_5 : decode cX10_islandCount 5 = .ok (.getfield 10, 3) := by decide +kernel
theorem dX10_islandCount_8 : decode cX10_islandCount 8 = .ok (.bipush 42, 2) := by decide +kernel
theorem dX10_islandCount_10 : decode cX10_islandCount 10 = .ok (.invokevirtual 195, 3) := by decide +kernel
theorem dX10_islandCount_13 : decode cX10_islandCount 13 = .ok (.ireturn, 1) := by decide +kernel
theorem dX10_islandCountByMerging_0 : decode cX10_islandCountByMerging 0 = .ok (.aload_n 0, 1) := by decide +kernel
theorem dX10_islandCountByMerging_1 : decode cX10_islandCountByMerging 1 = .ok (.getfield 39, 3) := by decide +kernel
theorem dX10_islandCountByMerging_4 : decode cX10_islandCountByMerging 4 = .ok (.aload_n 0, 1) := by decide +kernel
theorem dX10_islandCountByMerging_5 : decode cX10_islandCountByMerging 5 = .ok (.getfield 10, 3) := by decide +kernel
theorem dX10_islandCountByMerging_8 : decode cX10_islandCountByMerging 8 = .ok (.invokevirtual 199, 3) := by decide +kernel
theorem dX10_islandCountByMerging_11 : decode cX10_islandCountByMerging 11 = .ok (.ireturn, 1) := by decide +kernel
theorem dX10_islandSize_0 : decode cX10_islandSize 0 = .ok (.iload_n 1, 1) := by decide +kernel
theorem dX10_islandSize_1 : decode cX10_islandSize 1 = .ok (.iload_n 2, 1) := by decide +kernel
theorem dX10_islandSize_2 : decode cX10_islandSize 2 = .ok (.invokestatic 74, 3) := by decide +kernel
theorem dX10_islandSize_5 : decode cX10_islandSize 5 = .ok (.aload_n 0, 1) := by decide +kernel
theorem dX10_islandSize_6 : decode cX10_islandSize 6 = .ok (.iload_n 1, 1) := by decide +kernel
theorem dX10_islandSize_7 : decode cX10_islandSize 7 = .ok (.iload_n 2, 1) := by decide +kernel
theorem dX10_islandSize_8 : decode cX10_islandSize 8 = .ok (.invokevirtual 180, 3) := by decide +kernel
theorem dX10_islandSize_11 : decode cX10_islandSize 11 = .ok (.aload_n 0, 1) := by decide +kernel
theorem dX10_islandSize_12 : decode cX10_islandSize 12 = .ok (.getfield 39, 3) := by decide +kernel
theorem dX10_islandSize_15 : decode cX10_islandSize 15 = .ok (.aload_n 0, 1) := by decide +kernel
theorem dX10_islandSize_16 : decode cX10_islandSize 16 = .ok (.getfield 10, 3) := by decide +kernel
theorem dX10_islandSize_19 : decode cX10_islandSize 19 = .ok (.bipush 42, 2) := by decide +kernel
theorem dX10_islandSize_21 : decode cX10_islandSize 21 = .ok (.invokevirtual 195, 3) := by decide +kernel
theorem dX10_islandSize_24 : decode cX10_islandSize 24 = .ok (.pop, 1) := by decide +kernel
theorem dX10_islandSize_25 : decode cX10_islandSize 25 = .ok (.aload_n 0, 1) := by decide +kernel
theorem dX10_islandSize_26 : decode cX10_islandSize 26 = .ok (.getfield 39, 3) := by decide +kernel
theorem dX10_islandSize_29 : decode cX10_islandSize 29 = .ok (.aload_n 0, 1) := by decide +kernel
theorem dX10_islandSize_30 : decode cX10_islandSize 30 = .ok (.getfield 39, 3) := by decide +kernel
theorem dX10_islandSize_33 : decode cX10_islandSize 33 = .ok (.iload_n 1, 1) := by decide +kernel
theorem dX10_islandSize_34 : decode cX10_islandSize 34 = .ok (.iload_n 2, 1) := by decide +kernel
theorem dX10_islandSize_35 : decode cX10_islandSize 35 = .ok (.invokestatic 82, 3) := by decide +kernel
theorem dX10_islandSize_38 : decode cX10_islandSize 38 = .ok (.invokevirtual 203, 3) := by decide +kernel
theorem dX10_islandSize_41 : decode cX10_islandSize 41 = .ok (.invokevirtual 206, 3) := by decide +kernel
theorem dX10_islandSize_44 : decode cX10_islandSize 44 = .ok (.ireturn, 1) := by decide +kernel
theorem dX10_largestIsland_0 : decode cX10_largestIsland 0 = .ok (.aload_n 0, 1) := by decide +kernel
theorem dX10_largestIsland_1 : decode cX10_largestIsland 1 = .ok (.getfield 39, 3) := by decide +kernel
theorem dX10_largestIsland_4 : decode cX10_largestIsland 4 = .ok (.aload_n 0, 1) := by decide +kernel
theorem dX10_largestIsland_5 : decode cX10_largestIsland 5 = .ok (.getfield 10, 3) := by decide +kernel
theorem dX10_largestIsland_8 : decode cX10_largestIsland 8 = .ok (.bipush 42, 2) := by decide +kernel
theorem dX10_largestIsland_10 : decode cX10_largestIsland 10 = .ok (.invokevirtual 195, 3) := by decide +kernel
theorem dX10_largestIsland_13 : decode cX10_largestIsland 13 = .ok (.istore_n 1, 1) := by decide +kernel
theorem dX10_largestIsland_14 : decode cX10_largestIsland 14 = .ok (.iconst 0, 1) := by decide +kernel
theorem dX10_largestIsland_15 : decode cX10_largestIsland 15 = .ok (.istore_n 2, 1) := by decide +kernel
theorem dX10_largestIsland_16 : decode cX10_largestIsland 16 = .ok (.iconst 1, 1) := by decide +kernel
theorem dX10_largestIsland_17 : decode cX10_largestIsland 17 = .ok (.istore_n 3, 1) := by decide +kernel
theorem dX10_largestIsland_18 : decode cX10_largestIsland 18 = .ok (.iload_n 3, 1) := by decide +kernel
theorem dX10_largestIsland_19 : decode cX10_largestIsland 19 = .ok (.iload_n 1, 1) := by decide +kernel
theorem dX10_largestIsland_20 : decode cX10_largestIsland 20 = .ok (.if_icmp .gt 22, 3) := by decide +kernel
theorem dX10_largestIsland_23 : decode cX10_largestIsland 23 = .ok (.iload_n 2, 1) := by decide +kernel
theorem dX10_largestIsland_24 : decode cX10_largestIsland 24 = .ok (.aload_n 0, 1) := by decide +kernel
theorem dX10_largestIsland_25 : decode cX10_largestIsland 25 = .ok (.getfield 39, 3) := by decide +kernel
theorem dX10_largestIsland_28 : decode cX10_largestIsland 28 = .ok (.iload_n 3, 1) := by decide +kernel
theorem dX10_largestIsland_29 : decode cX10_largestIsland 29 = .ok (.invokevirtual 206, 3) := by decide +kernel
theorem dX10_largestIsland_32 : decode cX10_largestIsland 32 = .ok (.invokestatic 209, 3) := by decide +kernel
theorem dX10_largestIsland_35 : decode cX10_largestIsland 35 = .ok (.istore_n 2, 1) := by decide +kernel
theorem dX10_largestIsland_36 : decode cX10_largestIsland 36 = .ok (.iinc 3 1, 3) := by decide +kernel
theorem dX10_largestIsland_39 : decode cX10_largestIsland 39 = .ok (.goto (-21), 3) := by decide +kernel
theorem dX10_largestIsland_42 : decode cX10_largestIsland 42 = .ok (.iload_n 2, 1) := by decide +kernel
theorem dX10_largestIsland_43 : decode cX10_largestIsland 43 = .ok (.ireturn, 1) := by decide +kernel
theorem dX10_islandsOf_0 : decode cX10_islandsOf 0 = .ok (.iload_n 1, 1) := by decide +kernel
theorem dX10_islandsOf_1 : decode cX10_islandsOf 1 = .ok (.invokestatic 78, 3) := by decide +kernel
theorem dX10_islandsOf_4 : decode cX10_islandsOf 4 = .ok (.aload_n 0, 1) := by decide +kernel
theorem dX10_islandsOf_5 : decode cX10_islandsOf 5 = .ok (.getfield 39, 3) := by decide +kernel
theorem dX10_islandsOf_8 : decode cX10_islandsOf 8 = .ok (.aload_n 0, 1) := by decide +kernel
theorem dX10_islandsOf_9 : decode cX10_islandsOf 9 = .ok (.getfield 10, 3) := by decide +kernel
theorem dX10_islandsOf_12 : decode cX10_islandsOf 12 = .ok (.iload_n 1, 1) := by decide +kernel
theorem dX10_islandsOf_13 : decode cX10_islandsOf 13 = .ok (.invokevirtual 195, 3) := by decide +kernel
theorem dX10_islandsOf_16 : decode cX10_islandsOf 16 = .ok (.ireturn, 1) := by decide +kernel
theorem dX10_isJoined_0 : decode cX10_isJoined 0 = .ok (.iload_n 1, 1) := by decide +kernel
theorem dX10_isJoined_1 : decode cX10_isJoined 1 = .ok (.iload_n 2, 1) := by decide +kernel
theorem dX10_isJoined_2 : decode cX10_isJoined 2 = .ok (.invokestatic 74, 3) := by decide +kernel
theorem dX10_isJoined_5 : decode cX10_isJoined 5 = .ok (.iload_n 3, 1) := by decide +kernel
theorem dX10_isJoined_6 : decode cX10_isJoined 6 = .ok (.iload 4, 2) := by decide +kernel
theorem dX10_isJoined_8 : decode cX10_isJoined 8 = .ok (.invokestatic 74, 3) := by decide +kernel
theorem dX10_isJoined_11 : decode cX10_isJoined 11 = .ok (.aload_n 0, 1) := by decide +kernel
theorem dX10_isJoined_12 : decode cX10_isJoined 12 = .ok (.getfield 39, 3) := by decide +kernel
theorem dX10_isJoined_15 : decode cX10_isJoined 15 = .ok (.aload_n 0, 1) := by decide +kernel
theorem dX10_isJoined_16 : decode cX10_isJoined 16 = .ok (.getfield 10, 3) := by decide +kernel
theorem dX10_isJoined_19 : decode cX10_isJoined 19 = .ok (.bipush 42, 2) := by decide +kernel
theorem dX10_isJoined_21 : decode cX10_isJoined 21 = .ok (.invokevirtual 195, 3) := by decide +kernel
theorem dX10_isJoined_24 : decode cX10_isJoined 24 = .ok (.pop, 1) := by decide +kernel
theorem dX10_isJoined_25 : decode cX10_isJoined 25 = .ok (.aload_n 0, 1) := by decide +kernel
theorem dX10_isJoined_26 : decode cX10_isJoined 26 = .ok (.getfield 39, 3) := by decide +kernel
theorem dX10_isJoined_29 : decode cX10_isJoined 29 = .ok (.iload_n 1, 1) := by decide +kernel
theorem dX10_isJoined_30 : decode cX10_isJoined 30 = .ok (.iload_n 2, 1) := by decide +kernel
theorem dX10_isJoined_31 : decode cX10_isJoined 31 = .ok (.invokestatic 82, 3) := by decide +kernel
theorem dX10_isJoined_34 : decode cX10_isJoined 34 = .ok (.invokevirtual 203, 3) := by decide +kernel
theorem dX10_isJoined_37 : decode cX10_isJoined 37 = .ok (.istore 5, 2) := by decide +kernel
theorem dX10_isJoined_39 : decode cX10_isJoined 39 = .ok (.iload 5, 2) := by decide +kernel
theorem dX10_isJoined_41 : decode cX10_isJoined 41 = .ok (.ifCond .eq 25, 3) := by decide +kernel
theorem dX10_isJoined_44 : decode cX10_isJoined 44 = .ok (.iload 5, 2) := by decide +kernel
theorem dX10_isJoined_46 : decode cX10_isJoined 46 = .ok (.aload_n 0, 1) := by decide +kernel
theorem dX10_isJoined_47 : decode cX10_isJoined 47 = .ok (.getfield 39, 3) := by decide +kernel
theorem dX10_isJoined_50 : decode cX10_isJoined 50 = .ok (.iload_n 3, 1) := by decide +kernel
theorem dX10_isJoined_51 : decode cX10_isJoined 51 = .ok (.iload 4, 2) := by decide +kernel
theorem dX10_isJoined_53 : decode cX10_isJoined 53 = .ok (.invokestatic 82, 3) := by decide +kernel
theorem dX10_isJoined_56 : decode cX10_isJoined 56 = .ok (.invokevirtual 203, 3) := by decide +kernel
theorem dX10_isJoined_59 : decode cX10_isJoined 59 = .ok (.if_icmp .ne 7, 3) := by decide +kernel
theorem dX10_isJoined_62 : decode cX10_isJoined 62 = .ok (.iconst 1, 1) := by decide +kernel
theorem dX10_isJoined_63 : decode cX10_isJoined 63 = .ok (.goto 4, 3) := by decide +kernel
theorem dX10_isJoined_66 : decode cX10_isJoined 66 = .ok (.iconst 0, 1) := by decide +kernel
theorem dX10_isJoined_67 : decode cX10_isJoined 67 = .ok (.ireturn, 1) := by decide +kernel
theorem dX10_passTides_0 : decode cX10_passTides 0 = .ok (.iload_n 1, 1) := by decide +kernel
theorem dX10_passTides_1 : decode cX10_passTides 1 = .ok (.iconst 1, 1) := by decide +kernel
theorem dX10_passTides_2 : decode cX10_passTides 2 = .ok (.if_icmp .lt 9, 3) := by decide +kernel
theorem dX10_passTides_5 : decode cX10_passTides 5 = .ok (.iload_n 1, 1) := by decide +kernel
theorem dX10_passTides_6 : decode cX10_passTides 6 = .ok (.bipush 20, 2) := by decide +kernel
theorem dX10_passTides_8 : decode cX10_passTides 8 = .ok (.if_icmp .le 13, 3) := by decide +kernel
theorem dX10_passTides_11 : decode cX10_passTides 11 = .ok (.new 132, 3) := by decide +kernel
theorem dX10_passTides_14 : decode cX10_passTides 14 = .ok (.dup, 1) := by decide +kernel
theorem dX10_passTides_15 : decode cX10_passTides 15 = .ok (.ldc 214, 2) := by decide +kernel
theorem dX10_passTides_17 : decode cX10_passTides 17 = .ok (.invokespecial 136, 3) := by decide +kernel
theorem dX10_passTides_20 : decode cX10_passTides 20 = .ok (.athrow, 1) := by decide +kernel
theorem dX10_passTides_21 : decode cX10_passTides 21 = .ok (.aload_n 0, 1) := by decide +kernel
theorem dX10_passTides_22 : decode cX10_passTides 22 = .ok (.getfield 25, 3) := by decide +kernel
theorem dX10_passTides_25 : decode cX10_passTides 25 = .ok (.aload_n 0, 1) := by decide +kernel
theorem dX10_passTides_26 : decode cX10_passTides 26 = .ok (.getfield 10, 3) := by decide +kernel
theorem dX10_passTides_29 : decode cX10_passTides 29 = .ok (.invokevirtual 93, 3) := by decide +kernel
theorem dX10_passTides_32 : decode cX10_passTides 32 = .ok (.aload_n 0, 1) := by decide +kernel
theorem dX10_passTides_33 : decode cX10_passTides 33 = .ok (.getfield 32, 3) := by decide +kernel
theorem dX10_passTides_36 : decode cX10_passTides 36 = .ok (.aload_n 0, 1) := by decide +kernel
theorem dX10_passTides_37 : decode cX10_passTides 37 = .ok (.getfield 10, 3) := by decide +kernel
theorem dX10_passTides_40 : decode cX10_passTides 40 = .ok (.iload_n 1, 1) := by decide +kernel
theorem dX10_passTides_41 : decode cX10_passTides 41 = .ok (.invokevirtual 216, 3) := by decide +kernel
theorem dX10_passTides_44 : decode cX10_passTides 44 = .ok (.ireturn, 1) := by decide +kernel
theorem dX10_wouldLive_0 : decode cX10_wouldLive 0 = .ok (.iload_n 1, 1) := by decide +kernel
theorem dX10_wouldLive_1 : decode cX10_wouldLive 1 = .ok (.iload_n 2, 1) := by decide +kernel
theorem dX10_wouldLive_2 : decode cX10_wouldLive 2 = .ok (.invokestatic 74, 3) := by decide +kernel
theorem dX10_wouldLive_5 : decode cX10_wouldLive 5 = .ok (.aload_n 0, 1) := by decide +kernel
theorem dX10_wouldLive_6 : decode cX10_wouldLive 6 = .ok (.getfield 10, 3) := by decide +kernel
theorem dX10_wouldLive_9 : decode cX10_wouldLive 9 = .ok (.iload_n 1, 1) := by decide +kernel
theorem dX10_wouldLive_10 : decode cX10_wouldLive 10 = .ok (.iload_n 2, 1) := by decide +kernel
theorem dX10_wouldLive_11 : decode cX10_wouldLive 11 = .ok (.invokestatic 82, 3) := by decide +kernel
theorem dX10_wouldLive_14 : decode cX10_wouldLive 14 = .ok (.invokevirtual 220, 3) := by decide +kernel
theorem dX10_wouldLive_17 : decode cX10_wouldLive 17 = .ok (.ireturn, 1) := by decide +kernel
theorem dX10_livingAfter_0 : decode cX10_livingAfter 0 = .ok (.iload_n 1, 1) := by decide +kernel
theorem dX10_livingAfter_1 : decode cX10_livingAfter 1 = .ok (.ifCond .lt 9, 3) := by decide +kernel
theorem dX10_livingAfter_4 : decode cX10_livingAfter 4 = .ok (.iload_n 1, 1) := by decide +kernel
theorem dX10_livingAfter_5 : decode cX10_livingAfter 5 = .ok (.bipush 20, 2) := by decide +kernel
theorem dX10_livingAfter_7 : decode cX10_livingAfter 7 = .ok (.if_icmp .le 13, 3) := by decide +kernel
theorem dX10_livingAfter_10 : decode cX10_livingAfter 10 = .ok (.new 132, 3) := by decide +kernel
theorem dX10_livingAfter_13 : decode cX10_livingAfter 13 = .ok (.dup, 1) := by decide +kernel
theorem dX10_livingAfter_14 : decode cX10_livingAfter 14 = .ok (.ldc 224, 2) := by decide +kernel
theorem dX10_livingAfter_16 : decode cX10_livingAfter 16 = .ok (.invokespecial 136, 3) := by decide +kernel
theorem dX10_livingAfter_19 : decode cX10_livingAfter 19 = .ok (.athrow, 1) := by decide +kernel
theorem dX10_livingAfter_20 : decode cX10_livingAfter 20 = .ok (.aload_n 0, 1) := by decide +kernel
theorem dX10_livingAfter_21 : decode cX10_livingAfter 21 = .ok (.getfield 16, 3) := by decide +kernel
theorem dX10_livingAfter_24 : decode cX10_livingAfter 24 = .ok (.aload_n 0, 1) := by decide +kernel
theorem dX10_livingAfter_25 : decode cX10_livingAfter 25 = .ok (.getfield 10, 3) := by decide +kernel
theorem dX10_livingAfter_28 : decode cX10_livingAfter 28 = .ok (.invokevirtual 226, 3) := by decide +kernel
theorem dX10_livingAfter_31 : decode cX10_livingAfter 31 = .ok (.aload_n 0, 1) := by decide +kernel
theorem dX10_livingAfter_32 : decode cX10_livingAfter 32 = .ok (.getfield 32, 3) := by decide +kernel
theorem dX10_livingAfter_35 : decode cX10_livingAfter 35 = .ok (.aload_n 0, 1) := by decide +kernel
theorem dX10_livingAfter_36 : decode cX10_livingAfter 36 = .ok (.getfield 16, 3) := by decide +kernel
theorem dX10_livingAfter_39 : decode cX10_livingAfter 39 = .ok (.iload_n 1, 1) := by decide +kernel
theorem dX10_livingAfter_40 : decode cX10_livingAfter 40 = .ok (.invokevirtual 216, 3) := by decide +kernel
theorem dX10_livingAfter_43 : decode cX10_livingAfter 43 = .ok (.pop, 1) := by decide +kernel
theorem dX10_livingAfter_44 : decode cX10_livingAfter 44 = .ok (.aload_n 0, 1) := by decide +kernel
theorem dX10_livingAfter_45 : decode cX10_livingAfter 45 = .ok (.getfield 16, 3) := by decide +kernel
theorem dX10_livingAfter_48 : decode cX10_livingAfter 48 = .ok (.bipush 42, 2) := by decide +kernel
theorem dX10_livingAfter_50 : decode cX10_livingAfter 50 = .ok (.invokevirtual 101, 3) := by decide +kernel
theorem dX10_livingAfter_53 : decode cX10_livingAfter 53 = .ok (.ireturn, 1) := by decide +kernel
theorem dX10_isStill_0 : decode cX10_isStill 0 = .ok (.aload_n 0, 1) := by decide +kernel
theorem dX10_isStill_1 : decode cX10_isStill 1 = .ok (.getfield 10, 3) := by decide +kernel
theorem dX10_isStill_4 : decode cX10_isStill 4 = .ok (.invokevirtual 229, 3) := by decide +kernel
theorem dX10_isStill_7 : decode cX10_isStill 7 = .ok (.ireturn, 1) := by decide +kernel
theorem dX10_tidesUntilStill_0 : decode cX10_tidesUntilStill 0 = .ok (.aload_n 0, 1) := by decide +kernel
theorem dX10_tidesUntilStill_1 : decode cX10_tidesUntilStill 1 = .ok (.invokevirtual 233, 3) := by decide +kernel
theorem dX10_tidesUntilStill_4 : decode cX10_tidesUntilStill 4 = .ok (.istore_n 1, 1) := by decide +kernel
theorem dX10_tidesUntilStill_5 : decode cX10_tidesUntilStill 5 = .ok (.iload_n 1, 1) := by decide +kernel
theorem dX10_tidesUntilStill_6 : decode cX10_tidesUntilStill 6 = .ok (.bipush 40, 2) := by decide +kernel
theorem dX10_tidesUntilStill_8 : decode cX10_tidesUntilStill 8 = .ok (.if_icmp .le 13, 3) := by decide +kernel
theorem dX10_tidesUntilStill_11 : decode cX10_tidesUntilStill 11 = .ok (.new 190, 3) := by decide +kernel
theorem dX10_tidesUntilStill_14 : decode cX10_tidesUntilStill 14 = .ok (.dup, 1) := by decide +kernel
theorem dX10_tidesUntilStill_15 : decode cX10_tidesUntilStill 15 = .ok (.ldc 236, 2) := by decide +kernel
theorem dX10_tidesUntilStill_17 : decode cX10_tidesUntilStill 17 = .ok (.invokespecial 194, 3) := by decide +kernel
theorem dX10_tidesUntilStill_20 : decode cX10_tidesUntilStill 20 = .ok (.athrow, 1) := by decide +kernel
theorem dX10_tidesUntilStill_21 : decode cX10_tidesUntilStill 21 = .ok (.iload_n 1, 1) := by decide +kernel
theorem dX10_tidesUntilStill_22 : decode cX10_tidesUntilStill 22 = .ok (.ireturn, 1) := by decide +kernel
theorem dX10_rule_0 : decode cX10_rule 0 = .ok (.aload_n 0, 1) := by decide +kernel
theorem dX10_rule_1 : decode cX10_rule 1 = .ok (.getfield 10, 3) := by decide +kernel
theorem dX10_rule_4 : decode cX10_rule 4 = .ok (.getfield 173, 3) := by decide +kernel
theorem dX10_rule_7 : decode cX10_rule 7 = .ok (.getfield 238, 3) := by decide +kernel
theorem dX10_rule_10 : decode cX10_rule 10 = .ok (.i2c, 1) := by decide +kernel
theorem dX10_rule_11 : decode cX10_rule 11 = .ok (.ireturn, 1) := by decide +kernel
theorem dX10_isBirth_0 : decode cX10_isBirth 0 = .ok (.iload_n 1, 1) := by decide +kernel
theorem dX10_isBirth_1 : decode cX10_isBirth 1 = .ok (.invokestatic 243, 3) := by decide +kernel
theorem dX10_isBirth_4 : decode cX10_isBirth 4 = .ok (.aload_n 0, 1) := by decide +kernel
theorem dX10_isBirth_5 : decode cX10_isBirth 5 = .ok (.getfield 10, 3) := by decide +kernel
theorem dX10_isBirth_8 : decode cX10_isBirth 8 = .ok (.getfield 173, 3) := by decide +kernel
theorem dX10_isBirth_11 : decode cX10_isBirth 11 = .ok (.iload_n 1, 1) := by decide +kernel
theorem dX10_isBirth_12 : decode cX10_isBirth 12 = .ok (.invokevirtual 246, 3) := by decide +kernel
theorem dX10_isBirth_15 : decode cX10_isBirth 15 = .ok (.ireturn, 1) := by decide +kernel
theorem dX10_isSurvival_0 : decode cX10_isSurvival 0 = .ok (.iload_n 1, 1) := by decide +kernel
theorem dX10_isSurvival_1 : decode cX10_isSurvival 1 = .ok (.invokestatic 243, 3) := by decide +kernel
theorem dX10_isSurvival_4 : decode cX10_isSurvival 4 = .ok (.aload_n 0, 1) := by decide +kernel
theorem dX10_isSurvival_5 : decode cX10_isSurvival 5 = .ok (.getfield 10, 3) := by decide +kernel
theorem dX10_isSurvival_8 : decode cX10_isSurvival 8 = .ok (.getfield 173, 3) := by decide +kernel
theorem dX10_isSurvival_11 : decode cX10_isSurvival 11 = .ok (.iload_n 1, 1) := by decide +kernel
theorem dX10_isSurvival_12 : decode cX10_isSurvival 12 = .ok (.invokevirtual 249, 3) := by decide +kernel
theorem dX10_isSurvival_15 : decode cX10_isSurvival 15 = .ok (.ireturn, 1) := by decide +kernel
theorem dX10_tideCount_0 : decode cX10_tideCount 0 = .ok (.aload_n 0, 1) := by decide +kernel
theorem dX10_tideCount_1 : decode cX10_tideCount 1 = .ok (.getfield 10, 3) := by decide +kernel
theorem dX10_tideCount_4 : decode cX10_tideCount 4 = .ok (.getfield 166, 3) := by decide +kernel
theorem dX10_tideCount_7 : decode cX10_tideCount 7 = .ok (.ireturn, 1) := by decide +kernel
theorem dX10_placedCount_0 : decode cX10_placedCount 0 = .ok (.aload_n 0, 1) := by decide +kernel
theorem dX10_placedCount_1 : decode cX10_placedCount 1 = .ok (.getfield 10, 3) := by decide +kernel
theorem dX10_placedCount_4 : decode cX10_placedCount 4 = .ok (.getfield 252, 3) := by decide +kernel
theorem dX10_placedCount_7 : decode cX10_placedCount 7 = .ok (.ireturn, 1) := by decide +kernel
theorem dX10_removedCount_0 : decode cX10_removedCount 0 = .ok (.aload_n 0, 1) := by decide +kernel
theorem dX10_removedCount_1 : decode cX10_removedCount 1 = .ok (.getfield 10, 3) := by decide +kernel
theorem dX10_removedCount_4 : decode cX10_removedCount 4 = .ok (.getfield 255, 3) := by decide +kernel
theorem dX10_removedCount_7 : decode cX10_removedCount 7 = .ok (.ireturn, 1) := by decide +kernel
theorem dX10_bornCount_0 : decode cX10_bornCount 0 = .ok (.aload_n 0, 1) := by decide +kernel
theorem dX10_bornCount_1 : decode cX10_bornCount 1 = .ok (.getfield 10, 3) := by decide +kernel
theorem dX10_bornCount_4 : decode cX10_bornCount 4 = .ok (.getfield 258, 3) := by decide +kernel
theorem dX10_bornCount_7 : decode cX10_bornCount 7 = .ok (.ireturn, 1) := by decide +kernel
theorem dX10_bleachings_0 : decode cX10_bleachings 0 = .ok (.aload_n 0, 1) := by decide +kernel
theorem dX10_bleachings_1 : decode cX10_bleachings 1 = .ok (.getfield 10, 3) := by decide +kernel
theorem dX10_bleachings_4 : decode cX10_bleachings 4 = .ok (.getfield 261, 3) := by decide +kernel
theorem dX10_bleachings_7 : decode cX10_bleachings 7 = .ok (.ireturn, 1) := by decide +kernel
theorem dX10_washedCount_0 : decode cX10_washedCount 0 = .ok (.aload_n 0, 1) := by decide +kernel
theorem dX10_washedCount_1 : decode cX10_washedCount 1 = .ok (.getfield 10, 3) := by decide +kernel
theorem dX10_washedCount_4 : decode cX10_washedCount 4 = .ok (.getfield 264, 3) := by decide +kernel
theorem dX10_washedCount_7 : decode cX10_washedCount 7 = .ok (.ireturn, 1) := by decide +kernel
theorem dX10_rowByLiving_0 : decode cX10_rowByLiving 0 = .ok (.iconst (-1), 1) := by decide +kernel
theorem dX10_rowByLiving_1 : decode cX10_rowByLiving 1 = .ok (.istore_n 2, 1) := by decide +kernel
theorem dX10_rowByLiving_2 : decode cX10_rowByLiving 2 = .ok (.iconst 0, 1) := by decide +kernel
theorem dX10_rowByLiving_3 : decode cX10_rowByLiving 3 = .ok (.istore_n 3, 1) := by decide +kernel
theorem dX10_rowByLiving_4 : decode cX10_rowByLiving 4 = .ok (.iload_n 3, 1) := by decide +kernel
theorem dX10_rowByLiving_5 : decode cX10_rowByLiving 5 = .ok (.bipush 8, 2) := by decide +kernel
theorem dX10_rowByLiving_7 : decode cX10_rowByLiving 7 = .ok (.if_icmp .ge 20, 3) := by decide +kernel
theorem dX10_rowByLiving_10 : decode cX10_rowByLiving 10 = .ok (.aload_n 0, 1) := by decide +kernel
theorem dX10_rowByLiving_11 : decode cX10_rowByLiving 11 = .ok (.iload_n 3, 1) := by decide +kernel
theorem dX10_rowByLiving_12 : decode cX10_rowByLiving 12 = .ok (.invokevirtual 267, 3) := by decide +kernel
theorem dX10_rowByLiving_15 : decode cX10_rowByLiving 15 = .ok (.iload_n 1, 1) := by decide +kernel
theorem dX10_rowByLiving_16 : decode cX10_rowByLiving 16 = .ok (.if_icmp .ne 5, 3) := by decide +kernel
theorem dX10_rowByLiving_19 : decode cX10_rowByLiving 19 = .ok (.iload_n 3, 1) := by decide +kernel
theorem dX10_rowByLiving_20 : decode cX10_rowByLiving 20 = .ok (.istore_n 2, 1) := by decide +kernel
theorem dX10_rowByLiving_21 : decode cX10_rowByLiving 21 = .ok (.iinc 3 1, 3) := by decide +kernel
theorem dX10_rowByLiving_24 : decode cX10_rowByLiving 24 = .ok (.goto (-20), 3) := by decide +kernel
theorem dX10_rowByLiving_27 : decode cX10_rowByLiving 27 = .ok (.iload_n 2, 1) := by decide +kernel
theorem dX10_rowByLiving_28 : decode cX10_rowByLiving 28 = .ok (.ifCond .ge 14, 3) := by decide +kernel
theorem dX10_rowByLiving_31 : decode cX10_rowByLiving 31 = .ok (.new 190, 3) := by decide +kernel
theorem dX10_rowByLiving_34 : decode cX10_rowByLiving 34 = .ok (.dup, 1) := by decide +kernel
theorem dX10_rowByLiving_35 : decode cX10_rowByLiving 35 = .ok (.ldc_w 270, 3) := by decide +kernel
theorem dX10_rowByLiving_38 : decode cX10_rowByLiving 38 = .ok (.invokespecial 194, 3) := by decide +kernel
theorem dX10_rowByLiving_41 : decode cX10_rowByLiving 41 = .ok (.athrow, 1) := by decide +kernel
theorem dX10_rowByLiving_42 : decode cX10_rowByLiving 42 = .ok (.iload_n 2, 1) := by decide +kernel
theorem dX10_rowByLiving_43 : decode cX10_rowByLiving 43 = .ok (.ireturn, 1) := by decide +kernel
theorem dX10_colourByCount_0 : decode cX10_colourByCount 0 = .ok (.iconst 0, 1) := by decide +kernel
theorem dX10_colourByCount_1 : decode cX10_colourByCount 1 = .ok (.istore_n 2, 1) := by decide +kernel
theorem dX10_colourByCount_2 : decode cX10_colourByCount 2 = .ok (.iconst 0, 1) := by decide +kernel
theorem dX10_colourByCount_3 : decode cX10_colourByCount 3 = .ok (.istore_n 3, 1) := by decide +kernel
theorem dX10_colourByCount_4 : decode cX10_colourByCount 4 = .ok (.iload_n 3, 1) := by decide +kernel
theorem dX10_colourByCount_5 : decode cX10_colourByCount 5 = .ok (.iconst 4, 1) := by decide +kernel
theorem dX10_colourByCount_6 : decode cX10_colourByCount 6 = .ok (.if_icmp .ge 26, 3) := by decide +kernel
theorem dX10_colourByCount_9 : decode cX10_colourByCount 9 = .ok (.aload_n 0, 1) := by decide +kernel
theorem dX10_colourByCount_10 : decode cX10_colourByCount 10 = .ok (.iload_n 3, 1) := by decide +kernel
theorem dX10_colourByCount_11 : decode cX10_colourByCount 11 = .ok (.invokestatic 272, 3) := by decide +kernel
theorem dX10_colourByCount_14 : decode cX10_colourByCount 14 = .ok (.invokevirtual 275, 3) := by decide +kernel
theorem dX10_colourByCount_17 : decode cX10_colourByCount 17 = .ok (.iload_n 1, 1) := by decide +kernel
theorem dX10_colourByCount_18 : decode cX10_colourByCount 18 = .ok (.if_icmp .ne 8, 3) := by decide +kernel
theorem dX10_colourByCount_21 : decode cX10_colourByCount 21 = .ok (.iload_n 3, 1) := by decide +kernel
theorem dX10_colourByCount_22 : decode cX10_colourByCount 22 = .ok (.invokestatic 272, 3) := by decide +kernel
theorem dX10_colourByCount_25 : decode cX10_colourByCount 25 = .ok (.istore_n 2, 1) := by decide +kernel
theorem dX10_colourByCount_26 : decode cX10_colourByCount 26 = .ok (.iinc 3 1, 3) := by decide +kernel
theorem dX10_colourByCount_29 : decode cX10_colourByCount 29 = .ok (.goto (-25), 3) := by decide +kernel
theorem dX10_colourByCount_32 : decode cX10_colourByCount 32 = .ok (.iload_n 2, 1) := by decide +kernel
theorem dX10_colourByCount_33 : decode cX10_colourByCount 33 = .ok (.ifCond .ne 14, 3) := by decide +kernel
theorem dX10_colourByCount_36 : decode cX10_colourByCount 36 = .ok (.new 190, 3) := by decide +kernel
theorem dX10_colourByCount_39 : decode cX10_colourByCount 39 = .ok (.dup, 1) := by decide +kernel
theorem dX10_colourByCount_40 : decode cX10_colourByCount 40 = .ok (.ldc_w 270, 3) := by decide +kernel
theorem dX10_colourByCount_43 : decode cX10_colourByCount 43 = .ok (.invokespecial 194, 3) := by decide +kernel
theorem dX10_colourByCount_46 : decode cX10_colourByCount 46 = .ok (.athrow, 1) := by decide +kernel
theorem dX10_colourByCount_47 : decode cX10_colourByCount 47 = .ok (.iload_n 2, 1) := by decide +kernel
theorem dX10_colourByCount_48 : decode cX10_colourByCount 48 = .ok (.ireturn, 1) := by decide +kernel
theorem dX10_meanAge_0 : decode cX10_meanAge 0 = .ok (.aload_n 0, 1) := by decide +kernel
theorem dX10_meanAge_1 : decode cX10_meanAge 1 = .ok (.getfield 10, 3) := by decide +kernel
theorem dX10_meanAge_4 : decode cX10_meanAge 4 = .ok (.bipush 42, 2) := by decide +kernel
theorem dX10_meanAge_6 : decode cX10_meanAge 6 = .ok (.invokevirtual 101, 3) := by decide +kernel
theorem dX10_meanAge_9 : decode cX10_meanAge 9 = .ok (.istore_n 1, 1) := by decide +kernel
theorem dX10_meanAge_10 : decode cX10_meanAge 10 = .ok (.iload_n 1, 1) := by decide +kernel
theorem dX10_meanAge_11 : decode cX10_meanAge 11 = .ok (.ifCond .ne 14, 3) := by decide +kernel
theorem dX10_meanAge_14 : decode cX10_meanAge 14 = .ok (.new 278, 3) := by decide +kernel
theorem dX10_meanAge_17 : decode cX10_meanAge 17 = .ok (.dup, 1) := by decide +kernel
theorem dX10_meanAge_18 : decode cX10_meanAge 18 = .ok (.ldc_w 280, 3) := by decide +kernel
theorem dX10_meanAge_21 : decode cX10_meanAge 21 = .ok (.invokespecial 282, 3) := by decide +kernel
theorem dX10_meanAge_24 : decode cX10_meanAge 24 = .ok (.athrow, 1) := by decide +kernel
theorem dX10_meanAge_25 : decode cX10_meanAge 25 = .ok (.aload_n 0, 1) := by decide +kernel
theorem dX10_meanAge_26 : decode cX10_meanAge 26 = .ok (.getfield 10, 3) := by decide +kernel
theorem dX10_meanAge_29 : decode cX10_meanAge 29 = .ok (.invokevirtual 283, 3) := by decide +kernel
theorem dX10_meanAge_32 : decode cX10_meanAge 32 = .ok (.i2d, 1) := by decide +kernel
theorem dX10_meanAge_33 : decode cX10_meanAge 33 = .ok (.iload_n 1, 1) := by decide +kernel
theorem dX10_meanAge_34 : decode cX10_meanAge 34 = .ok (.i2d, 1) := by decide +kernel
theorem dX10_meanAge_35 : decode cX10_meanAge 35 = .ok (.ddiv, 1) := by decide +kernel
theorem dX10_meanAge_36 : decode cX10_meanAge 36 = .ok (.dreturn, 1) := by decide +kernel
theorem dX10_livingShare_0 : decode cX10_livingShare 0 = .ok (.aload_n 0, 1) := by decide +kernel
theorem dX10_livingShare_1 : decode cX10_livingShare 1 = .ok (.getfield 10, 3) := by decide +kernel
theorem dX10_livingShare_4 : decode cX10_livingShare 4 = .ok (.bipush 42, 2) := by decide +kernel
theorem dX10_livingShare_6 : decode cX10_livingShare 6 = .ok (.invokevirtual 101, 3) := by decide +kernel
theorem dX10_livingShare_9 : decode cX10_livingShare 9 = .ok (.istore_n 1, 1) := by decide +kernel
theorem dX10_livingShare_10 : decode cX10_livingShare 10 = .ok (.iload_n 1, 1) := by decide +kernel
theorem dX10_livingShare_11 : decode cX10_livingShare 11 = .ok (.aload_n 0, 1) := by decide +kernel
theorem dX10_livingShare_12 : decode cX10_livingShare 12 = .ok (.getfield 10, 3) := by decide +kernel
theorem dX10_livingShare_15 : decode cX10_livingShare 15 = .ok (.bipush 35, 2) := by decide +kernel
theorem dX10_livingShare_17 : decode cX10_livingShare 17 = .ok (.invokevirtual 101, 3) := by decide +kernel
theorem dX10_livingShare_20 : decode cX10_livingShare 20 = .ok (.iadd, 1) := by decide +kernel
theorem dX10_livingShare_21 : decode cX10_livingShare 21 = .ok (.istore_n 2, 1) := by decide +kernel
theorem dX10_livingShare_22 : decode cX10_livingShare 22 = .ok (.iload_n 2, 1) := by decide +kernel
theorem dX10_livingShare_23 : decode cX10_livingShare 23 = .ok (.ifCond .ne 14, 3) := by decide +kernel
theorem dX10_livingShare_26 : decode cX10_livingShare 26 = .ok (.new 278, 3) := by decide +kernel
theorem dX10_livingShare_29 : decode cX10_livingShare 29 = .ok (.dup, 1) := by decide +kernel
theorem dX10_livingShare_30 : decode cX10_livingShare 30 = .ok (.ldc_w 286, 3) := by decide +kernel
theorem dX10_livingShare_33 : decode cX10_livingShare 33 = .ok (.invokespecial 282, 3) := by decide +kernel
theorem dX10_livingShare_36 : decode cX10_livingShare 36 = .ok (.athrow, 1) := by decide +kernel
theorem dX10_livingShare_37 : decode cX10_livingShare 37 = .ok (.iload_n 1, 1) := by decide +kernel
theorem dX10_livingShare_38 : decode cX10_livingShare 38 = .ok (.i2f, 1) := by decide +kernel
theorem dX10_livingShare_39 : decode cX10_livingShare 39 = .ok (.iload_n 2, 1) := by decide +kernel
theorem dX10_livingShare_40 : decode cX10_livingShare 40 = .ok (.i2f, 1) := by decide +kernel
theorem dX10_livingShare_41 : decode cX10_livingShare 41 = .ok (.fdiv, 1) := by decide +kernel
theorem dX10_livingShare_42 : decode cX10_livingShare 42 = .ok (.freturn, 1) := by decide +kernel
theorem dX10_isConsistent_0 : decode cX10_isConsistent 0 = .ok (.aload_n 0, 1) := by decide +kernel
theorem dX10_isConsistent_1 : decode cX10_isConsistent 1 = .ok (.getfield 39, 3) := by decide +kernel
theorem dX10_isConsistent_4 : decode cX10_isConsistent 4 = .ok (.aload_n 0, 1) := by decide +kernel
theorem dX10_isConsistent_5 : decode cX10_isConsistent 5 = .ok (.getfield 10, 3) := by decide +kernel
theorem dX10_isConsistent_8 : decode cX10_isConsistent 8 = .ok (.bipush 42, 2) := by decide +kernel
theorem dX10_isConsistent_10 : decode cX10_isConsistent 10 = .ok (.invokevirtual 195, 3) := by decide +kernel
theorem dX10_isConsistent_13 : decode cX10_isConsistent 13 = .ok (.istore_n 1, 1) := by decide +kernel
theorem dX10_isConsistent_14 : decode cX10_isConsistent 14 = .ok (.iconst 0, 1) := by decide +kernel
theorem dX10_isConsistent_15 : decode cX10_isConsistent 15 = .ok (.istore_n 2, 1) := by decide +kernel
theorem dX10_isConsistent_16 : decode cX10_isConsistent 16 = .ok (.iconst 1, 1) := by decide +kernel
theorem dX10_isConsistent_17 : decode cX10_isConsistent 17 = .ok (.istore_n 3, 1) := by decide +kernel
theorem dX10_isConsistent_18 : decode cX10_isConsistent 18 = .ok (.iload_n 3, 1) := by decide +kernel
theorem dX10_isConsistent_19 : decode cX10_isConsistent 19 = .ok (.iload_n 1, 1) := by decide +kernel
theorem dX10_isConsistent_20 : decode cX10_isConsistent 20 = .ok (.if_icmp .gt 20, 3) := by decide +kernel
theorem dX10_isConsistent_23 : decode cX10_isConsistent 23 = .ok (.iload_n 2, 1) := by decide +kernel
theorem dX10_isConsistent_24 : decode cX10_isConsistent 24 = .ok (.aload_n 0, 1) := by decide +kernel
theorem dX10_isConsistent_25 : decode cX10_isConsistent 25 = .ok (.getfield 39, 3) := by decide +kernel
theorem dX10_isConsistent_28 : decode cX10_isConsistent 28 = .ok (.iload_n 3, 1) := by decide +kernel
theorem dX10_isConsistent_29 : decode cX10_isConsistent 29 = .ok (.invokevirtual 206, 3) := by decide +kernel
theorem dX10_isConsistent_32 : decode cX10_isConsistent 32 = .ok (.iadd, 1) := by decide +kernel
theorem dX10_isConsistent_33 : decode cX10_isConsistent 33 = .ok (.istore_n 2, 1) := by decide +kernel
theorem dX10_isConsistent_34 : decode cX10_isConsistent 34 = .ok (.iinc 3 1, 3) := by decide +kernel
theorem dX10_isConsistent_37 : decode cX10_isConsistent 37 = .ok (.goto (-19), 3) := by decide +kernel
theorem dX10_isConsistent_40 : decode cX10_isConsistent 40 = .ok (.iload_n 2, 1) := by decide +kernel
theorem dX10_isConsistent_41 : decode cX10_isConsistent 41 = .ok (.aload_n 0, 1) := by decide +kernel
theorem dX10_isConsistent_42 : decode cX10_isConsistent 42 = .ok (.getfield 10, 3) := by decide +kernel
theorem dX10_isConsistent_45 : decode cX10_isConsistent 45 = .ok (.bipush 42, 2) := by decide +kernel
theorem dX10_isConsistent_47 : decode cX10_isConsistent 47 = .ok (.invokevirtual 101, 3) := by decide +kernel
theorem dX10_isConsistent_50 : decode cX10_isConsistent 50 = .ok (.if_icmp .ne 42, 3) := by decide +kernel
theorem dX10_isConsistent_53 : decode cX10_isConsistent 53 = .ok (.iload_n 1, 1) := by decide +kernel
theorem dX10_isConsistent_54 : decode cX10_isConsistent 54 = .ok (.aload_n 0, 1) := by decide +kernel
theorem dX10_isConsistent_55 : decode cX10_isConsistent 55 = .ok (.getfield 39, 3) := by decide +kernel
theorem dX10_isConsistent_58 : decode cX10_isConsistent 58 = .ok (.aload_n 0, 1) := by decide +kernel
theorem dX10_isConsistent_59 : decode cX10_isConsistent 59 = .ok (.getfield 10, 3) := by decide +kernel
theorem dX10_isConsistent_62 : decode cX10_isConsistent 62 = .ok (.invokevirtual 199, 3) := by decide +kernel
theorem dX10_isConsistent_65 : decode cX10_isConsistent 65 = .ok (.if_icmp .ne 27, 3) := by decide +kernel
theorem dX10_isConsistent_68 : decode cX10_isConsistent 68 = .ok (.aload_n 0, 1) := by decide +kernel
theorem dX10_isConsistent_69 : decode cX10_isConsistent 69 = .ok (.getfield 10, 3) := by decide +kernel
theorem dX10_isConsistent_72 : decode cX10_isConsistent 72 = .ok (.invokevirtual 288, 3) := by decide +kernel
theorem dX10_isConsistent_75 : decode cX10_isConsistent 75 = .ok (.ifCond .eq 17, 3) := by decide +kernel
theorem dX10_isConsistent_78 : decode cX10_isConsistent 78 = .ok (.aload_n 0, 1) := by decide +kernel
theorem dX10_isConsistent_79 : decode cX10_isConsistent 79 = .ok (.getfield 10, 3) := by decide +kernel
theorem dX10_isConsistent_82 : decode cX10_isConsistent 82 = .ok (.invokevirtual 291, 3) := by decide +kernel
theorem dX10_isConsistent_85 : decode cX10_isConsistent 85 = .ok (.ifCond .eq 7, 3) := by decide +kernel
theorem dX10_isConsistent_88 : decode cX10_isConsistent 88 = .ok (.iconst 1, 1) := by decide +kernel
theorem dX10_isConsistent_89 : decode cX10_isConsistent 89 = .ok (.goto 4, 3) := by decide +kernel
theorem dX10_isConsistent_92 : decode cX10_isConsistent 92 = .ok (.iconst 0, 1) := by decide +kernel
theorem dX10_isConsistent_93 : decode cX10_isConsistent 93 = .ok (.ireturn, 1) := by decide +kernel
theorem dX10_writeRow_0 : decode cX10_writeRow 0 = .ok (.iload_n 1, 1) := by decide +kernel
theorem dX10_writeRow_1 : decode cX10_writeRow 1 = .ok (.ifCond .lt 9, 3) := by decide +kernel
theorem dX10_writeRow_4 : decode cX10_writeRow 4 = .ok (.iload_n 1, 1) := by decide +kernel
theorem dX10_writeRow_5 : decode cX10_writeRow 5 = .ok (.bipush 8, 2) := by decide +kernel
theorem dX10_writeRow_7 : decode cX10_writeRow 7 = .ok (.if_icmp .lt 14, 3) := by decide +kernel
theorem dX10_writeRow_10 : decode cX10_writeRow 10 = .ok (.new 294, 3) := by decide +kernel
theorem dX10_writeRow_13 : decode cX10_writeRow 13 = .ok (.dup, 1) := by decide +kernel
theorem dX10_writeRow_14 : decode cX10_writeRow 14 = .ok (.ldc_w 296, 3) := by decide +kernel
theorem dX10_writeRow_17 : decode cX10_writeRow 17 = .ok (.invokespecial 298, 3) := by decide +kernel
theorem dX10_writeRow_20 : decode cX10_writeRow 20 = .ok (.athrow, 1) := by decide +kernel
theorem dX10_writeRow_21 : decode cX10_writeRow 21 = .ok (.aload_n 0, 1) := by decide +kernel
theorem dX10_writeRow_22 : decode cX10_writeRow 22 = .ok (.getfield 46, 3) := by decide +kernel
theorem dX10_writeRow_25 : decode cX10_writeRow 25 = .ok (.invokevirtual 299, 3) := by decide +kernel
theorem dX10_writeRow_28 : decode cX10_writeRow 28 = .ok (.iconst 0, 1) := by decide +kernel
theorem dX10_writeRow_29 : decode cX10_writeRow 29 = .ok (.istore_n 2, 1) := by decide +kernel
theorem dX10_writeRow_30 : decode cX10_writeRow 30 = .ok (.iload_n 2, 1) := by decide +kernel
theorem dX10_writeRow_31 : decode cX10_writeRow 31 = .ok (.bipush 8, 2) := by decide +kernel
theorem dX10_writeRow_33 : decode cX10_writeRow 33 = .ok (.if_icmp .ge 28, 3) := by decide +kernel
theorem dX10_writeRow_36 : decode cX10_writeRow 36 = .ok (.aload_n 0, 1) := by decide +kernel
theorem dX10_writeRow_37 : decode cX10_writeRow 37 = .ok (.getfield 46, 3) := by decide +kernel
theorem dX10_writeRow_40 : decode cX10_writeRow 40 = .ok (.aload_n 0, 1) := by decide +kernel
theorem dX10_writeRow_41 : decode cX10_writeRow 41 = .ok (.getfield 10, 3) := by decide +kernel
theorem dX10_writeRow_44 : decode cX10_writeRow 44 = .ok (.iload_n 1, 1) := by decide +kernel
theorem dX10_writeRow_45 : decode cX10_writeRow 45 = .ok (.iload_n 2, 1) := by decide +kernel
theorem dX10_writeRow_46 : decode cX10_writeRow 46 = .ok (.invokestatic 82, 3) := by decide +kernel
theorem dX10_writeRow_49 : decode cX10_writeRow 49 = .ok (.invokevirtual 302, 3) := by decide +kernel
theorem dX10_writeRow_52 : decode cX10_writeRow 52 = .ok (.invokevirtual 305, 3) := by decide +kernel
theorem dX10_writeRow_55 : decode cX10_writeRow 55 = .ok (.iinc 2 1, 3) := by decide +kernel
theorem dX10_writeRow_58 : decode cX10_writeRow 58 = .ok (.goto (-28), 3) := by decide +kernel
theorem dX10_writeRow_61 : decode cX10_writeRow 61 = .ok (.aload_n 0, 1) := by decide +kernel
theorem dX10_writeRow_62 : decode cX10_writeRow 62 = .ok (.getfield 46, 3) := by decide +kernel
theorem dX10_writeRow_65 : decode cX10_writeRow 65 = .ok (.getfield 308, 3) := by decide +kernel
theorem dX10_writeRow_68 : decode cX10_writeRow 68 = .ok (.ireturn, 1) := by decide +kernel
theorem dX10_writeRule_0 : decode cX10_writeRule 0 = .ok (.aload_n 0, 1) := by decide +kernel
theorem dX10_writeRule_1 : decode cX10_writeRule 1 = .ok (.getfield 46, 3) := by decide +kernel
theorem dX10_writeRule_4 : decode cX10_writeRule 4 = .ok (.invokevirtual 299, 3) := by decide +kernel
theorem dX10_writeRule_7 : decode cX10_writeRule 7 = .ok (.aload_n 0, 1) := by decide +kernel
theorem dX10_writeRule_8 : decode cX10_writeRule 8 = .ok (.getfield 46, 3) := by decide +kernel
theorem dX10_writeRule_11 : decode cX10_writeRule 11 = .ok (.aload_n 0, 1) := by decide +kernel
theorem dX10_writeRule_12 : decode cX10_writeRule 12 = .ok (.getfield 10, 3) := by decide +kernel
theorem dX10_writeRule_15 : decode cX10_writeRule 15 = .ok (.getfield 173, 3) := by decide +kernel
theorem dX10_writeRule_18 : decode cX10_writeRule 18 = .ok (.getfield 311, 3) := by decide +kernel
theorem dX10_writeRule_21 : decode cX10_writeRule 21 = .ok (.invokevirtual 315, 3) := by decide +kernel
theorem dX10_writeRule_24 : decode cX10_writeRule 24 = .ok (.aload_n 0, 1) := by decide +kernel
theorem dX10_writeRule_25 : decode cX10_writeRule 25 = .ok (.getfield 46, 3) := by decide +kernel
theorem dX10_writeRule_28 : decode cX10_writeRule 28 = .ok (.ldc_w 318, 3) := by decide +kernel
theorem dX10_writeRule_31 : decode cX10_writeRule 31 = .ok (.invokevirtual 315, 3) := by decide +kernel
theorem dX10_writeRule_34 : decode cX10_writeRule 34 = .ok (.aload_n 0, 1) := by decide +kernel
theorem dX10_writeRule_35 : decode cX10_writeRule 35 = .ok (.getfield 46, 3) := by decide +kernel
theorem dX10_writeRule_38 : decode cX10_writeRule 38 = .ok (.aload_n 0, 1) := by decide +kernel
theorem dX10_writeRule_39 : decode cX10_writeRule 39 = .ok (.getfield 10, 3) := by decide +kernel
theorem dX10_writeRule_42 : decode cX10_writeRule 42 = .ok (.getfield 173, 3) := by decide +kernel
theorem dX10_writeRule_45 : decode cX10_writeRule 45 = .ok (.getfield 320, 3) := by decide +kernel
theorem dX10_writeRule_48 : decode cX10_writeRule 48 = .ok (.invokevirtual 323, 3) := by decide +kernel
theorem dX10_writeRule_51 : decode cX10_writeRule 51 = .ok (.aload_n 0, 1) := by decide +kernel
theorem dX10_writeRule_52 : decode cX10_writeRule 52 = .ok (.getfield 46, 3) := by decide +kernel
theorem dX10_writeRule_55 : decode cX10_writeRule 55 = .ok (.ldc_w 326, 3) := by decide +kernel
theorem dX10_writeRule_58 : decode cX10_writeRule 58 = .ok (.invokevirtual 315, 3) := by decide +kernel
theorem dX10_writeRule_61 : decode cX10_writeRule 61 = .ok (.aload_n 0, 1) := by decide +kernel
theorem dX10_writeRule_62 : decode cX10_writeRule 62 = .ok (.getfield 46, 3) := by decide +kernel
theorem dX10_writeRule_65 : decode cX10_writeRule 65 = .ok (.aload_n 0, 1) := by decide +kernel
theorem dX10_writeRule_66 : decode cX10_writeRule 66 = .ok (.getfield 10, 3) := by decide +kernel
theorem dX10_writeRule_69 : decode cX10_writeRule 69 = .ok (.getfield 173, 3) := by decide +kernel
theorem dX10_writeRule_72 : decode cX10_writeRule 72 = .ok (.getfield 328, 3) := by decide +kernel
theorem dX10_writeRule_75 : decode cX10_writeRule 75 = .ok (.invokevirtual 323, 3) := by decide +kernel
theorem dX10_writeRule_78 : decode cX10_writeRule 78 = .ok (.aload_n 0, 1) := by decide +kernel
theorem dX10_writeRule_79 : decode cX10_writeRule 79 = .ok (.getfield 46, 3) := by decide +kernel
theorem dX10_writeRule_82 : decode cX10_writeRule 82 = .ok (.getfield 308, 3) := by decide +kernel
theorem dX10_writeRule_85 : decode cX10_writeRule 85 = .ok (.ireturn, 1) := by decide +kernel
theorem dX10_outputAt_0 : decode cX10_outputAt 0 = .ok (.iload_n 1, 1) := by decide +kernel
theorem dX10_outputAt_1 : decode cX10_outputAt 1 = .ok (.ifCond .lt 14, 3) := by decide +kernel
theorem dX10_outputAt_4 : decode cX10_outputAt 4 = .ok (.iload_n 1, 1) := by decide +kernel
theorem dX10_outputAt_5 : decode cX10_outputAt 5 = .ok (.aload_n 0, 1) := by decide +kernel
theorem dX10_outputAt_6 : decode cX10_outputAt 6 = .ok (.getfield 46, 3) := by decide +kernel
theorem dX10_outputAt_9 : decode cX10_outputAt 9 = .ok (.getfield 308, 3) := by decide +kernel
theorem dX10_outputAt_12 : decode cX10_outputAt 12 = .ok (.if_icmp .lt 14, 3) := by decide +kernel
theorem dX10_outputAt_15 : decode cX10_outputAt 15 = .ok (.new 294, 3) := by decide +kernel
theorem dX10_outputAt_18 : decode cX10_outputAt 18 = .ok (.dup, 1) := by decide +kernel
theorem dX10_outputAt_19 : decode cX10_outputAt 19 = .ok (.ldc_w 331, 3) := by decide +kernel
theorem dX10_outputAt_22 : decode cX10_outputAt 22 = .ok (.invokespecial 298, 3) := by decide +kernel
theorem dX10_outputAt_25 : decode cX10_outputAt 25 = .ok (.athrow, 1) := by decide +kernel
theorem dX10_outputAt_26 : decode cX10_outputAt 26 = .ok (.aload_n 0, 1) := by decide +kernel
theorem dX10_outputAt_27 : decode cX10_outputAt 27 = .ok (.getfield 46, 3) := by decide +kernel
theorem dX10_outputAt_30 : decode cX10_outputAt 30 = .ok (.iload_n 1, 1) := by decide +kernel
theorem dX10_outputAt_31 : decode cX10_outputAt 31 = .ok (.invokevirtual 333, 3) := by decide +kernel
theorem dX10_outputAt_34 : decode cX10_outputAt 34 = .ok (.ireturn, 1) := by decide +kernel
theorem dX10_appendInput_0 : decode cX10_appendInput 0 = .ok (.iload_n 1, 1) := by decide +kernel
theorem dX10_appendInput_1 : decode cX10_appendInput 1 = .ok (.bipush 32, 2) := by decide +kernel
theorem dX10_appendInput_3 : decode cX10_appendInput 3 = .ok (.if_icmp .lt 9, 3) := by decide +kernel
theorem dX10_appendInput_6 : decode cX10_appendInput 6 = .ok (.iload_n 1, 1) := by decide +kernel
theorem dX10_appendInput_7 : decode cX10_appendInput 7 = .ok (.bipush 126, 2) := by decide +kernel
theorem dX10_appendInput_9 : decode cX10_appendInput 9 = .ok (.if_icmp .le 14, 3) := by decide +kernel
theorem dX10_appendInput_12 : decode cX10_appendInput 12 = .ok (.new 132, 3) := by decide +kernel
theorem dX10_appendInput_15 : decode cX10_appendInput 15 = .ok (.dup, 1) := by decide +kernel
theorem dX10_appendInput_16 : decode cX10_appendInput 16 = .ok (.ldc_w 336, 3) := by decide +kernel
theorem dX10_appendInput_19 : decode cX10_appendInput 19 = .ok (.invokespecial 136, 3) := by decide +kernel
theorem dX10_appendInput_22 : decode cX10_appendInput 22 = .ok (.athrow, 1) := by decide +kernel
theorem dX10_appendInput_23 : decode cX10_appendInput 23 = .ok (.aload_n 0, 1) := by decide +kernel
theorem dX10_appendInput_24 : decode cX10_appendInput 24 = .ok (.getfield 53, 3) := by decide +kernel
theorem dX10_appendInput_27 : decode cX10_appendInput 27 = .ok (.getfield 338, 3) := by decide +kernel
theorem dX10_appendInput_30 : decode cX10_appendInput 30 = .ok (.bipush 60, 2) := by decide +kernel
theorem dX10_appendInput_32 : decode cX10_appendInput 32 = .ok (.if_icmp .lt 14, 3) := by decide +kernel
theorem dX10_appendInput_35 : decode cX10_appendInput 35 = .ok (.new 339, 3) := by decide +kernel
theorem dX10_appendInput_38 : decode cX10_appendInput 38 = .ok (.dup, 1) := by decide +kernel
theorem dX10_appendInput_39 : decode cX10_appendInput 39 = .ok (.ldc_w 341, 3) := by decide +kernel
theorem dX10_appendInput_42 : decode cX10_appendInput 42 = .ok (.invokespecial 343, 3) := by decide +kernel
theorem dX10_appendInput_45 : decode cX10_appendInput 45 = .ok (.athrow, 1) := by decide +kernel
theorem dX10_appendInput_46 : decode cX10_appendInput 46 = .ok (.aload_n 0, 1) := by decide +kernel
theorem dX10_appendInput_47 : decode cX10_appendInput 47 = .ok (.getfield 53, 3) := by decide +kernel
theorem dX10_appendInput_50 : decode cX10_appendInput 50 = .ok (.iload_n 1, 1) := by decide +kernel
theorem dX10_appendInput_51 : decode cX10_appendInput 51 = .ok (.invokevirtual 344, 3) := by decide +kernel
theorem dX10_appendInput_54 : decode cX10_appendInput 54 = .ok (.aload_n 0, 1) := by decide +kernel
theorem dX10_appendInput_55 : decode cX10_appendInput 55 = .ok (.getfield 53, 3) := by decide +kernel
theorem dX10_appendInput_58 : decode cX10_appendInput 58 = .ok (.getfield 338, 3) := by decide +kernel
theorem dX10_appendInput_61 : decode cX10_appendInput 61 = .ok (.ireturn, 1) := by decide +kernel
theorem dX10_execute_0 : decode cX10_execute 0 = .ok (.aload_n 0, 1) := by decide +kernel
theorem dX10_execute_1 : decode cX10_execute 1 = .ok (.getfield 53, 3) := by decide +kernel
theorem dX10_execute_4 : decode cX10_execute 4 = .ok (.invokevirtual 347, 3) := by decide +kernel
theorem dX10_execute_7 : decode cX10_execute 7 = .ok (.istore_n 1, 1) := by decide +kernel
theorem dX10_execute_8 : decode cX10_execute 8 = .ok (.iload_n 1, 1) := by decide +kernel
theorem dX10_execute_9 : decode cX10_execute 9 = .ok (.ifCond .ge 32, 3) := by decide +kernel
theorem dX10_execute_12 : decode cX10_execute 12 = .ok (.aload_n 0, 1) := by decide +kernel
theorem dX10_execute_13 : decode cX10_execute 13 = .ok (.aload_n 0, 1) := by decide +kernel
theorem dX10_execute_14 : decode cX10_execute 14 = .ok (.getfield 53, 3) := by decide +kernel
theorem dX10_execute_17 : decode cX10_execute 17 = .ok (.getfield 350, 3) := by decide +kernel
theorem dX10_execute_20 : decode cX10_execute 20 = .ok (.putfield 61, 3) := by decide +kernel
theorem dX10_execute_23 : decode cX10_execute 23 = .ok (.aload_n 0, 1) := by decide +kernel
theorem dX10_execute_24 : decode cX10_execute 24 = .ok (.getfield 53, 3) := by decide +kernel
theorem dX10_execute_27 : decode cX10_execute 27 = .ok (.invokevirtual 353, 3) := by decide +kernel
theorem dX10_execute_30 : decode cX10_execute 30 = .ok (.new 132, 3) := by decide +kernel
theorem dX10_execute_33 : decode cX10_execute 33 = .ok (.dup, 1) := by decide +kernel
theorem dX10_execute_34 : decode cX10_execute 34 = .ok (.ldc_w 354, 3) := by decide +kernel
theorem dX10_execute_37 : decode cX10_execute 37 = .ok (.invokespecial 136, 3) := by decide +kernel
theorem dX10_execute_40 : decode cX10_execute 40 = .ok (.athrow, 1) := by decide +kernel
theorem dX10_execute_41 : decode cX10_execute 41 = .ok (.aload_n 0, 1) := by decide +kernel
theorem dX10_execute_42 : decode cX10_execute 42 = .ok (.getfield 16, 3) := by decide +kernel
theorem dX10_execute_45 : decode cX10_execute 45 = .ok (.aload_n 0, 1) := by decide +kernel
theorem dX10_execute_46 : decode cX10_execute 46 = .ok (.getfield 10, 3) := by decide +kernel
theorem dX10_execute_49 : decode cX10_execute 49 = .ok (.invokevirtual 226, 3) := by decide +kernel
theorem dX10_execute_52 : decode cX10_execute 52 = .ok (.aload_n 0, 1) := by decide +kernel
theorem dX10_execute_53 : decode cX10_execute 53 = .ok (.getfield 53, 3) := by decide +kernel
theorem dX10_execute_56 : decode cX10_execute 56 = .ok (.invokevirtual 356, 3) := by decide +kernel
theorem dX10_execute_59 : decode cX10_execute 59 = .ok (.iconst 0, 1) := by decide +kernel
theorem dX10_execute_60 : decode cX10_execute 60 = .ok (.istore_n 2, 1) := by decide +kernel
theorem dX10_execute_61 : decode cX10_execute 61 = .ok (.iconst 0, 1) := by decide +kernel
theorem dX10_execute_62 : decode cX10_execute 62 = .ok (.istore_n 3, 1) := by decide +kernel
theorem dX10_execute_63 : decode cX10_execute 63 = .ok (.iconst 0, 1) := by decide +kernel
theorem dX10_execute_64 : decode cX10_execute 64 = .ok (.istore 4, 2) := by decide +kernel
theorem dX10_execute_66 : decode cX10_execute 66 = .ok (.iload 4, 2) := by decide +kernel
theorem dX10_execute_68 : decode cX10_execute 68 = .ok (.iload_n 1, 1) := by decide +kernel
theorem dX10_execute_69 : decode cX10_execute 69 = .ok (.if_icmp .ge 29, 3) := by decide +kernel
theorem dX10_execute_72 : decode cX10_execute 72 = .ok (.iload_n 2, 1) := by decide +kernel
theorem dX10_execute_73 : decode cX10_execute 73 = .ok (.ifCond .ne 25, 3) := by decide +kernel
theorem dX10_execute_76 : decode cX10_execute 76 = .ok (.iload 4, 2) := by decide +kernel
theorem dX10_execute_78 : decode cX10_execute 78 = .ok (.istore_n 3, 1) := by decide +kernel
theorem dX10_execute_79 : decode cX10_execute 79 = .ok (.aload_n 0, 1) := by decide +kernel
theorem dX10_execute_80 : decode cX10_execute 80 = .ok (.invokevirtual 359, 3) := by decide +kernel
theorem dX10_execute_83 : decode cX10_execute 83 = .ok (.istore_n 2, 1) := by decide +kernel
theorem dX10_execute_84 : decode cX10_execute 84 = .ok (.iload_n 2, 1) := by decide +kernel
theorem dX10_execute_85 : decode cX10_execute 85 = .ok (.ifCond .ne 7, 3) := by decide +kernel
theorem dX10_execute_88 : decode cX10_execute 88 = .ok (.aload_n 0, 1) := by decide +kernel
theorem dX10_execute_89 : decode cX10_execute 89 = .ok (.invokevirtual 362, 3) := by decide +kernel
theorem dX10_execute_92 : decode cX10_execute 92 = .ok (.iinc 4 1, 3) := by decide +kernel
theorem dX10_execute_95 : decode cX10_execute 95 = .ok (.goto (-29), 3) := by decide +kernel
theorem dX10_execute_98 : decode cX10_execute 98 = .ok (.aload_n 0, 1) := by decide +kernel
theorem dX10_execute_99 : decode cX10_execute 99 = .ok (.getfield 53, 3) := by decide +kernel
theorem dX10_execute_102 : decode cX10_execute 102 = .ok (.invokevirtual 353, 3) := by decide +kernel
theorem dX10_execute_105 : decode cX10_execute 105 = .ok (.iload_n 2, 1) := by decide +kernel
theorem dX10_execute_106 : decode cX10_execute 106 = .ok (.iconst (-1), 1) := by decide +kernel
theorem dX10_execute_107 : decode cX10_execute 107 = .ok (.if_icmp .ne 14, 3) := by decide +kernel
theorem dX10_execute_110 : decode cX10_execute 110 = .ok (.new 339, 3) := by decide +kernel
theorem dX10_execute_113 : decode cX10_execute 113 = .ok (.dup, 1) := by decide +kernel
theorem dX10_execute_114 : decode cX10_execute 114 = .ok (.ldc_w 365, 3) := by decide +kernel
theorem dX10_execute_117 : decode cX10_execute 117 = .ok (.invokespecial 343, 3) := by decide +kernel
theorem dX10_execute_120 : decode cX10_execute 120 = .ok (.athrow, 1) := by decide +kernel
theorem dX10_execute_121 : decode cX10_execute 121 = .ok (.iload_n 2, 1) := by decide +kernel
theorem dX10_execute_122 : decode cX10_execute 122 = .ok (.ifCond .eq 22, 3) := by decide +kernel
theorem dX10_execute_125 : decode cX10_execute 125 = .ok (.aload_n 0, 1) := by decide +kernel
theorem dX10_execute_126 : decode cX10_execute 126 = .ok (.bipush 6, 2) := by decide +kernel
theorem dX10_execute_128 : decode cX10_execute 128 = .ok (.iload_n 3, 1) := by decide +kernel
theorem dX10_execute_129 : decode cX10_execute 129 = .ok (.iload_n 2, 1) := by decide +kernel
theorem dX10_execute_130 : decode cX10_execute 130 = .ok (.invokevirtual 367, 3) := by decide +kernel
theorem dX10_execute_133 : decode cX10_execute 133 = .ok (.new 371, 3) := by decide +kernel
theorem dX10_execute_136 : decode cX10_execute 136 = .ok (.dup, 1) := by decide +kernel
theorem dX10_execute_137 : decode cX10_execute 137 = .ok (.ldc_w 373, 3) := by decide +kernel
theorem dX10_execute_140 : decode cX10_execute 140 = .ok (.invokespecial 375, 3) := by decide +kernel
theorem dX10_execute_143 : decode cX10_execute 143 = .ok (.athrow, 1) := by decide +kernel
theorem dX10_execute_144 : decode cX10_execute 144 = .ok (.aload_n 0, 1) := by decide +kernel
theorem dX10_execute_145 : decode cX10_execute 145 = .ok (.getfield 25, 3) := by decide +kernel
theorem dX10_execute_148 : decode cX10_execute 148 = .ok (.aload_n 0, 1) := by decide +kernel
theorem dX10_execute_149 : decode cX10_execute 149 = .ok (.getfield 10, 3) := by decide +kernel
theorem dX10_execute_152 : decode cX10_execute 152 = .ok (.invokevirtual 93, 3) := by decide +kernel
theorem dX10_execute_155 : decode cX10_execute 155 = .ok (.aload_n 0, 1) := by decide +kernel
theorem dX10_execute_156 : decode cX10_execute 156 = .ok (.getfield 10, 3) := by decide +kernel
theorem dX10_execute_159 : decode cX10_execute 159 = .ok (.aload_n 0, 1) := by decide +kernel
theorem dX10_execute_160 : decode cX10_execute 160 = .ok (.getfield 16, 3) := by decide +kernel
theorem dX10_execute_163 : decode cX10_execute 163 = .ok (.invokevirtual 226, 3) := by decide +kernel
theorem dX10_execute_166 : decode cX10_execute 166 = .ok (.iload_n 1, 1) := by decide +kernel
theorem dX10_execute_167 : decode cX10_execute 167 = .ok (.ireturn, 1) := by decide +kernel
theorem dX10_syntaxErrorOffset_0 : decode cX10_syntaxErrorOffset 0 = .ok (.aload_n 0, 1) := by decide +kernel
theorem dX10_syntaxErrorOffset_1 : decode cX10_syntaxErrorOffset 1 = .ok (.getfield 61, 3) := by decide +kernel
theorem dX10_syntaxErrorOffset_4 : decode cX10_syntaxErrorOffset 4 = .ok (.ifCond .ge 14, 3) := by decide +kernel
theorem dX10_syntaxErrorOffset_7 : decode cX10_syntaxErrorOffset 7 = .ok (.new 190, 3) := by decide +kernel
theorem dX10_syntaxErrorOffset_10 : decode cX10_syntaxErrorOffset 10 = .ok (.dup, 1) := by decide +kernel
theorem dX10_syntaxErrorOffset_11 : decode cX10_syntaxErrorOffset 11 = .ok (.ldc_w 376, 3) := by decide +kernel
theorem dX10_syntaxErrorOffset_14 : decode cX10_syntaxErrorOffset 14 = .ok (.invokespecial 194, 3) := by decide +kernel
theorem dX10_syntaxErrorOffset_17 : decode cX10_syntaxErrorOffset 17 = .ok (.athrow, 1) := by decide +kernel
theorem dX10_syntaxErrorOffset_18 : decode cX10_syntaxErrorOffset 18 = .ok (.aload_n 0, 1) := by decide +kernel
theorem dX10_syntaxErrorOffset_19 : decode cX10_syntaxErrorOffset 19 = .ok (.getfield 61, 3) := by decide +kernel
theorem dX10_syntaxErrorOffset_22 : decode cX10_syntaxErrorOffset 22 = .ok (.ireturn, 1) := by decide +kernel
theorem dX10_rejectionReason_0 : decode cX10_rejectionReason 0 = .ok (.aload_n 0, 1) := by decide +kernel
theorem dX10_rejectionReason_1 : decode cX10_rejectionReason 1 = .ok (.getfield 65, 3) := by decide +kernel
theorem dX10_rejectionReason_4 : decode cX10_rejectionReason 4 = .ok (.ifCond .ne 14, 3) := by decide +kernel
theorem dX10_rejectionReason_7 : decode cX10_rejectionReason 7 = .ok (.new 190, 3) := by decide +kernel
theorem dX10_rejectionReason_10 : decode cX10_rejectionReason 10 = .ok (.dup, 1) := by decide +kernel
theorem dX10_rejectionReason_11 : decode cX10_rejectionReason 11 = .ok (.ldc_w 378, 3) := by decide +kernel
theorem dX10_rejectionReason_14 : decode cX10_rejectionReason 14 = .ok (.invokespecial 194, 3) := by decide +kernel
theorem dX10_rejectionReason_17 : decode cX10_rejectionReason 17 = .ok (.athrow, 1) := by decide +kernel
theorem dX10_rejectionReason_18 : decode cX10_rejectionReason 18 = .ok (.aload_n 0, 1) := by decide +kernel
theorem dX10_rejectionReason_19 : decode cX10_rejectionReason 19 = .ok (.getfield 65, 3) := by decide +kernel
theorem dX10_rejectionReason_22 : decode cX10_rejectionReason 22 = .ok (.ireturn, 1) := by decide +kernel
theorem dX10_rejectionDetail_0 : decode cX10_rejectionDetail 0 = .ok (.aload_n 0, 1) := by decide +kernel
theorem dX10_rejectionDetail_1 : decode cX10_rejectionDetail 1 = .ok (.getfield 65, 3) := by decide +kernel
theorem dX10_rejectionDetail_4 : decode cX10_rejectionDetail 4 = .ok (.ifCond .ne 14, 3) := by decide +kernel
theorem dX10_rejectionDetail_7 : decode cX10_rejectionDetail 7 = .ok (.new 190, 3) := by decide +kernel
theorem dX10_rejectionDetail_10 : decode cX10_rejectionDetail 10 = .ok (.dup, 1) := by decide +kernel
theorem dX10_rejectionDetail_11 : decode cX10_rejectionDetail 11 = .ok (.ldc_w 378, 3) := by decide +kernel
theorem dX10_rejectionDetail_14 : decode cX10_rejectionDetail 14 = .ok (.invokespecial 194, 3) := by decide +kernel
theorem dX10_rejectionDetail_17 : decode cX10_rejectionDetail 17 = .ok (.athrow, 1) := by decide +kernel
theorem dX10_rejectionDetail_18 : decode cX10_rejectionDetail 18 = .ok (.aload_n 0, 1) := by decide +kernel
theorem dX10_rejectionDetail_19 : decode cX10_rejectionDetail 19 = .ok (.getfield 68, 3) := by decide +kernel
theorem dX10_rejectionDetail_22 : decode cX10_rejectionDetail 22 = .ok (.ireturn, 1) := by decide +kernel
theorem dX10_causeReason_0 : decode cX10_causeReason 0 = .ok (.aload_n 0, 1) := by decide +kernel
theorem dX10_causeReason_1 : decode cX10_causeReason 1 = .ok (.getfield 65, 3) := by decide +kernel
theorem dX10_causeReason_4 : decode cX10_causeReason 4 = .ok (.bipush 6, 2) := by decide +kernel
theorem dX10_causeReason_6 : decode cX10_causeReason 6 = .ok (.if_icmp .eq 14, 3) := by decide +kernel
theorem dX10_causeReason_9 : decode cX10_causeReason 9 = .ok (.new 190, 3) := by decide +kernel
theorem dX10_causeReason_12 : decode cX10_causeReason 12 = .ok (.dup, 1) := by decide +kernel
theorem dX10_causeReason_13 : decode cX10_causeReason 13 = .ok (.ldc_w 380, 3) := by decide +kernel
theorem dX10_causeReason_16 : decode cX10_causeReason 16 = .ok (.invokespecial 194, 3) := by decide +kernel
theorem dX10_causeReason_19 : decode cX10_causeReason 19 = .ok (.athrow, 1) := by decide +kernel
theorem dX10_causeReason_20 : decode cX10_causeReason 20 = .ok (.aload_n 0, 1) := by decide +kernel
theorem dX10_causeReason_21 : decode cX10_causeReason 21 = .ok (.getfield 71, 3) := by decide +kernel
theorem dX10_causeReason_24 : decode cX10_causeReason 24 = .ok (.ireturn, 1) := by decide +kernel
theorem dX10_undo_0 : decode cX10_undo 0 = .ok (.aload_n 0, 1) := by decide +kernel
theorem dX10_undo_1 : decode cX10_undo 1 = .ok (.getfield 25, 3) := by decide +kernel
theorem dX10_undo_4 : decode cX10_undo 4 = .ok (.getfield 382, 3) := by decide +kernel
theorem dX10_undo_7 : decode cX10_undo 7 = .ok (.ifCond .ne 14, 3) := by decide +kernel
theorem dX10_undo_10 : decode cX10_undo 10 = .ok (.new 339, 3) := by decide +kernel
theorem dX10_undo_13 : decode cX10_undo 13 = .ok (.dup, 1) := by decide +kernel
theorem dX10_undo_14 : decode cX10_undo 14 = .ok (.ldc_w 384, 3) := by decide +kernel
theorem dX10_undo_17 : decode cX10_undo 17 = .ok (.invokespecial 343, 3) := by decide +kernel
theorem dX10_undo_20 : decode cX10_undo 20 = .ok (.athrow, 1) := by decide +kernel
theorem dX10_undo_21 : decode cX10_undo 21 = .ok (.aload_n 0, 1) := by decide +kernel
theorem dX10_undo_22 : decode cX10_undo 22 = .ok (.getfield 25, 3) := by decide +kernel
theorem dX10_undo_25 : decode cX10_undo 25 = .ok (.aload_n 0, 1) := by decide +kernel
theorem dX10_undo_26 : decode cX10_undo 26 = .ok (.getfield 10, 3) := by decide +kernel
theorem dX10_undo_29 : decode cX10_undo 29 = .ok (.invokevirtual 386, 3) := by decide +kernel
theorem dX10_undo_32 : decode cX10_undo 32 = .ok (.aload_n 0, 1) := by decide +kernel
theorem dX10_undo_33 : decode cX10_undo 33 = .ok (.getfield 25, 3) := by decide +kernel
theorem dX10_undo_36 : decode cX10_undo 36 = .ok (.getfield 382, 3) := by decide +kernel
theorem dX10_undo_39 : decode cX10_undo 39 = .ok (.ireturn, 1) := by decide +kernel
theorem dX10_saveSnapshot_0 : decode cX10_saveSnapshot 0 = .ok (.aload_n 0, 1) := by decide +kernel
theorem dX10_saveSnapshot_1 : decode cX10_saveSnapshot 1 = .ok (.getfield 19, 3) := by decide +kernel
theorem dX10_saveSnapshot_4 : decode cX10_saveSnapshot 4 = .ok (.aload_n 0, 1) := by decide +kernel
theorem dX10_saveSnapshot_5 : decode cX10_saveSnapshot 5 = .ok (.getfield 10, 3) := by decide +kernel
theorem dX10_saveSnapshot_8 : decode cX10_saveSnapshot 8 = .ok (.invokevirtual 226, 3) := by decide +kernel
theorem dX10_saveSnapshot_11 : decode cX10_saveSnapshot 11 = .ok (.aload_n 0, 1) := by decide +kernel
theorem dX10_saveSnapshot_12 : decode cX10_saveSnapshot 12 = .ok (.iconst 1, 1) := by decide +kernel
theorem dX10_saveSnapshot_13 : decode cX10_saveSnapshot 13 = .ok (.putfield 57, 3) := by decide +kernel
theorem dX10_saveSnapshot_16 : decode cX10_saveSnapshot 16 = .ok (.aload_n 0, 1) := by decide +kernel
theorem dX10_saveSnapshot_17 : decode cX10_saveSnapshot 17 = .ok (.getfield 10, 3) := by decide +kernel
theorem dX10_saveSnapshot_20 : decode cX10_saveSnapshot 20 = .ok (.bipush 42, 2) := by decide +kernel
theorem dX10_saveSnapshot_22 : decode cX10_saveSnapshot 22 = .ok (.invokevirtual 101, 3) := by decide +kernel
theorem dX10_saveSnapshot_25 : decode cX10_saveSnapshot 25 = .ok (.ireturn, 1) := by decide +kernel
theorem dX10_restoreSnapshot_0 : decode cX10_restoreSnapshot 0 = .ok (.aload_n 0, 1) := by decide +kernel
theorem dX10_restoreSnapshot_1 : decode cX10_restoreSnapshot 1 = .ok (.getfield 57, 3) := by decide +kernel
theorem dX10_restoreSnapshot_4 : decode cX10_restoreSnapshot 4 = .ok (.ifCond .ne 14, 3) := by decide +kernel
theorem dX10_restoreSnapshot_7 : decode cX10_restoreSnapshot 7 = .ok (.new 339, 3) := by decide +kernel
theorem dX10_restoreSnapshot_10 : decode cX10_restoreSnapshot 10 = .ok (.dup, 1) := by decide +kernel
theorem dX10_restoreSnapshot_11 : decode cX10_restoreSnapshot 11 = .ok (.ldc_w 389, 3) := by decide +kernel
theorem dX10_restoreSnapshot_14 : decode cX10_restoreSnapshot 14 = .ok (.invokespecial 343, 3) := by decide +kernel
theorem dX10_restoreSnapshot_17 : decode cX10_restoreSnapshot 17 = .ok (.athrow, 1) := by decide +kernel
theorem dX10_restoreSnapshot_18 : decode cX10_restoreSnapshot 18 = .ok (.aload_n 0, 1) := by decide +kernel
theorem dX10_restoreSnapshot_19 : decode cX10_restoreSnapshot 19 = .ok (.getfield 10, 3) := by decide +kernel
theorem dX10_restoreSnapshot_22 : decode cX10_restoreSnapshot 22 = .ok (.aload_n 0, 1) := by decide +kernel
theorem dX10_restoreSnapshot_23 : decode cX10_restoreSnapshot 23 = .ok (.getfield 19, 3) := by decide +kernel
theorem dX10_restoreSnapshot_26 : decode cX10_restoreSnapshot 26 = .ok (.invokevirtual 226, 3) := by decide +kernel
theorem dX10_restoreSnapshot_29 : decode cX10_restoreSnapshot 29 = .ok (.aload_n 0, 1) := by decide +kernel
theorem dX10_restoreSnapshot_30 : decode cX10_restoreSnapshot 30 = .ok (.getfield 25, 3) := by decide +kernel
theorem dX10_restoreSnapshot_33 : decode cX10_restoreSnapshot 33 = .ok (.invokevirtual 391, 3) := by decide +kernel
theorem dX10_restoreSnapshot_36 : decode cX10_restoreSnapshot 36 = .ok (.aload_n 0, 1) := by decide +kernel
theorem dX10_restoreSnapshot_37 : decode cX10_restoreSnapshot 37 = .ok (.getfield 10, 3) := by decide +kernel
theorem dX10_restoreSnapshot_40 : decode cX10_restoreSnapshot 40 = .ok (.bipush 42, 2) := by decide +kernel
theorem dX10_restoreSnapshot_42 : decode cX10_restoreSnapshot 42 = .ok (.invokevirtual 101, 3) := by decide +kernel
theorem dX10_restoreSnapshot_45 : decode cX10_restoreSnapshot 45 = .ok (.ireturn, 1) := by decide +kernel
theorem dX10_isInside_0 : decode cX10_isInside 0 = .ok (.iload_n 0, 1) := by decide +kernel
theorem dX10_isInside_1 : decode cX10_isInside 1 = .ok (.ifCond .lt 23, 3) := by decide +kernel
theorem dX10_isInside_4 : decode cX10_isInside 4 = .ok (.iload_n 0, 1) := by decide +kernel
theorem dX10_isInside_5 : decode cX10_isInside 5 = .ok (.bipush 8, 2) := by decide +kernel
theorem dX10_isInside_7 : decode cX10_isInside 7 = .ok (.if_icmp .ge 17, 3) := by decide +kernel
theorem dX10_isInside_10 : decode cX10_isInside 10 = .ok (.iload_n 1, 1) := by decide +kernel
theorem dX10_isInside_11 : decode cX10_isInside 11 = .ok (.ifCond .lt 13, 3) := by decide +kernel
theorem dX10_isInside_14 : decode cX10_isInside 14 = .ok (.iload_n 1, 1) := by decide +kernel
theorem dX10_isInside_15 : decode cX10_isInside 15 = .ok (.bipush 8, 2) := by decide +kernel
theorem dX10_isInside_17 : decode cX10_isInside 17 = .ok (.if_icmp .ge 7, 3) := by decide +kernel
theorem dX10_isInside_20 : decode cX10_isInside 20 = .ok (.iconst 1, 1) := by decide +kernel
theorem dX10_isInside_21 : decode cX10_isInside 21 = .ok (.goto 4, 3) := by decide +kernel
theorem dX10_isInside_24 : decode cX10_isInside 24 = .ok (.iconst 0, 1) := by decide +kernel
theorem dX10_isInside_25 : decode cX10_isInside 25 = .ok (.ireturn, 1) := by decide +kernel
theorem dX10_cellNumber_0 : decode cX10_cellNumber 0 = .ok (.bipush 8, 2) := by decide +kernel
theorem dX10_cellNumber_2 : decode cX10_cellNumber 2 = .ok (.iload_n 0, 1) := by decide +kernel
theorem dX10_cellNumber_3 : decode cX10_cellNumber 3 = .ok (.imul, 1) := by decide +kernel
theorem dX10_cellNumber_4 : decode cX10_cellNumber 4 = .ok (.iload_n 1, 1) := by decide +kernel
theorem dX10_cellNumber_5 : decode cX10_cellNumber 5 = .ok (.iadd, 1) := by decide +kernel
theorem dX10_cellNumber_6 : decode cX10_cellNumber 6 = .ok (.ireturn, 1) := by decide +kernel
theorem dX10_isColour_0 : decode cX10_isColour 0 = .ok (.iload_n 0, 1) := by decide +kernel
theorem dX10_isColour_1 : decode cX10_isColour 1 = .ok (.bipush 97, 2) := by decide +kernel
theorem dX10_isColour_3 : decode cX10_isColour 3 = .ok (.if_icmp .lt 13, 3) := by decide +kernel
theorem dX10_isColour_6 : decode cX10_isColour 6 = .ok (.iload_n 0, 1) := by decide +kernel
theorem dX10_isColour_7 : decode cX10_isColour 7 = .ok (.bipush 100, 2) := by decide +kernel
theorem dX10_isColour_9 : decode cX10_isColour 9 = .ok (.if_icmp .gt 7, 3) := by decide +kernel
theorem dX10_isColour_12 : decode cX10_isColour 12 = .ok (.iconst 1, 1) := by decide +kernel
theorem dX10_isColour_13 : decode cX10_isColour 13 = .ok (.goto 4, 3) := by decide +kernel
theorem dX10_isColour_16 : decode cX10_isColour 16 = .ok (.iconst 0, 1) := by decide +kernel
theorem dX10_isColour_17 : decode cX10_isColour 17 = .ok (.ireturn, 1) := by decide +kernel
theorem dX10_colourNumbered_0 : decode cX10_colourNumbered 0 = .ok (.bipush 97, 2) := by decide +kernel
theorem dX10_colourNumbered_2 : decode cX10_colourNumbered 2 = .ok (.iload_n 0, 1) := by decide +kernel
theorem dX10_colourNumbered_3 : decode cX10_colourNumbered 3 = .ok (.iadd, 1) := by decide +kernel
theorem dX10_colourNumbered_4 : decode cX10_colourNumbered 4 = .ok (.i2c, 1) := by decide +kernel
theorem dX10_colourNumbered_5 : decode cX10_colourNumbered 5 = .ok (.ireturn, 1) := by decide +kernel
theorem dX10_ruleOf_0 : decode cX10_ruleOf 0 = .ok (.iconst 0, 1) := by decide +kernel
theorem dX10_ruleOf_1 : decode cX10_ruleOf 1 = .ok (.istore_n 1, 1) := by decide +kernel
theorem dX10_ruleOf_2 : decode cX10_ruleOf 2 = .ok (.iload_n 1, 1) := by decide +kernel
theorem dX10_ruleOf_3 : decode cX10_ruleOf 3 = .ok (.getstatic 394, 3) := by decide +kernel
theorem dX10_ruleOf_6 : decode cX10_ruleOf 6 = .ok (.arraylength, 1) := by decide +kernel
theorem dX10_ruleOf_7 : decode cX10_ruleOf 7 = .ok (.if_icmp .ge 27, 3) := by decide +kernel
theorem dX10_ruleOf_10 : decode cX10_ruleOf 10 = .ok (.getstatic 394, 3) := by decide +kernel
theorem dX10_ruleOf_13 : decode cX10_ruleOf 13 = .ok (.iload_n 1, 1) := by decide +kernel
theorem dX10_ruleOf_14 : decode cX10_ruleOf 14 = .ok (.aaload, 1) := by decide +kernel
theorem dX10_ruleOf_15 : decode cX10_ruleOf 15 = .ok (.getfield 238, 3) := by decide +kernel
theorem dX10_ruleOf_18 : decode cX10_ruleOf 18 = .ok (.iload_n 0, 1) := by decide +kernel
theorem dX10_ruleOf_19 : decode cX10_ruleOf 19 = .ok (.if_icmp .ne 9, 3) := by decide +kernel
theorem dX10_ruleOf_22 : decode cX10_ruleOf 22 = .ok (.getstatic 394, 3) := by decide +kernel
theorem dX10_ruleOf_25 : decode cX10_ruleOf 25 = .ok (.iload_n 1, 1) := by decide +kernel
theorem dX10_ruleOf_26 : decode cX10_ruleOf 26 = .ok (.aaload, 1) := by decide +kernel
theorem dX10_ruleOf_27 : decode cX10_ruleOf 27 = .ok (.areturn, 1) := by decide +kernel
theorem dX10_ruleOf_28 : decode cX10_ruleOf 28 = .ok (.iinc 1 1, 3) := by decide +kernel
theorem dX10_ruleOf_31 : decode cX10_ruleOf 31 = .ok (.goto (-29), 3) := by decide +kernel
theorem dX10_ruleOf_34 : decode cX10_ruleOf 34 = .ok (.aconst_null, 1) := by decide +kernel
theorem dX10_ruleOf_35 : decode cX10_ruleOf 35 = .ok (.areturn, 1) := by decide +kernel
theorem dX10_patternOf_0 : decode cX10_patternOf 0 = .ok (.iconst 0, 1) := by decide +kernel
theorem dX10_patternOf_1 : decode cX10_patternOf 1 = .ok (.istore_n 1, 1) := by decide +kernel
theorem dX10_patternOf_2 : decode cX10_patternOf 2 = .ok (.iload_n 1, 1) := by decide +kernel
theorem dX10_patternOf_3 : decode cX10_patternOf 3 = .ok (.getstatic 398, 3) := by decide +kernel
theorem dX10_patternOf_6 : decode cX10_patternOf 6 = .ok (.arraylength, 1) := by decide +kernel
theorem dX10_patternOf_7 : decode cX10_patternOf 7 = .ok (.if_icmp .ge 27, 3) := by decide +kernel
theorem dX10_patternOf_10 : decode cX10_patternOf 10 = .ok (.getstatic 398, 3) := by decide +kernel
theorem dX10_patternOf_13 : decode cX10_patternOf 13 = .ok (.iload_n 1, 1) := by decide +kernel
theorem dX10_patternOf_14 : decode cX10_patternOf 14 = .ok (.aaload, 1) := by decide +kernel
theorem dX10_patternOf_15 : decode cX10_patternOf 15 = .ok (.getfield 402, 3) := by decide +kernel
theorem dX10_patternOf_18 : decode cX10_patternOf 18 = .ok (.iload_n 0, 1) := by decide +kernel
theorem dX10_patternOf_19 : decode cX10_patternOf 19 = .ok (.if_icmp .ne 9, 3) := by decide +kernel
theorem dX10_patternOf_22 : decode cX10_patternOf 22 = .ok (.getstatic 398, 3) := by decide +kernel
theorem dX10_patternOf_25 : decode cX10_patternOf 25 = .ok (.iload_n 1, 1) := by decide +kernel
theorem dX10_patternOf_26 : decode cX10_patternOf 26 = .ok (.aaload, 1) := by decide +kernel
theorem dX10_patternOf_27 : decode cX10_patternOf 27 = .ok (.areturn, 1) := by decide +kernel
theorem dX10_patternOf_28 : decode cX10_patternOf 28 = .ok (.iinc 1 1, 3) := by decide +kernel
theorem dX10_patternOf_31 : decode cX10_patternOf 31 = .ok (.goto (-29), 3) := by decide +kernel
theorem dX10_patternOf_34 : decode cX10_patternOf 34 = .ok (.aconst_null, 1) := by decide +kernel
theorem dX10_patternOf_35 : decode cX10_patternOf 35 = .ok (.areturn, 1) := by decide +kernel
theorem dX10_requireCell_0 : decode cX10_requireCell 0 = .ok (.iload_n 0, 1) := by decide +kernel
theorem dX10_requireCell_1 : decode cX10_requireCell 1 = .ok (.iload_n 1, 1) := by decide +kernel
theorem dX10_requireCell_2 : decode cX10_requireCell 2 = .ok (.invokestatic 403, 3) := by decide +kernel
theorem dX10_requireCell_5 : decode cX10_requireCell 5 = .ok (.ifCond .ne 14, 3) := by decide +kernel
theorem dX10_requireCell_8 : decode cX10_requireCell 8 = .ok (.new 294, 3) := by decide +kernel
theorem dX10_requireCell_11 : decode cX10_requireCell 11 = .ok (.dup, 1) := by decide +kernel
theorem dX10_requireCell_12 : decode cX10_requireCell 12 = .ok (.ldc_w 407, 3) := by decide +kernel
theorem dX10_requireCell_15 : decode cX10_requireCell 15 = .ok (.invokespecial 298, 3) := by decide +kernel
theorem dX10_requireCell_18 : decode cX10_requireCell 18 = .ok (.athrow, 1) := by decide +kernel
theorem dX10_requireCell_19 : decode cX10_requireCell 19 = .ok (.return_, 1) := by decide +kernel
theorem dX10_requireColour_0 : decode cX10_requireColour 0 = .ok (.iload_n 0, 1) := by decide +kernel
theorem dX10_requireColour_1 : decode cX10_requireColour 1 = .ok (.invokestatic 176, 3) := by decide +kernel
theorem dX10_requireColour_4 : decode cX10_requireColour 4 = .ok (.ifCond .ne 14, 3) := by decide +kernel
theorem dX10_requireColour_7 : decode cX10_requireColour 7 = .ok (.new 132, 3) := by decide +kernel
theorem dX10_requireColour_10 : decode cX10_requireColour 10 = .ok (.dup, 1) := by decide +kernel
theorem dX10_requireColour_11 : decode cX10_requireColour 11 = .ok (.ldc_w 409, 3) := by decide +kernel
theorem dX10_requireColour_14 : decode cX10_requireColour 14 = .ok (.invokespecial 136, 3) := by decide +kernel
theorem dX10_requireColour_17 : decode cX10_requireColour 17 = .ok (.athrow, 1) := by decide +kernel
theorem dX10_requireColour_18 : decode cX10_requireColour 18 = .ok (.return_, 1) := by decide +kernel
theorem dX10_requireNeighbours_0 : decode cX10_requireNeighbours 0 = .ok (.iload_n 0, 1) := by decide +kernel
theorem dX10_requireNeighbours_1 : decode cX10_requireNeighbours 1 = .ok (.ifCond .lt 9, 3) := by decide +kernel
theorem dX10_requireNeighbours_4 : decode cX10_requireNeighbours 4 = .ok (.iload_n 0, 1) := by decide +kernel
theorem dX10_requireNeighbours_5 : decode cX10_requireNeighbours 5 = .ok (.bipush 8, 2) := by decide +kernel
theorem dX10_requireNeighbours_7 : decode cX10_requireNeighbours 7 = .ok (.if_icmp .le 14, 3) := by decide +kernel
theorem dX10_requireNeighbours_10 : decode cX10_requireNeighbours 10 = .ok (.new 132, 3) := by decide +kernel
theorem dX10_requireNeighbours_13 : decode cX10_requireNeighbours 13 = .ok (.dup, 1) := by decide +kernel
theorem dX10_requireNeighbours_14 : decode cX10_requireNeighbours 14 = .ok (.ldc_w 411, 3) := by decide +kernel
theorem dX10_requireNeighbours_17 : decode cX10_requireNeighbours 17 = .ok (.invokespecial 136, 3) := by decide +kernel
theorem dX10_requireNeighbours_20 : decode cX10_requireNeighbours 20 = .ok (.athrow, 1) := by decide +kernel
theorem dX10_requireNeighbours_21 : decode cX10_requireNeighbours 21 = .ok (.return_, 1) := by decide +kernel
theorem dX10_requireLiving_0 : decode cX10_requireLiving 0 = .ok (.aload_n 0, 1) := by decide +kernel
theorem dX10_requireLiving_1 : decode cX10_requireLiving 1 = .ok (.getfield 10, 3) := by decide +kernel
theorem dX10_requireLiving_4 : decode cX10_requireLiving 4 = .ok (.iload_n 1, 1) := by decide +kernel
theorem dX10_requireLiving_5 : decode cX10_requireLiving 5 = .ok (.iload_n 2, 1) := by decide +kernel
theorem dX10_requireLiving_6 : decode cX10_requireLiving 6 = .ok (.invokestatic 82, 3) := by decide +kernel
theorem dX10_requireLiving_9 : decode cX10_requireLiving 9 = .ok (.invokevirtual 121, 3) := by decide +kernel
theorem dX10_requireLiving_12 : decode cX10_requireLiving 12 = .ok (.invokestatic 176, 3) := by decide +kernel
theorem dX10_requireLiving_15 : decode cX10_requireLiving 15 = .ok (.ifCond .ne 14, 3) := by decide +kernel
theorem dX10_requireLiving_18 : decode cX10_requireLiving 18 = .ok (.new 190, 3) := by decide +kernel
theorem dX10_requireLiving_21 : decode cX10_requireLiving 21 = .ok (.dup, 1) := by decide +kernel
theorem dX10_requireLiving_22 : decode cX10_requireLiving 22 = .ok (.ldc_w 413, 3) := by decide +kernel
theorem dX10_requireLiving_25 : decode cX10_requireLiving 25 = .ok (.invokespecial 194, 3) := by decide +kernel
theorem dX10_requireLiving_28 : decode cX10_requireLiving 28 = .ok (.athrow, 1) := by decide +kernel
theorem dX10_requireLiving_29 : decode cX10_requireLiving 29 = .ok (.return_, 1) := by decide +kernel
theorem dX10_noteRejection_0 : decode cX10_noteRejection 0 = .ok (.aload_n 0, 1) := by decide +kernel
theorem dX10_noteRejection_1 : decode cX10_noteRejection 1 = .ok (.iload_n 1, 1) := by decide +kernel
theorem dX10_noteRejection_2 : decode cX10_noteRejection 2 = .ok (.putfield 65, 3) := by decide +kernel
theorem dX10_noteRejection_5 : decode cX10_noteRejection 5 = .ok (.aload_n 0, 1) := by decide +kernel
theorem dX10_noteRejection_6 : decode cX10_noteRejection 6 = .ok (.iload_n 2, 1) := by decide +kernel
theorem dX10_noteRejection_7 : decode cX10_noteRejection 7 = .ok (.putfield 68, 3) := by decide +kernel
theorem dX10_noteRejection_10 : decode cX10_noteRejection 10 = .ok (.aload_n 0, 1) := by decide +kernel
theorem dX10_noteRejection_11 : decode cX10_noteRejection 11 = .ok (.iload_n 3, 1) := by decide +kernel
theorem dX10_noteRejection_12 : decode cX10_noteRejection 12 = .ok (.putfield 71, 3) := by decide +kernel
theorem dX10_noteRejection_15 : decode cX10_noteRejection 15 = .ok (.return_, 1) := by decide +kernel
theorem dX10_rejectFor_0 : decode cX10_rejectFor 0 = .ok (.iload_n 1, 1) := by decide +kernel
theorem dX10_rejectFor_1 : decode cX10_rejectFor 1 = .ok (.ifCond .eq 21, 3) := by decide +kernel
theorem dX10_rejectFor_4 : decode cX10_rejectFor 4 = .ok (.aload_n 0, 1) := by decide +kernel
theorem dX10_rejectFor_5 : decode cX10_rejectFor 5 = .ok (.iload_n 1, 1) := by decide +kernel
theorem dX10_rejectFor_6 : decode cX10_rejectFor 6 = .ok (.iload_n 2, 1) := by decide +kernel
theorem dX10_rejectFor_7 : decode cX10_rejectFor 7 = .ok (.iconst 0, 1) := by decide +kernel
theorem dX10_rejectFor_8 : decode cX10_rejectFor 8 = .ok (.invokevirtual 367, 3) := by decide +kernel
theorem dX10_rejectFor_11 : decode cX10_rejectFor 11 = .ok (.new 371, 3) := by decide +kernel
theorem dX10_rejectFor_14 : decode cX10_rejectFor 14 = .ok (.dup, 1) := by decide +kernel
theorem dX10_rejectFor_15 : decode cX10_rejectFor 15 = .ok (.ldc_w 415, 3) := by decide +kernel
theorem dX10_rejectFor_18 : decode cX10_rejectFor 18 = .ok (.invokespecial 375, 3) := by decide +kernel
theorem dX10_rejectFor_21 : decode cX10_rejectFor 21 = .ok (.athrow, 1) := by decide +kernel
theorem dX10_rejectFor_22 : decode cX10_rejectFor 22 = .ok (.return_, 1) := by decide +kernel
theorem dX10_rejectUnlessLiving_0 : decode cX10_rejectUnlessLiving 0 = .ok (.aload_n 0, 1) := by decide +kernel
theorem dX10_rejectUnlessLiving_1 : decode cX10_rejectUnlessLiving 1 = .ok (.getfield 10, 3) := by decide +kernel
theorem dX10_rejectUnlessLiving_4 : decode cX10_rejectUnlessLiving 4 = .ok (.iload_n 1, 1) := by decide +kernel
theorem dX10_rejectUnlessLiving_5 : decode cX10_rejectUnlessLiving 5 = .ok (.invokevirtual 417, 3) := by decide +kernel
theorem dX10_rejectUnlessLiving_8 : decode cX10_rejectUnlessLiving 8 = .ok (.istore_n 2, 1) := by decide +kernel
theorem dX10_rejectUnlessLiving_9 : decode cX10_rejectUnlessLiving 9 = .ok (.aload_n 0, 1) := by decide +kernel
theorem dX10_rejectUnlessLiving_10 : decode cX10_rejectUnlessLiving 10 = .ok (.iload_n 2, 1) := by decide +kernel
theorem dX10_rejectUnlessLiving_11 : decode cX10_rejectUnlessLiving 11 = .ok (.iload_n 2, 1) := by decide +kernel
theorem dX10_rejectUnlessLiving_12 : decode cX10_rejectUnlessLiving 12 = .ok (.iconst 3, 1) := by decide +kernel
theorem dX10_rejectUnlessLiving_13 : decode cX10_rejectUnlessLiving 13 = .ok (.if_icmp .ne 15, 3) := by decide +kernel
theorem dX10_rejectUnlessLiving_16 : decode cX10_rejectUnlessLiving 16 = .ok (.aload_n 0, 1) := by decide +kernel
theorem dX10_rejectUnlessLiving_17 : decode cX10_rejectUnlessLiving 17 = .ok (.getfield 10, 3) := by decide +kernel
theorem dX10_rejectUnlessLiving_20 : decode cX10_rejectUnlessLiving 20 = .ok (.bipush 35, 2) := by decide +kernel
theorem dX10_rejectUnlessLiving_22 : decode cX10_rejectUnlessLiving 22 = .ok (.invokevirtual 101, 3) := by decide +kernel
theorem dX10_rejectUnlessLiving_25 : decode cX10_rejectUnlessLiving 25 = .ok (.goto 4, 3) := by decide +kernel
theorem dX10_rejectUnlessLiving_28 : decode cX10_rejectUnlessLiving 28 = .ok (.iload_n 1, 1) := by decide +kernel
theorem dX10_rejectUnlessLiving_29 : decode cX10_rejectUnlessLiving 29 = .ok (.invokevirtual 90, 3) := by decide +kernel
theorem dX10_rejectUnlessLiving_32 : decode cX10_rejectUnlessLiving 32 = .ok (.return_, 1) := by decide +kernel
theorem dX10_tidesUntilTrialIsStill_0 : decode cX10_tidesUntilTrialIsStill 0 = .ok (.aload_n 0, 1) := by decide +kernel
theorem dX10_tidesUntilTrialIsStill_1 : decode cX10_tidesUntilTrialIsStill 1 = .ok (.getfield 16, 3) := by decide +kernel
theorem dX10_tidesUntilTrialIsStill_4 : decode cX10_tidesUntilTrialIsStill 4 = .ok (.aload_n 0, 1) := by decide +kernel
theorem dX10_tidesUntilTrialIsStill_5 : decode cX10_tidesUntilTrialIsStill 5 = .ok (.getfield 10, 3) := by decide +kernel
theorem dX10_tidesUntilTrialIsStill_8 : decode cX10_tidesUntilTrialIsStill 8 = .ok (.invokevirtual 226, 3) := by decide +kernel
theorem dX10_tidesUntilTrialIsStill_11 : decode cX10_tidesUntilTrialIsStill 11 = .ok (.iconst 0, 1) := by decide +kernel
theorem dX10_tidesUntilTrialIsStill_12 : decode cX10_tidesUntilTrialIsStill 12 = .ok (.istore_n 1, 1) := by decide +kernel
theorem dX10_tidesUntilTrialIsStill_13 : decode cX10_tidesUntilTrialIsStill 13 = .ok (.iload_n 1, 1) := by decide +kernel
theorem dX10_tidesUntilTrialIsStill_14 : decode cX10_tidesUntilTrialIsStill 14 = .ok (.bipush 40, 2) := by decide +kernel
theorem dX10_tidesUntilTrialIsStill_16 : decode cX10_tidesUntilTrialIsStill 16 = .ok (.if_icmp .gt 32, 3) := by decide +kernel
theorem dX10_tidesUntilTrialIsStill_19 : decode cX10_tidesUntilTrialIsStill 19 = .ok (.aload_n 0, 1) := by decide +kernel
theorem dX10_tidesUntilTrialIsStill_20 : decode cX10_tidesUntilTrialIsStill 20 = .ok (.getfield 16, 3) := by decide +kernel
theorem dX10_tidesUntilTrialIsStill_23 : decode cX10_tidesUntilTrialIsStill 23 = .ok (.invokevirtual 229, 3) := by decide +kernel
theorem dX10_tidesUntilTrialIsStill_26 : decode cX10_tidesUntilTrialIsStill 26 = .ok (.ifCond .eq 5, 3) := by decide +kernel
theorem dX10_tidesUntilTrialIsStill_29 : decode cX10_tidesUntilTrialIsStill 29 = .ok (.iload_n 1, 1) := by decide +kernel
theorem dX10_tidesUntilTrialIsStill_30 : decode cX10_tidesUntilTrialIsStill 30 = .ok (.ireturn, 1) := by decide +kernel
theorem dX10_tidesUntilTrialIsStill_31 : decode cX10_tidesUntilTrialIsStill 31 = .ok (.aload_n 0, 1) := by decide +kernel
theorem dX10_tidesUntilTrialIsStill_32 : decode cX10_tidesUntilTrialIsStill 32 = .ok (.getfield 32, 3) := by decide +kernel
theorem dX10_tidesUntilTrialIsStill_35 : decode cX10_tidesUntilTrialIsStill 35 = .ok (.aload_n 0, 1) := by decide +kernel
theorem dX10_tidesUntilTrialIsStill_36 : decode cX10_tidesUntilTrialIsStill 36 = .ok (.getfield 16, 3) := by decide +kernel
theorem dX10_tidesUntilTrialIsStill_39 : decode cX10_tidesUntilTrialIsStill 39 = .ok (.invokevirtual 420, 3) := by decide +kernel
theorem dX10_tidesUntilTrialIsStill_42 : decode cX10_tidesUntilTrialIsStill 42 = .ok (.iinc 1 1, 3) := by decide +kernel
theorem dX10_tidesUntilTrialIsStill_45 : decode cX10_tidesUntilTrialIsStill 45 = .ok (.goto (-32), 3) := by decide +kernel
theorem dX10_tidesUntilTrialIsStill_48 : decode cX10_tidesUntilTrialIsStill 48 = .ok (.bipush 41, 2) := by decide +kernel
theorem dX10_tidesUntilTrialIsStill_50 : decode cX10_tidesUntilTrialIsStill 50 = .ok (.ireturn, 1) := by decide +kernel
theorem dX10_rankOfRow_0 : decode cX10_rankOfRow 0 = .ok (.iconst 0, 1) := by decide +kernel
theorem dX10_rankOfRow_1 : decode cX10_rankOfRow 1 = .ok (.istore_n 2, 1) := by decide +kernel
theorem dX10_rankOfRow_2 : decode cX10_rankOfRow 2 = .ok (.iconst 0, 1) := by decide +kernel
theorem dX10_rankOfRow_3 : decode cX10_rankOfRow 3 = .ok (.istore_n 3, 1) := by decide +kernel
theorem dX10_rankOfRow_4 : decode cX10_rankOfRow 4 = .ok (.iload_n 3, 1) := by decide +kernel
theorem dX10_rankOfRow_5 : decode cX10_rankOfRow 5 = .ok (.bipush 8, 2) := by decide +kernel
theorem dX10_rankOfRow_7 : decode cX10_rankOfRow 7 = .ok (.if_icmp .ge 26, 3) := by decide +kernel
theorem dX10_rankOfRow_10 : decode cX10_rankOfRow 10 = .ok (.iload_n 3, 1) := by decide +kernel
theorem dX10_rankOfRow_11 : decode cX10_rankOfRow 11 = .ok (.iload_n 1, 1) := by decide +kernel
theorem dX10_rankOfRow_12 : decode cX10_rankOfRow 12 = .ok (.if_icmp .eq 15, 3) := by decide +kernel
theorem dX10_rankOfRow_15 : decode cX10_rankOfRow 15 = .ok (.aload_n 0, 1) := by decide +kernel
theorem dX10_rankOfRow_16 : decode cX10_rankOfRow 16 = .ok (.iload_n 3, 1) := by decide +kernel
theorem dX10_rankOfRow_17 : decode cX10_rankOfRow 17 = .ok (.iload_n 1, 1) := by decide +kernel
theorem dX10_rankOfRow_18 : decode cX10_rankOfRow 18 = .ok (.invokevirtual 423, 3) := by decide +kernel
theorem dX10_rankOfRow_21 : decode cX10_rankOfRow 21 = .ok (.ifCond .eq 6, 3) := by decide +kernel
theorem dX10_rankOfRow_24 : decode cX10_rankOfRow 24 = .ok (.iinc 2 1, 3) := by decide +kernel
theorem dX10_rankOfRow_27 : decode cX10_rankOfRow 27 = .ok (.iinc 3 1, 3) := by decide +kernel
theorem dX10_rankOfRow_30 : decode cX10_rankOfRow 30 = .ok (.goto (-26), 3) := by decide +kernel
theorem dX10_rankOfRow_33 : decode cX10_rankOfRow 33 = .ok (.iload_n 2, 1) := by decide +kernel
theorem dX10_rankOfRow_34 : decode cX10_rankOfRow 34 = .ok (.ireturn, 1) := by decide +kernel
theorem dX10_isRowAhead_0 : decode cX10_isRowAhead 0 = .ok (.aload_n 0, 1) := by decide +kernel
theorem dX10_isRowAhead_1 : decode cX10_isRowAhead 1 = .ok (.getfield 10, 3) := by decide +kernel
theorem dX10_isRowAhead_4 : decode cX10_isRowAhead 4 = .ok (.iload_n 1, 1) := by decide +kernel
theorem dX10_isRowAhead_5 : decode cX10_isRowAhead 5 = .ok (.bipush 42, 2) := by decide +kernel
theorem dX10_isRowAhead_7 : decode cX10_isRowAhead 7 = .ok (.invokevirtual 426, 3) := by decide +kernel
theorem dX10_isRowAhead_10 : decode cX10_isRowAhead 10 = .ok (.istore_n 3, 1) := by decide +kernel
theorem dX10_isRowAhead_11 : decode cX10_isRowAhead 11 = .ok (.aload_n 0, 1) := by decide +kernel
theorem dX10_isRowAhead_12 : decode cX10_isRowAhead 12 = .ok (.getfield 10, 3) := by decide +kernel
theorem dX10_isRowAhead_15 : decode cX10_isRowAhead 15 = .ok (.iload_n 2, 1) := by decide +kernel
theorem dX10_isRowAhead_16 : decode cX10_isRowAhead 16 = .ok (.bipush 42, 2) := by decide +kernel
theorem dX10_isRowAhead_18 : decode cX10_isRowAhead 18 = .ok (.invokevirtual 426, 3) := by decide +kernel
theorem dX10_isRowAhead_21 : decode cX10_isRowAhead 21 = .ok (.istore 4, 2) := by decide +kernel
theorem dX10_isRowAhead_23 : decode cX10_isRowAhead 23 = .ok (.iload_n 3, 1) := by decide +kernel
theorem dX10_isRowAhead_24 : decode cX10_isRowAhead 24 = .ok (.iload 4, 2) := by decide +kernel
theorem dX10_isRowAhead_26 : decode cX10_isRowAhead 26 = .ok (.if_icmp .eq 15, 3) := by decide +kernel
theorem dX10_isRowAhead_29 : decode cX10_isRowAhead 29 = .ok (.iload_n 3, 1) := by decide +kernel
theorem dX10_isRowAhead_30 : decode cX10_isRowAhead 30 = .ok (.iload 4, 2) := by decide +kernel
theorem dX10_isRowAhead_32 : decode cX10_isRowAhead 32 = .ok (.if_icmp .le 7, 3) := by decide +kernel
theorem dX10_isRowAhead_35 : decode cX10_isRowAhead 35 = .ok (.iconst 1, 1) := by decide +kernel
theorem dX10_isRowAhead_36 : decode cX10_isRowAhead 36 = .ok (.goto 4, 3) := by decide +kernel
theorem dX10_isRowAhead_39 : decode cX10_isRowAhead 39 = .ok (.iconst 0, 1) := by decide +kernel
theorem dX10_isRowAhead_40 : decode cX10_isRowAhead 40 = .ok (.ireturn, 1) := by decide +kernel
theorem dX10_isRowAhead_41 : decode cX10_isRowAhead 41 = .ok (.aload_n 0, 1) := by decide +kernel
theorem dX10_isRowAhead_42 : decode cX10_isRowAhead 42 = .ok (.getfield 10, 3) := by decide +kernel
theorem dX10_isRowAhead_45 : decode cX10_isRowAhead 45 = .ok (.iload_n 1, 1) := by decide +kernel
theorem dX10_isRowAhead_46 : decode cX10_isRowAhead 46 = .ok (.bipush 35, 2) := by decide +kernel
theorem dX10_isRowAhead_48 : decode cX10_isRowAhead 48 = .ok (.invokevirtual 426, 3) := by decide +kernel
theorem dX10_isRowAhead_51 : decode cX10_isRowAhead 51 = .ok (.istore 5, 2) := by decide +kernel
theorem dX10_isRowAhead_53 : decode cX10_isRowAhead 53 = .ok (.aload_n 0, 1) := by decide +kernel
theorem dX10_isRowAhead_54 : decode cX10_isRowAhead 54 = .ok (.getfield 10, 3) := by decide +kernel
theorem dX10_isRowAhead_57 : decode cX10_isRowAhead 57 = .ok (.iload_n 2, 1) := by decide +kernel
theorem dX10_isRowAhead_58 : decode cX10_isRowAhead 58 = .ok (.bipush 35, 2) := by decide +kernel
theorem dX10_isRowAhead_60 : decode cX10_isRowAhead 60 = .ok (.invokevirtual 426, 3) := by decide +kernel
theorem dX10_isRowAhead_63 : decode cX10_isRowAhead 63 = .ok (.istore 6, 2) := by decide +kernel
theorem dX10_isRowAhead_65 : decode cX10_isRowAhead 65 = .ok (.iload 5, 2) := by decide +kernel
theorem dX10_isRowAhead_67 : decode cX10_isRowAhead 67 = .ok (.iload 6, 2) := by decide +kernel
theorem dX10_isRowAhead_69 : decode cX10_isRowAhead 69 = .ok (.if_icmp .eq 18, 3) := by decide +kernel
theorem dX10_isRowAhead_72 : decode cX10_isRowAhead 72 = .ok (.iload 5, 2) := by decide +kernel
theorem dX10_isRowAhead_74 : decode cX10_isRowAhead 74 = .ok (.iload 6, 2) := by decide +kernel
theorem dX10_isRowAhead_76 : decode cX10_isRowAhead 76 = .ok (.if_icmp .le 7, 3) := by decide +kernel
theorem dX10_isRowAhead_79 : decode cX10_isRowAhead 79 = .ok (.iconst 1, 1) := by decide +kernel
theorem dX10_isRowAhead_80 : decode cX10_isRowAhead 80 = .ok (.goto 17, 3) := by decide +kernel
theorem dX10_isRowAhead_83 : decode cX10_isRowAhead 83 = .ok (.iconst 0, 1) := by decide +kernel
theorem dX10_isRowAhead_84 : decode cX10_isRowAhead 84 = .ok (.goto 13, 3) := by decide +kernel
theorem dX10_isRowAhead_87 : decode cX10_isRowAhead 87 = .ok (.iload_n 1, 1) := by decide +kernel
theorem dX10_isRowAhead_88 : decode cX10_isRowAhead 88 = .ok (.iload_n 2, 1) := by decide +kernel
theorem dX10_isRowAhead_89 : decode cX10_isRowAhead 89 = .ok (.if_icmp .ge 7, 3) := by decide +kernel
theorem dX10_isRowAhead_92 : decode cX10_isRowAhead 92 = .ok (.iconst 1, 1) := by decide +kernel
theorem dX10_isRowAhead_93 : decode cX10_isRowAhead 93 = .ok (.goto 4, 3) := by decide +kernel
theorem dX10_isRowAhead_96 : decode cX10_isRowAhead 96 = .ok (.iconst 0, 1) := by decide +kernel
theorem dX10_isRowAhead_97 : decode cX10_isRowAhead 97 = .ok (.ireturn, 1) := by decide +kernel
theorem dX10_rankOfColour_0 : decode cX10_rankOfColour 0 = .ok (.aload_n 0, 1) := by decide +kernel
theorem dX10_rankOfColour_1 : decode cX10_rankOfColour 1 = .ok (.getfield 10, 3) := by decide +kernel
theorem dX10_rankOfColour_4 : decode cX10_rankOfColour 4 = .ok (.iload_n 1, 1) := by decide +kernel
theorem dX10_rankOfColour_5 : decode cX10_rankOfColour 5 = .ok (.invokevirtual 101, 3) := by decide +kernel
theorem dX10_rankOfColour_8 : decode cX10_rankOfColour 8 = .ok (.istore_n 2, 1) := by decide +kernel
theorem dX10_rankOfColour_9 : decode cX10_rankOfColour 9 = .ok (.iconst 0, 1) := by decide +kernel
theorem dX10_rankOfColour_10 : decode cX10_rankOfColour 10 = .ok (.istore_n 3, 1) := by decide +kernel
theorem dX10_rankOfColour_11 : decode cX10_rankOfColour 11 = .ok (.iconst 0, 1) := by decide +kernel
theorem dX10_rankOfColour_12 : decode cX10_rankOfColour 12 = .ok (.istore 4, 2) := by decide +kernel
theorem dX10_rankOfColour_14 : decode cX10_rankOfColour 14 = .ok (.iload 4, 2) := by decide +kernel
theorem dX10_rankOfColour_16 : decode cX10_rankOfColour 16 = .ok (.iconst 4, 1) := by decide +kernel
theorem dX10_rankOfColour_17 : decode cX10_rankOfColour 17 = .ok (.if_icmp .ge 48, 3) := by decide +kernel
theorem dX10_rankOfColour_20 : decode cX10_rankOfColour 20 = .ok (.iload 4, 2) := by decide +kernel
theorem dX10_rankOfColour_22 : decode cX10_rankOfColour 22 = .ok (.invokestatic 272, 3) := by decide +kernel
theorem dX10_rankOfColour_25 : decode cX10_rankOfColour 25 = .ok (.istore 5, 2) := by decide +kernel
theorem dX10_rankOfColour_27 : decode cX10_rankOfColour 27 = .ok (.aload_n 0, 1) := by decide +kernel
theorem dX10_rankOfColour_28 : decode cX10_rankOfColour 28 = .ok (.getfield 10, 3) := by decide +kernel
theorem dX10_rankOfColour_31 : decode cX10_rankOfColour 31 = .ok (.iload 5, 2) := by decide +kernel
theorem dX10_rankOfColour_33 : decode cX10_rankOfColour 33 = .ok (.invokevirtual 101, 3) := by decide +kernel
theorem dX10_rankOfColour_36 : decode cX10_rankOfColour 36 = .ok (.istore 6, 2) := by decide +kernel
theorem dX10_rankOfColour_38 : decode cX10_rankOfColour 38 = .ok (.iload 6, 2) := by decide +kernel
theorem dX10_rankOfColour_40 : decode cX10_rankOfColour 40 = .ok (.iload_n 2, 1) := by decide +kernel
theorem dX10_rankOfColour_41 : decode cX10_rankOfColour 41 = .ok (.if_icmp .gt 15, 3) := by decide +kernel
theorem dX10_rankOfColour_44 : decode cX10_rankOfColour 44 = .ok (.iload 6, 2) := by decide +kernel
theorem dX10_rankOfColour_46 : decode cX10_rankOfColour 46 = .ok (.iload_n 2, 1) := by decide +kernel
theorem dX10_rankOfColour_47 : decode cX10_rankOfColour 47 = .ok (.if_icmp .ne 12, 3) := by decide +kernel
theorem dX10_rankOfColour_50 : decode cX10_rankOfColour 50 = .ok (.iload 5, 2) := by decide +kernel
theorem dX10_rankOfColour_52 : decode cX10_rankOfColour 52 = .ok (.iload_n 1, 1) := by decide +kernel
theorem dX10_rankOfColour_53 : decode cX10_rankOfColour 53 = .ok (.if_icmp .ge 6, 3) := by decide +kernel
theorem dX10_rankOfColour_56 : decode cX10_rankOfColour 56 = .ok (.iinc 3 1, 3) := by decide +kernel
theorem dX10_rankOfColour_59 : decode cX10_rankOfColour 59 = .ok (.iinc 4 1, 3) := by decide +kernel
theorem dX10_rankOfColour_62 : decode cX10_rankOfColour 62 = .ok (.goto (-48), 3) := by decide +kernel
theorem dX10_rankOfColour_65 : decode cX10_rankOfColour 65 = .ok (.iload_n 3, 1) := by decide +kernel
theorem dX10_rankOfColour_66 : decode cX10_rankOfColour 66 = .ok (.ireturn, 1) := by decide +kernel
theorem dX10_reasonAgainstNextCommand_0 : decode cX10_reasonAgainstNextCommand 0 = .ok (.aload_n 0, 1) := by decide +kernel
theorem dX10_reasonAgainstNextCommand_1 : decode cX10_reasonAgainstNextCommand 1 = .ok (.getfield 53, 3) := by decide +kernel
theorem dX10_reasonAgainstNextCommand_4 : decode cX10_reasonAgainstNextCommand 4 = .ok (.invokevirtual 429, 3) := by decide +kernel
theorem dX10_reasonAgainstNextCommand_7 : decode cX10_reasonAgainstNextCommand 7 = .ok (.ifCond .eq 13, 3) := by decide +kernel
theorem dX10_reasonAgainstNextCommand_10 : decode cX10_reasonAgainstNextCommand 10 = .ok (.aload_n 0, 1) := by decide +kernel
theorem dX10_reasonAgainstNextCommand_11 : decode cX10_reasonAgainstNextCommand 11 = .ok (.getfield 53, 3) := by decide +kernel
theorem dX10_reasonAgainstNextCommand_14 : decode cX10_reasonAgainstNextCommand 14 = .ok (.invokevirtual 432, 3) := by decide +kernel
theorem dX10_reasonAgainstNextCommand_17 : decode cX10_reasonAgainstNextCommand 17 = .ok (.ifCond .ne 5, 3) := by decide +kernel
theorem dX10_reasonAgainstNextCommand_20 : decode cX10_reasonAgainstNextCommand 20 = .ok (.iconst (-1), 1) := by decide +kernel
theorem dX10_reasonAgainstNextCommand_21 : decode cX10_reasonAgainstNextCommand 21 = .ok (.ireturn, 1) := by decide +kernel
theorem dX10_reasonAgainstNextCommand_22 : decode cX10_reasonAgainstNextCommand 22 = .ok (.aload_n 0, 1) := by decide +kernel
theorem dX10_reasonAgainstNextCommand_23 : decode cX10_reasonAgainstNextCommand 23 = .ok (.getfield 53, 3) := by decide +kernel
theorem dX10_reasonAgainstNextCommand_26 : decode cX10_reasonAgainstNextCommand 26 = .ok (.getfield 435, 3) := by decide +kernel
theorem dX10_reasonAgainstNextCommand_29 : decode cX10_reasonAgainstNextCommand 29 = .ok (.aload_n 0, 1) := by decide +kernel
theorem dX10_reasonAgainstNextCommand_30 : decode cX10_reasonAgainstNextCommand 30 = .ok (.getfield 53, 3) := by decide +kernel
theorem dX10_reasonAgainstNextCommand_33 : decode cX10_reasonAgainstNextCommand 33 = .ok (.getfield 438, 3) := by decide +kernel
theorem dX10_reasonAgainstNextCommand_36 : decode cX10_reasonAgainstNextCommand 36 = .ok (.invokestatic 82, 3) := by decide +kernel
theorem dX10_reasonAgainstNextCommand_39 : decode cX10_reasonAgainstNextCommand 39 = .ok (.istore_n 1, 1) := by decide +kernel
theorem dX10_reasonAgainstNextCommand_40 : decode cX10_reasonAgainstNextCommand 40 = .ok (.getstatic 441, 3) := by decide +kernel
theorem dX10_reasonAgainstNextCommand_43 : decode cX10_reasonAgainstNextCommand 43 = .ok (.aload_n 0, 1) := by decide +kernel
theorem dX10_reasonAgainstNextCommand_44 : decode cX10_reasonAgainstNextCommand 44 = .ok (.getfield 53, 3) := by decide +kernel
theorem dX10_reasonAgainstNextCommand_47 : decode cX10_reasonAgainstNextCommand 47 = .ok (.getfield 447, 3) := by decide +kernel
theorem dX10_reasonAgainstNextCommand_50 : decode cX10_reasonAgainstNextCommand 50 = .ok (.invokevirtual 451, 3) := by decide +kernel
theorem dX10_reasonAgainstNextCommand_53 : decode cX10_reasonAgainstNextCommand 53 = .ok (.iaload, 1) := by decide +kernel
theorem dX10_reasonAgainstNextCommand_54 : decode cX10_reasonAgainstNextCommand 54 = .ok (.tableswitch 109 1 6 #[38, 47, 56, 56, 65, 94], 38) := by decide +kernel
theorem dX10_reasonAgainstNextCommand_92 : decode cX10_reasonAgainstNextCommand 92 = .ok (.aload_n 0, 1) := by decide +kernel
theorem dX10_reasonAgainstNextCommand_93 : decode cX10_reasonAgainstNextCommand 93 = .ok (.getfield 16, 3) := by decide +kernel
theorem dX10_reasonAgainstNextCommand_96 : decode cX10_reasonAgainstNextCommand 96 = .ok (.iload_n 1, 1) := by decide +kernel
theorem dX10_reasonAgainstNextCommand_97 : decode cX10_reasonAgainstNextCommand 97 = .ok (.invokevirtual 86, 3) := by decide +kernel
theorem dX10_reasonAgainstNextCommand_100 : decode cX10_reasonAgainstNextCommand 100 = .ok (.ireturn, 1) := by decide +kernel
theorem dX10_reasonAgainstNextCommand_101 : decode cX10_reasonAgainstNextCommand 101 = .ok (.aload_n 0, 1) := by decide +kernel
theorem dX10_reasonAgainstNextCommand_102 : decode cX10_reasonAgainstNextCommand 102 = .ok (.getfield 16, 3) := by decide +kernel
theorem dX10_reasonAgainstNextCommand_105 : decode cX10_reasonAgainstNextCommand 105 = .ok (.iload_n 1, 1) := by decide +kernel
theorem dX10_reasonAgainstNextCommand_106 : decode cX10_reasonAgainstNextCommand 106 = .ok (.invokevirtual 105, 3) := by decide +kernel
theorem dX10_reasonAgainstNextCommand_109 : decode cX10_reasonAgainstNextCommand 109 = .ok (.ireturn, 1) := by decide +kernel
theorem dX10_reasonAgainstNextCommand_110 : decode cX10_reasonAgainstNextCommand 110 = .ok (.aload_n 0, 1) := by decide +kernel
theorem dX10_reasonAgainstNextCommand_111 : decode cX10_reasonAgainstNextCommand 111 = .ok (.getfield 16, 3) := by decide +kernel
theorem dX10_reasonAgainstNextCommand_114 : decode cX10_reasonAgainstNextCommand 114 = .ok (.iload_n 1, 1) := by decide +kernel
theorem dX10_reasonAgainstNextCommand_115 : decode cX10_reasonAgainstNextCommand 115 = .ok (.invokevirtual 417, 3) := by decide +kernel
theorem dX10_reasonAgainstNextCommand_118 : decode cX10_reasonAgainstNextCommand 118 = .ok (.ireturn, 1) := by decide +kernel
theorem dX10_reasonAgainstNextCommand_119 : decode cX10_reasonAgainstNextCommand 119 = .ok (.aload_n 0, 1) := by decide +kernel
theorem dX10_reasonAgainstNextCommand_120 : decode cX10_reasonAgainstNextCommand 120 = .ok (.getfield 16, 3) := by decide +kernel
theorem dX10_reasonAgainstNextCommand_123 : decode cX10_reasonAgainstNextCommand 123 = .ok (.aload_n 0, 1) := by decide +kernel
theorem dX10_reasonAgainstNextCommand_124 : decode cX10_reasonAgainstNextCommand 124 = .ok (.getfield 53, 3) := by decide +kernel
theorem dX10_reasonAgainstNextCommand_127 : decode cX10_reasonAgainstNextCommand 127 = .ok (.getfield 435, 3) := by decide +kernel
theorem dX10_reasonAgainstNextCommand_130 : decode cX10_reasonAgainstNextCommand 130 = .ok (.aload_n 0, 1) := by decide +kernel
theorem dX10_reasonAgainstNextCommand_131 : decode cX10_reasonAgainstNextCommand 131 = .ok (.getfield 53, 3) := by decide +kernel
theorem dX10_reasonAgainstNextCommand_134 : decode cX10_reasonAgainstNextCommand 134 = .ok (.getfield 438, 3) := by decide +kernel
theorem dX10_reasonAgainstNextCommand_137 : decode cX10_reasonAgainstNextCommand 137 = .ok (.aload_n 0, 1) := by decide +kernel
theorem dX10_reasonAgainstNextCommand_138 : decode cX10_reasonAgainstNextCommand 138 = .ok (.getfield 53, 3) := by decide +kernel
theorem dX10_reasonAgainstNextCommand_141 : decode cX10_reasonAgainstNextCommand 141 = .ok (.getfield 456, 3) := by decide +kernel
theorem dX10_reasonAgainstNextCommand_144 : decode cX10_reasonAgainstNextCommand 144 = .ok (.invokevirtual 139, 3) := by decide +kernel
theorem dX10_reasonAgainstNextCommand_147 : decode cX10_reasonAgainstNextCommand 147 = .ok (.ireturn, 1) := by decide +kernel
theorem dX10_reasonAgainstNextCommand_148 : decode cX10_reasonAgainstNextCommand 148 = .ok (.aload_n 0, 1) := by decide +kernel
theorem dX10_reasonAgainstNextCommand_149 : decode cX10_reasonAgainstNextCommand 149 = .ok (.getfield 16, 3) := by decide +kernel
theorem dX10_reasonAgainstNextCommand_152 : decode cX10_reasonAgainstNextCommand 152 = .ok (.aload_n 0, 1) := by decide +kernel
theorem dX10_reasonAgainstNextCommand_153 : decode cX10_reasonAgainstNextCommand 153 = .ok (.getfield 53, 3) := by decide +kernel
theorem dX10_reasonAgainstNextCommand_156 : decode cX10_reasonAgainstNextCommand 156 = .ok (.getfield 460, 3) := by decide +kernel
theorem dX10_reasonAgainstNextCommand_159 : decode cX10_reasonAgainstNextCommand 159 = .ok (.invokevirtual 162, 3) := by decide +kernel
theorem dX10_reasonAgainstNextCommand_162 : decode cX10_reasonAgainstNextCommand 162 = .ok (.ireturn, 1) := by decide +kernel
theorem dX10_reasonAgainstNextCommand_163 : decode cX10_reasonAgainstNextCommand 163 = .ok (.iconst 0, 1) := by decide +kernel
theorem dX10_reasonAgainstNextCommand_164 : decode cX10_reasonAgainstNextCommand 164 = .ok (.ireturn, 1) := by decide +kernel
theorem dX10_carryOutCommand_0 : decode cX10_carryOutCommand 0 = .ok (.aload_n 0, 1) := by decide +kernel
theorem dX10_carryOutCommand_1 : decode cX10_carryOutCommand 1 = .ok (.getfield 53, 3) := by decide +kernel
theorem dX10_carryOutCommand_4 : decode cX10_carryOutCommand 4 = .ok (.getfield 435, 3) := by decide +kernel
theorem dX10_carryOutCommand_7 : decode cX10_carryOutCommand 7 = .ok (.aload_n 0, 1) := by decide +kernel
theorem dX10_carryOutCommand_8 : decode cX10_carryOutCommand 8 = .ok (.getfield 53, 3) := by decide +kernel
theorem dX10_carryOutCommand_11 : decode cX10_carryOutCommand 11 = .ok (.getfield 438, 3) := by decide +kernel
theorem dX10_carryOutCommand_14 : decode cX10_carryOutCommand 14 = .ok (.invokestatic 82, 3) := by decide +kernel
theorem dX10_carryOutCommand_17 : decode cX10_carryOutCommand 17 = .ok (.istore_n 1, 1) := by decide +kernel
theorem dX10_carryOutCommand_18 : decode cX10_carryOutCommand 18 = .ok (.getstatic 441, 3) := by decide +kernel
theorem dX10_carryOutCommand_21 : decode cX10_carryOutCommand 21 = .ok (.aload_n 0, 1) := by decide +kernel
theorem dX10_carryOutCommand_22 : decode cX10_carryOutCommand 22 = .ok (.getfield 53, 3) := by decide +kernel
theorem dX10_carryOutCommand_25 : decode cX10_carryOutCommand 25 = .ok (.getfield 447, 3) := by decide +kernel
theorem dX10_carryOutCommand_28 : decode cX10_carryOutCommand 28 = .ok (.invokevirtual 451, 3) := by decide +kernel
theorem dX10_carryOutCommand_31 : decode cX10_carryOutCommand 31 = .ok (.iaload, 1) := by decide +kernel
theorem dX10_carryOutCommand_32 : decode cX10_carryOutCommand 32 = .ok (.tableswitch 153 1 6 #[40, 58, 69, 80, 98, 136], 40) := by decide +kernel
theorem dX10_carryOutCommand_72 : decode cX10_carryOutCommand 72 = .ok (.aload_n 0, 1) := by decide +kernel
theorem dX10_carryOutCommand_73 : decode cX10_carryOutCommand 73 = .ok (.getfield 16, 3) := by decide +kernel
theorem dX10_carryOutCommand_76 : decode cX10_carryOutCommand 76 = .ok (.iload_n 1, 1) := by decide +kernel
theorem dX10_carryOutCommand_77 : decode cX10_carryOutCommand 77 = .ok (.aload_n 0, 1) := by decide +kernel
theorem dX10_carryOutCommand_78 : decode cX10_carryOutCommand 78 = .ok (.getfield 53, 3) := by decide +kernel
theorem dX10_carryOutCommand_81 : decode cX10_carryOutCommand 81 = .ok (.getfield 461, 3) := by decide +kernel
theorem dX10_carryOutCommand_84 : decode cX10_carryOutCommand 84 = .ok (.invokevirtual 97, 3) := by decide +kernel
theorem dX10_carryOutCommand_87 : decode cX10_carryOutCommand 87 = .ok (.goto 117, 3) := by decide +kernel
theorem dX10_carryOutCommand_90 : decode cX10_carryOutCommand 90 = .ok (.aload_n 0, 1) := by decide +kernel
theorem dX10_carryOutCommand_91 : decode cX10_carryOutCommand 91 = .ok (.getfield 16, 3) := by decide +kernel
theorem dX10_carryOutCommand_94 : decode cX10_carryOutCommand 94 = .ok (.iload_n 1, 1) := by decide +kernel
theorem dX10_carryOutCommand_95 : decode cX10_carryOutCommand 95 = .ok (.invokevirtual 108, 3) := by decide +kernel
theorem dX10_carryOutCommand_98 : decode cX10_carryOutCommand 98 = .ok (.goto 106, 3) := by decide +kernel
theorem dX10_carryOutCommand_101 : decode cX10_carryOutCommand 101 = .ok (.aload_n 0, 1) := by decide +kernel
theorem dX10_carryOutCommand_102 : decode cX10_carryOutCommand 102 = .ok (.getfield 16, 3) := by decide +kernel
theorem dX10_carryOutCommand_105 : decode cX10_carryOutCommand 105 = .ok (.iload_n 1, 1) := by decide +kernel
theorem dX10_carryOutCommand_106 : decode cX10_carryOutCommand 106 = .ok (.invokevirtual 118, 3) := by decide +kernel
theorem dX10_carryOutCommand_109 : decode cX10_carryOutCommand 109 = .ok (.goto 95, 3) := by decide +kernel
theorem dX10_carryOutCommand_112 : decode cX10_carryOutCommand 112 = .ok (.aload_n 0, 1) := by decide +kernel
theorem dX10_carryOutCommand_113 : decode cX10_carryOutCommand 113 = .ok (.getfield 16, 3) := by decide +kernel
theorem dX10_carryOutCommand_116 : decode cX10_carryOutCommand 116 = .ok (.iload_n 1, 1) := by decide +kernel
theorem dX10_carryOutCommand_117 : decode cX10_carryOutCommand 117 = .ok (.aload_n 0, 1) := by decide +kernel
theorem dX10_carryOutCommand_118 : decode cX10_carryOutCommand 118 = .ok (.getfield 53, 3) := by decide +kernel
theorem dX10_carryOutCommand_121 : decode cX10_carryOutCommand 121 = .ok (.getfield 461, 3) := by decide +kernel
theorem dX10_carryOutCommand_124 : decode cX10_carryOutCommand 124 = .ok (.invokevirtual 125, 3) := by decide +kernel
theorem dX10_carryOutCommand_127 : decode cX10_carryOutCommand 127 = .ok (.goto 77, 3) := by decide +kernel
theorem dX10_carryOutCommand_130 : decode cX10_carryOutCommand 130 = .ok (.aload_n 0, 1) := by decide +kernel
theorem dX10_carryOutCommand_131 : decode cX10_carryOutCommand 131 = .ok (.getfield 16, 3) := by decide +kernel
theorem dX10_carryOutCommand_134 : decode cX10_carryOutCommand 134 = .ok (.aload_n 0, 1) := by decide +kernel
theorem dX10_carryOutCommand_135 : decode cX10_carryOutCommand 135 = .ok (.getfield 53, 3) := by decide +kernel
theorem dX10_carryOutCommand_138 : decode cX10_carryOutCommand 138 = .ok (.getfield 435, 3) := by decide +kernel
theorem dX10_carryOutCommand_141 : decode cX10_carryOutCommand 141 = .ok (.aload_n 0, 1) := by decide +kernel
theorem dX10_carryOutCommand_142 : decode cX10_carryOutCommand 142 = .ok (.getfield 53, 3) := by decide +kernel
theorem dX10_carryOutCommand_145 : decode cX10_carryOutCommand 145 = .ok (.getfield 438, 3) := by decide +kernel
theorem dX10_carryOutCommand_148 : decode cX10_carryOutCommand 148 = .ok (.aload_n 0, 1) := by decide +kernel
theorem dX10_carryOutCommand_149 : decode cX10_carryOutCommand 149 = .ok (.getfield 53, 3) := by decide +kernel
theorem dX10_carryOutCommand_152 : decode cX10_carryOutCommand 152 = .ok (.getfield 456, 3) := by decide +kernel
theorem dX10_carryOutCommand_155 : decode cX10_carryOutCommand 155 = .ok (.aload_n 0, 1) := by decide +kernel
theorem dX10_carryOutCommand_156 : decode cX10_carryOutCommand 156 = .ok (.getfield 53, 3) := by decide +kernel
theorem dX10_carryOutCommand_159 : decode cX10_carryOutCommand 159 = .ok (.getfield 461, 3) := by decide +kernel
theorem dX10_carryOutCommand_162 : decode cX10_carryOutCommand 162 = .ok (.invokevirtual 152, 3) := by decide +kernel
theorem dX10_carryOutCommand_165 : decode cX10_carryOutCommand 165 = .ok (.goto 39, 3) := by decide +kernel
theorem dX10_carryOutCommand_168 : decode cX10_carryOutCommand 168 = .ok (.aload_n 0, 1) := by decide +kernel
theorem dX10_carryOutCommand_169 : decode cX10_carryOutCommand 169 = .ok (.getfield 16, 3) := by decide +kernel
theorem dX10_carryOutCommand_172 : decode cX10_carryOutCommand 172 = .ok (.aload_n 0, 1) := by decide +kernel
theorem dX10_carryOutCommand_173 : decode cX10_carryOutCommand 173 = .ok (.getfield 53, 3) := by decide +kernel
theorem dX10_carryOutCommand_176 : decode cX10_carryOutCommand 176 = .ok (.getfield 460, 3) := by decide +kernel
theorem dX10_carryOutCommand_179 : decode cX10_carryOutCommand 179 = .ok (.putfield 173, 3) := by decide +kernel
theorem dX10_carryOutCommand_182 : decode cX10_carryOutCommand 182 = .ok (.goto 22, 3) := by decide +kernel
theorem dX10_carryOutCommand_185 : decode cX10_carryOutCommand 185 = .ok (.aload_n 0, 1) := by decide +kernel
theorem dX10_carryOutCommand_186 : decode cX10_carryOutCommand 186 = .ok (.getfield 32, 3) := by decide +kernel
theorem dX10_carryOutCommand_189 : decode cX10_carryOutCommand 189 = .ok (.aload_n 0, 1) := by decide +kernel
theorem dX10_carryOutCommand_190 : decode cX10_carryOutCommand 190 = .ok (.getfield 16, 3) := by decide +kernel
theorem dX10_carryOutCommand_193 : decode cX10_carryOutCommand 193 = .ok (.aload_n 0, 1) := by decide +kernel
theorem dX10_carryOutCommand_194 : decode cX10_carryOutCommand 194 = .ok (.getfield 53, 3) := by decide +kernel
theorem dX10_carryOutCommand_197 : decode cX10_carryOutCommand 197 = .ok (.getfield 465, 3) := by decide +kernel
theorem dX10_carryOutCommand_200 : decode cX10_carryOutCommand 200 = .ok (.invokevirtual 216, 3) := by decide +kernel
theorem dX10_carryOutCommand_203 : decode cX10_carryOutCommand 203 = .ok (.pop, 1) := by decide +kernel
theorem dX10_carryOutCommand_204 : decode cX10_carryOutCommand 204 = .ok (.return_, 1) := by decide +kernel
