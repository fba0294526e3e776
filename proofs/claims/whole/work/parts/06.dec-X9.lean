theorem dX9_init_0 : decode cX9_init 0 = .ok (.aload_n 0, 1) := by decide +kernel
theorem dX9_init_1 : decode cX9_init 1 = .ok (.invokespecial 1, 3) := by decide +kernel
theorem dX9_init_4 : decode cX9_init 4 = .ok (.aload_n 0, 1) := by decide +kernel
theorem dX9_init_5 : decode cX9_init 5 = .ok (.iconst 4, 1) := by decide +kernel
theorem dX9_init_6 : decode cX9_init 6 = .ok (.newarray .int, 2) := by decide +kernel
theorem dX9_init_8 : decode cX9_init 8 = .ok (.dup, 1) := by decide +kernel
theorem dX9_init_9 : decode cX9_init 9 = .ok (.iconst 0, 1) := by decide +kernel
theorem dX9_init_10 : decode cX9_init 10 = .ok (.bipush (-9), 2) := by decide +kernel
theorem dX9_init_12 : decode cX9_init 12 = .ok (.iastore, 1) := by decide +kernel
theorem dX9_init_13 : decode cX9_init 13 = .ok (.dup, 1) := by decide +kernel
theorem dX9_init_14 : decode cX9_init 14 = .ok (.iconst 1, 1) := by decide +kernel
theorem dX9_init_15 : decode cX9_init 15 = .ok (.bipush (-9), 2) := by decide +kernel
theorem dX9_init_17 : decode cX9_init 17 = .ok (.iastore, 1) := by decide +kernel
theorem dX9_init_18 : decode cX9_init 18 = .ok (.dup, 1) := by decide +kernel
theorem dX9_init_19 : decode cX9_init 19 = .ok (.iconst 2, 1) := by decide +kernel
theorem dX9_init_20 : decode cX9_init 20 = .ok (.bipush (-9), 2) := by decide +kernel
theorem dX9_init_22 : decode cX9_init 22 = .ok (.iastore, 1) := by decide +kernel
theorem dX9_init_23 : decode cX9_init 23 = .ok (.dup, 1) := by decide +kernel
theorem dX9_init_24 : decode cX9_init 24 = .ok (.iconst 3, 1) := by decide +kernel
theorem dX9_init_25 : decode cX9_init 25 = .ok (.bipush (-9), 2) := by decide +kernel
theorem dX9_init_27 : decode cX9_init 27 = .ok (.iastore, 1) := by decide +kernel
theorem dX9_init_28 : decode cX9_init 28 = .ok (.putfield 9, 3) := by decide +kernel
theorem dX9_init_31 : decode cX9_init 31 = .ok (.aload_n 0, 1) := by decide +kernel
theorem dX9_init_32 : decode cX9_init 32 = .ok (.iconst 4, 1) := by decide +kernel
theorem dX9_init_33 : decode cX9_init 33 = .ok (.newarray .int, 2) := by decide +kernel
theorem dX9_init_35 : decode cX9_init 35 = .ok (.putfield 13, 3) := by decide +kernel
theorem dX9_init_38 : decode cX9_init 38 = .ok (.aload_n 0, 1) := by decide +kernel
theorem dX9_init_39 : decode cX9_init 39 = .ok (.sipush 240, 3) := by decide +kernel
theorem dX9_init_42 : decode cX9_init 42 = .ok (.newarray .int, 2) := by decide +kernel
theorem dX9_init_44 : decode cX9_init 44 = .ok (.putfield 16, 3) := by decide +kernel
theorem dX9_init_47 : decode cX9_init 47 = .ok (.aload_n 0, 1) := by decide +kernel
theorem dX9_init_48 : decode cX9_init 48 = .ok (.bipush 6, 2) := by decide +kernel
theorem dX9_init_50 : decode cX9_init 50 = .ok (.newarray .int, 2) := by decide +kernel
theorem dX9_init_52 : decode cX9_init 52 = .ok (.putfield 19, 3) := by decide +kernel
theorem dX9_init_55 : decode cX9_init 55 = .ok (.aload_n 0, 1) := by decide +kernel
theorem dX9_init_56 : decode cX9_init 56 = .ok (.bipush 6, 2) := by decide +kernel
theorem dX9_init_58 : decode cX9_init 58 = .ok (.newarray .int, 2) := by decide +kernel
theorem dX9_init_60 : decode cX9_init 60 = .ok (.putfield 22, 3) := by decide +kernel
theorem dX9_init_63 : decode cX9_init 63 = .ok (.aload_n 0, 1) := by decide +kernel
theorem dX9_init_64 : decode cX9_init 64 = .ok (.bipush 6, 2) := by decide +kernel
theorem dX9_init_66 : decode cX9_init 66 = .ok (.newarray .int, 2) := by decide +kernel
theorem dX9_init_68 : decode cX9_init 68 = .ok (.putfield 25, 3) := by decide +kernel
theorem dX9_init_71 : decode cX9_init 71 = .ok (.aload_n 0, 1) := by decide +kernel
theorem dX9_init_72 : decode cX9_init 72 = .ok (.bipush 36, 2) := by decide +kernel
theorem dX9_init_74 : decode cX9_init 74 = .ok (.newarray .int, 2) := by decide +kernel
theorem dX9_init_76 : decode cX9_init 76 = .ok (.putfield 28, 3) := by decide +kernel
theorem dX9_init_79 : decode cX9_init 79 = .ok (.aload_n 0, 1) := by decide +kernel
theorem dX9_init_80 : decode cX9_init 80 = .ok (.bipush 18, 2) := by decide +kernel
theorem dX9_init_82 : decode cX9_init 82 = .ok (.newarray .int, 2) := by decide +kernel
theorem dX9_init_84 : decode cX9_init 84 = .ok (.putfield 31, 3) := by decide +kernel
theorem dX9_init_87 : decode cX9_init 87 = .ok (.aload_n 0, 1) := by decide +kernel
theorem dX9_init_88 : decode cX9_init 88 = .ok (.bipush 6, 2) := by decide +kernel
theorem dX9_init_90 : decode cX9_init 90 = .ok (.newarray .int, 2) := by decide +kernel
theorem dX9_init_92 : decode cX9_init 92 = .ok (.putfield 34, 3) := by decide +kernel
theorem dX9_init_95 : decode cX9_init 95 = .ok (.aload_n 0, 1) := by decide +kernel
theorem dX9_init_96 : decode cX9_init 96 = .ok (.bipush 6, 2) := by decide +kernel
theorem dX9_init_98 : decode cX9_init 98 = .ok (.newarray .int, 2) := by decide +kernel
theorem dX9_init_100 : decode cX9_init 100 = .ok (.putfield 37, 3) := by decide +kernel
theorem dX9_init_103 : decode cX9_init 103 = .ok (.aload_n 0, 1) := by decide +kernel
theorem dX9_init_104 : decode cX9_init 104 = .ok (.bipush 64, 2) := by decide +kernel
theorem dX9_init_106 : decode cX9_init 106 = .ok (.newarray .int, 2) := by decide +kernel
theorem dX9_init_108 : decode cX9_init 108 = .ok (.putfield 40, 3) := by decide +kernel
theorem dX9_init_111 : decode cX9_init 111 = .ok (.aload_n 0, 1) := by decide +kernel
theorem dX9_init_112 : decode cX9_init 112 = .ok (.bipush 8, 2) := by decide +kernel
theorem dX9_init_114 : decode cX9_init 114 = .ok (.newarray .int, 2) := by decide +kernel
theorem dX9_init_116 : decode cX9_init 116 = .ok (.putfield 43, 3) := by decide +kernel
theorem dX9_init_119 : decode cX9_init 119 = .ok (.aload_n 0, 1) := by decide +kernel
theorem dX9_init_120 : decode cX9_init 120 = .ok (.bipush 8, 2) := by decide +kernel
theorem dX9_init_122 : decode cX9_init 122 = .ok (.newarray .int, 2) := by decide +kernel
theorem dX9_init_124 : decode cX9_init 124 = .ok (.putfield 46, 3) := by decide +kernel
theorem dX9_init_127 : decode cX9_init 127 = .ok (.aload_n 0, 1) := by decide +kernel
theorem dX9_init_128 : decode cX9_init 128 = .ok (.bipush 8, 2) := by decide +kernel
theorem dX9_init_130 : decode cX9_init 130 = .ok (.newarray .int, 2) := by decide +kernel
theorem dX9_init_132 : decode cX9_init 132 = .ok (.putfield 49, 3) := by decide +kernel
theorem dX9_init_135 : decode cX9_init 135 = .ok (.return_, 1) := by decide +kernel
theorem dX9_fails_0 : decode cX9_fails 0 = .ok (.aload_n 0, 1) := by decide +kernel
theorem dX9_fails_1 : decode cX9_fails 1 = .ok (.iload_n 1, 1) := by decide +kernel
theorem dX9_fails_2 : decode cX9_fails 2 = .ok (.putfield 52, 3) := by decide +kernel
theorem dX9_fails_5 : decode cX9_fails 5 = .ok (.bipush (-10), 2) := by decide +kernel
theorem dX9_fails_7 : decode cX9_fails 7 = .ok (.iload_n 1, 1) := by decide +kernel
theorem dX9_fails_8 : decode cX9_fails 8 = .ok (.isub, 1) := by decide +kernel
theorem dX9_fails_9 : decode cX9_fails 9 = .ok (.ireturn, 1) := by decide +kernel
theorem dX9_lost_0 : decode cX9_lost 0 = .ok (.aload_n 0, 1) := by decide +kernel
theorem dX9_lost_1 : decode cX9_lost 1 = .ok (.iload_n 1, 1) := by decide +kernel
theorem dX9_lost_2 : decode cX9_lost 2 = .ok (.putfield 52, 3) := by decide +kernel
theorem dX9_lost_5 : decode cX9_lost 5 = .ok (.ldc2_w 56, 3) := by decide +kernel
theorem dX9_lost_8 : decode cX9_lost 8 = .ok (.lreturn, 1) := by decide +kernel
theorem dX9_within_0 : decode cX9_within 0 = .ok (.iload_n 0, 1) := by decide +kernel
theorem dX9_within_1 : decode cX9_within 1 = .ok (.iload_n 1, 1) := by decide +kernel
theorem dX9_within_2 : decode cX9_within 2 = .ok (.if_icmp .lt 12, 3) := by decide +kernel
theorem dX9_within_5 : decode cX9_within 5 = .ok (.iload_n 0, 1) := by decide +kernel
theorem dX9_within_6 : decode cX9_within 6 = .ok (.iload_n 2, 1) := by decide +kernel
theorem dX9_within_7 : decode cX9_within 7 = .ok (.if_icmp .gt 7, 3) := by decide +kernel
theorem dX9_within_10 : decode cX9_within 10 = .ok (.iconst 1, 1) := by decide +kernel
theorem dX9_within_11 : decode cX9_within 11 = .ok (.goto 4, 3) := by decide +kernel
theorem dX9_within_14 : decode cX9_within 14 = .ok (.iconst 0, 1) := by decide +kernel
theorem dX9_within_15 : decode cX9_within 15 = .ok (.ireturn, 1) := by decide +kernel
theorem dX9_isSheet_0 : decode cX9_isSheet 0 = .ok (.iload_n 0, 1) := by decide +kernel
theorem dX9_isSheet_1 : decode cX9_isSheet 1 = .ok (.iconst 0, 1) := by decide +kernel
theorem dX9_isSheet_2 : decode cX9_isSheet 2 = .ok (.iconst 3, 1) := by decide +kernel
theorem dX9_isSheet_3 : decode cX9_isSheet 3 = .ok (.invokestatic 58, 3) := by decide +kernel
theorem dX9_isSheet_6 : decode cX9_isSheet 6 = .ok (.ireturn, 1) := by decide +kernel
theorem dX9_isSort_0 : decode cX9_isSort 0 = .ok (.iload_n 0, 1) := by decide +kernel
theorem dX9_isSort_1 : decode cX9_isSort 1 = .ok (.iconst 0, 1) := by decide +kernel
theorem dX9_isSort_2 : decode cX9_isSort 2 = .ok (.iconst 2, 1) := by decide +kernel
theorem dX9_isSort_3 : decode cX9_isSort 3 = .ok (.invokestatic 58, 3) := by decide +kernel
theorem dX9_isSort_6 : decode cX9_isSort 6 = .ok (.ireturn, 1) := by decide +kernel
theorem dX9_against_0 : decode cX9_against 0 = .ok (.aload_n 0, 1) := by decide +kernel
theorem dX9_against_1 : decode cX9_against 1 = .ok (.getfield 9, 3) := by decide +kernel
theorem dX9_against_4 : decode cX9_against 4 = .ok (.iload_n 1, 1) := by decide +kernel
theorem dX9_against_5 : decode cX9_against 5 = .ok (.iaload, 1) := by decide +kernel
theorem dX9_against_6 : decode cX9_against 6 = .ok (.bipush (-9), 2) := by decide +kernel
theorem dX9_against_8 : decode cX9_against 8 = .ok (.if_icmp .eq 15, 3) := by decide +kernel
theorem dX9_against_11 : decode cX9_against 11 = .ok (.aload_n 0, 1) := by decide +kernel
theorem dX9_against_12 : decode cX9_against 12 = .ok (.getfield 9, 3) := by decide +kernel
theorem dX9_against_15 : decode cX9_against 15 = .ok (.iload_n 1, 1) := by decide +kernel
theorem dX9_against_16 : decode cX9_against 16 = .ok (.iaload, 1) := by decide +kernel
theorem dX9_against_17 : decode cX9_against 17 = .ok (.iload_n 2, 1) := by decide +kernel
theorem dX9_against_18 : decode cX9_against 18 = .ok (.if_icmp .eq 5, 3) := by decide +kernel
theorem dX9_against_21 : decode cX9_against 21 = .ok (.iconst 2, 1) := by decide +kernel
theorem dX9_against_22 : decode cX9_against 22 = .ok (.ireturn, 1) := by decide +kernel
theorem dX9_against_23 : decode cX9_against 23 = .ok (.aload_n 0, 1) := by decide +kernel
theorem dX9_against_24 : decode cX9_against 24 = .ok (.getfield 9, 3) := by decide +kernel
theorem dX9_against_27 : decode cX9_against 27 = .ok (.iload_n 1, 1) := by decide +kernel
theorem dX9_against_28 : decode cX9_against 28 = .ok (.iaload, 1) := by decide +kernel
theorem dX9_against_29 : decode cX9_against 29 = .ok (.bipush (-9), 2) := by decide +kernel
theorem dX9_against_31 : decode cX9_against 31 = .ok (.if_icmp .ne 5, 3) := by decide +kernel
theorem dX9_against_34 : decode cX9_against 34 = .ok (.iconst 1, 1) := by decide +kernel
theorem dX9_against_35 : decode cX9_against 35 = .ok (.ireturn, 1) := by decide +kernel
theorem dX9_against_36 : decode cX9_against 36 = .ok (.iload 4, 2) := by decide +kernel
theorem dX9_against_38 : decode cX9_against 38 = .ok (.ifCond .ge 5, 3) := by decide +kernel
theorem dX9_against_41 : decode cX9_against 41 = .ok (.iconst 4, 1) := by decide +kernel
theorem dX9_against_42 : decode cX9_against 42 = .ok (.ireturn, 1) := by decide +kernel
theorem dX9_against_43 : decode cX9_against 43 = .ok (.iload_n 3, 1) := by decide +kernel
theorem dX9_against_44 : decode cX9_against 44 = .ok (.ifCond .lt 26, 3) := by decide +kernel
theorem dX9_against_47 : decode cX9_against 47 = .ok (.iload_n 3, 1) := by decide +kernel
theorem dX9_against_48 : decode cX9_against 48 = .ok (.aload_n 0, 1) := by decide +kernel
theorem dX9_against_49 : decode cX9_against 49 = .ok (.getfield 13, 3) := by decide +kernel
theorem dX9_against_52 : decode cX9_against 52 = .ok (.iload_n 1, 1) := by decide +kernel
theorem dX9_against_53 : decode cX9_against 53 = .ok (.iaload, 1) := by decide +kernel
theorem dX9_against_54 : decode cX9_against 54 = .ok (.if_icmp .gt 16, 3) := by decide +kernel
theorem dX9_against_57 : decode cX9_against 57 = .ok (.iload 4, 2) := by decide +kernel
theorem dX9_against_59 : decode cX9_against 59 = .ok (.aload_n 0, 1) := by decide +kernel
theorem dX9_against_60 : decode cX9_against 60 = .ok (.getfield 13, 3) := by decide +kernel
theorem dX9_against_63 : decode cX9_against 63 = .ok (.iload_n 1, 1) := by decide +kernel
theorem dX9_against_64 : decode cX9_against 64 = .ok (.iaload, 1) := by decide +kernel
theorem dX9_against_65 : decode cX9_against 65 = .ok (.iload_n 3, 1) := by decide +kernel
theorem dX9_against_66 : decode cX9_against 66 = .ok (.isub, 1) := by decide +kernel
theorem dX9_against_67 : decode cX9_against 67 = .ok (.if_icmp .le 7, 3) := by decide +kernel
theorem dX9_against_70 : decode cX9_against 70 = .ok (.iconst 3, 1) := by decide +kernel
theorem dX9_against_71 : decode cX9_against 71 = .ok (.goto 4, 3) := by decide +kernel
theorem dX9_against_74 : decode cX9_against 74 = .ok (.iconst 0, 1) := by decide +kernel
theorem dX9_against_75 : decode cX9_against 75 = .ok (.ireturn, 1) := by decide +kernel
theorem dX9_isPerson_0 : decode cX9_isPerson 0 = .ok (.iload_n 1, 1) := by decide +kernel
theorem dX9_isPerson_1 : decode cX9_isPerson 1 = .ok (.ifCond .lt 15, 3) := by decide +kernel
theorem dX9_isPerson_4 : decode cX9_isPerson 4 = .ok (.iload_n 1, 1) := by decide +kernel
theorem dX9_isPerson_5 : decode cX9_isPerson 5 = .ok (.aload_n 0, 1) := by decide +kernel
theorem dX9_isPerson_6 : decode cX9_isPerson 6 = .ok (.getfield 62, 3) := by decide +kernel
theorem dX9_isPerson_9 : decode cX9_isPerson 9 = .ok (.if_icmp .ge 7, 3) := by decide +kernel
theorem dX9_isPerson_12 : decode cX9_isPerson 12 = .ok (.iconst 1, 1) := by decide +kernel
theorem dX9_isPerson_13 : decode cX9_isPerson 13 = .ok (.goto 4, 3) := by decide +kernel
theorem dX9_isPerson_16 : decode cX9_isPerson 16 = .ok (.iconst 0, 1) := by decide +kernel
theorem dX9_isPerson_17 : decode cX9_isPerson 17 = .ok (.ireturn, 1) := by decide +kernel
theorem dX9_isOf_0 : decode cX9_isOf 0 = .ok (.iload_n 0, 1) := by decide +kernel
theorem dX9_isOf_1 : decode cX9_isOf 1 = .ok (.iload_n 1, 1) := by decide +kernel
theorem dX9_isOf_2 : decode cX9_isOf 2 = .ok (.ishr, 1) := by decide +kernel
theorem dX9_isOf_3 : decode cX9_isOf 3 = .ok (.iconst 1, 1) := by decide +kernel
theorem dX9_isOf_4 : decode cX9_isOf 4 = .ok (.iand, 1) := by decide +kernel
theorem dX9_isOf_5 : decode cX9_isOf 5 = .ok (.iconst 1, 1) := by decide +kernel
theorem dX9_isOf_6 : decode cX9_isOf 6 = .ok (.if_icmp .ne 7, 3) := by decide +kernel
theorem dX9_isOf_9 : decode cX9_isOf 9 = .ok (.iconst 1, 1) := by decide +kernel
theorem dX9_isOf_10 : decode cX9_isOf 10 = .ok (.goto 4, 3) := by decide +kernel
theorem dX9_isOf_13 : decode cX9_isOf 13 = .ok (.iconst 0, 1) := by decide +kernel
theorem dX9_isOf_14 : decode cX9_isOf 14 = .ok (.ireturn, 1) := by decide +kernel
theorem dX9_size_0 : decode cX9_size 0 = .ok (.iconst 0, 1) := by decide +kernel
theorem dX9_size_1 : decode cX9_size 1 = .ok (.istore_n 1, 1) := by decide +kernel
theorem dX9_size_2 : decode cX9_size 2 = .ok (.iload_n 0, 1) := by decide +kernel
theorem dX9_size_3 : decode cX9_size 3 = .ok (.istore_n 2, 1) := by decide +kernel
theorem dX9_size_4 : decode cX9_size 4 = .ok (.iload_n 2, 1) := by decide +kernel
theorem dX9_size_5 : decode cX9_size 5 = .ok (.ifCond .le 16, 3) := by decide +kernel
theorem dX9_size_8 : decode cX9_size 8 = .ok (.iload_n 1, 1) := by decide +kernel
theorem dX9_size_9 : decode cX9_size 9 = .ok (.iload_n 2, 1) := by decide +kernel
theorem dX9_size_10 : decode cX9_size 10 = .ok (.iconst 1, 1) := by decide +kernel
theorem dX9_size_11 : decode cX9_size 11 = .ok (.iand, 1) := by decide +kernel
theorem dX9_size_12 : decode cX9_size 12 = .ok (.iadd, 1) := by decide +kernel
theorem dX9_size_13 : decode cX9_size 13 = .ok (.istore_n 1, 1) := by decide +kernel
theorem dX9_size_14 : decode cX9_size 14 = .ok (.iload_n 2, 1) := by decide +kernel
theorem dX9_size_15 : decode cX9_size 15 = .ok (.iconst 1, 1) := by decide +kernel
theorem dX9_size_16 : decode cX9_size 16 = .ok (.ishr, 1) := by decide +kernel
theorem dX9_size_17 : decode cX9_size 17 = .ok (.istore_n 2, 1) := by decide +kernel
theorem dX9_size_18 : decode cX9_size 18 = .ok (.goto (-14), 3) := by decide +kernel
theorem dX9_size_21 : decode cX9_size 21 = .ok (.iload_n 1, 1) := by decide +kernel
theorem dX9_size_22 : decode cX9_size 22 = .ok (.ireturn, 1) := by decide +kernel
theorem dX9_digit_0 : decode cX9_digit 0 = .ok (.aload_n 0, 1) := by decide +kernel
theorem dX9_digit_1 : decode cX9_digit 1 = .ok (.getfield 65, 3) := by decide +kernel
theorem dX9_digit_4 : decode cX9_digit 4 = .ok (.iload_n 1, 1) := by decide +kernel
theorem dX9_digit_5 : decode cX9_digit 5 = .ok (.if_icmp .ge 22, 3) := by decide +kernel
theorem dX9_digit_8 : decode cX9_digit 8 = .ok (.aload_n 0, 1) := by decide +kernel
theorem dX9_digit_9 : decode cX9_digit 9 = .ok (.getfield 16, 3) := by decide +kernel
theorem dX9_digit_12 : decode cX9_digit 12 = .ok (.aload_n 0, 1) := by decide +kernel
theorem dX9_digit_13 : decode cX9_digit 13 = .ok (.getfield 65, 3) := by decide +kernel
theorem dX9_digit_16 : decode cX9_digit 16 = .ok (.iaload, 1) := by decide +kernel
theorem dX9_digit_17 : decode cX9_digit 17 = .ok (.bipush 48, 2) := by decide +kernel
theorem dX9_digit_19 : decode cX9_digit 19 = .ok (.bipush 57, 2) := by decide +kernel
theorem dX9_digit_21 : decode cX9_digit 21 = .ok (.invokestatic 58, 3) := by decide +kernel
theorem dX9_digit_24 : decode cX9_digit 24 = .ok (.ifCond .ne 6, 3) := by decide +kernel
theorem dX9_digit_27 : decode cX9_digit 27 = .ok (.bipush (-9), 2) := by decide +kernel
theorem dX9_digit_29 : decode cX9_digit 29 = .ok (.ireturn, 1) := by decide +kernel
theorem dX9_digit_30 : decode cX9_digit 30 = .ok (.aload_n 0, 1) := by decide +kernel
theorem dX9_digit_31 : decode cX9_digit 31 = .ok (.dup, 1) := by decide +kernel
theorem dX9_digit_32 : decode cX9_digit 32 = .ok (.getfield 65, 3) := by decide +kernel
theorem dX9_digit_35 : decode cX9_digit 35 = .ok (.iconst 1, 1) := by decide +kernel
theorem dX9_digit_36 : decode cX9_digit 36 = .ok (.iadd, 1) := by decide +kernel
theorem dX9_digit_37 : decode cX9_digit 37 = .ok (.putfield 65, 3) := by decide +kernel
theorem dX9_digit_40 : decode cX9_digit 40 = .ok (.aload_n 0, 1) := by decide +kernel
theorem dX9_digit_41 : decode cX9_digit 41 = .ok (.getfield 16, 3) := by decide +kernel
theorem dX9_digit_44 : decode cX9_digit 44 = .ok (.aload_n 0, 1) := by decide +kernel
theorem dX9_digit_45 : decode cX9_digit 45 = .ok (.getfield 65, 3) := by decide +kernel
theorem dX9_digit_48 : decode cX9_digit 48 = .ok (.iconst 1, 1) := by decide +kernel
theorem dX9_digit_49 : decode cX9_digit 49 = .ok (.isub, 1) := by decide +kernel
theorem dX9_digit_50 : decode cX9_digit 50 = .ok (.iaload, 1) := by decide +kernel
theorem dX9_digit_51 : decode cX9_digit 51 = .ok (.bipush 48, 2) := by decide +kernel
theorem dX9_digit_53 : decode cX9_digit 53 = .ok (.isub, 1) := by decide +kernel
theorem dX9_digit_54 : decode cX9_digit 54 = .ok (.ireturn, 1) := by decide +kernel
theorem dX9_isSign_0 : decode cX9_isSign 0 = .ok (.aload_n 0, 1) := by decide +kernel
theorem dX9_isSign_1 : decode cX9_isSign 1 = .ok (.getfield 65, 3) := by decide +kernel
theorem dX9_isSign_4 : decode cX9_isSign 4 = .ok (.iload_n 1, 1) := by decide +kernel
theorem dX9_isSign_5 : decode cX9_isSign 5 = .ok (.if_icmp .ge 16, 3) := by decide +kernel
theorem dX9_isSign_8 : decode cX9_isSign 8 = .ok (.aload_n 0, 1) := by decide +kernel
theorem dX9_isSign_9 : decode cX9_isSign 9 = .ok (.getfield 16, 3) := by decide +kernel
theorem dX9_isSign_12 : decode cX9_isSign 12 = .ok (.aload_n 0, 1) := by decide +kernel
theorem dX9_isSign_13 : decode cX9_isSign 13 = .ok (.getfield 65, 3) := by decide +kernel
theorem dX9_isSign_16 : decode cX9_isSign 16 = .ok (.iaload, 1) := by decide +kernel
theorem dX9_isSign_17 : decode cX9_isSign 17 = .ok (.iload_n 2, 1) := by decide +kernel
theorem dX9_isSign_18 : decode cX9_isSign 18 = .ok (.if_icmp .eq 5, 3) := by decide +kernel
theorem dX9_isSign_21 : decode cX9_isSign 21 = .ok (.iconst 0, 1) := by decide +kernel
theorem dX9_isSign_22 : decode cX9_isSign 22 = .ok (.ireturn, 1) := by decide +kernel
theorem dX9_isSign_23 : decode cX9_isSign 23 = .ok (.aload_n 0, 1) := by decide +kernel
theorem dX9_isSign_24 : decode cX9_isSign 24 = .ok (.dup, 1) := by decide +kernel
theorem dX9_isSign_25 : decode cX9_isSign 25 = .ok (.getfield 65, 3) := by decide +kernel
theorem dX9_isSign_28 : decode cX9_isSign 28 = .ok (.iconst 1, 1) := by decide +kernel
theorem dX9_isSign_29 : decode cX9_isSign 29 = .ok (.iadd, 1) := by decide +kernel
theorem dX9_isSign_30 : decode cX9_isSign 30 = .ok (.putfield 65, 3) := by decide +kernel
theorem dX9_isSign_33 : decode cX9_isSign 33 = .ok (.iconst 1, 1) := by decide +kernel
theorem dX9_isSign_34 : decode cX9_isSign 34 = .ok (.ireturn, 1) := by decide +kernel
theorem dX9_line_0 : decode cX9_line 0 = .ok (.aload_n 0, 1) := by decide +kernel
theorem dX9_line_1 : decode cX9_line 1 = .ok (.iconst 0, 1) := by decide +kernel
theorem dX9_line_2 : decode cX9_line 2 = .ok (.putfield 52, 3) := by decide +kernel
theorem dX9_line_5 : decode cX9_line 5 = .ok (.iload_n 1, 1) := by decide +kernel
theorem dX9_line_6 : decode cX9_line 6 = .ok (.invokestatic 68, 3) := by decide +kernel
theorem dX9_line_9 : decode cX9_line 9 = .ok (.ifCond .ne 5, 3) := by decide +kernel
theorem dX9_line_12 : decode cX9_line 12 = .ok (.iconst (-1), 1) := by decide +kernel
theorem dX9_line_13 : decode cX9_line 13 = .ok (.ireturn, 1) := by decide +kernel
theorem dX9_line_14 : decode cX9_line 14 = .ok (.iload_n 2, 1) := by decide +kernel
theorem dX9_line_15 : decode cX9_line 15 = .ok (.invokestatic 72, 3) := by decide +kernel
theorem dX9_line_18 : decode cX9_line 18 = .ok (.ifCond .ne 6, 3) := by decide +kernel
theorem dX9_line_21 : decode cX9_line 21 = .ok (.bipush (-2), 2) := by decide +kernel
theorem dX9_line_23 : decode cX9_line 23 = .ok (.ireturn, 1) := by decide +kernel
theorem dX9_line_24 : decode cX9_line 24 = .ok (.aload_n 0, 1) := by decide +kernel
theorem dX9_line_25 : decode cX9_line 25 = .ok (.iload_n 1, 1) := by decide +kernel
theorem dX9_line_26 : decode cX9_line 26 = .ok (.iload_n 2, 1) := by decide +kernel
theorem dX9_line_27 : decode cX9_line 27 = .ok (.iload_n 3, 1) := by decide +kernel
theorem dX9_line_28 : decode cX9_line 28 = .ok (.iload 4, 2) := by decide +kernel
theorem dX9_line_30 : decode cX9_line 30 = .ok (.invokevirtual 75, 3) := by decide +kernel
theorem dX9_line_33 : decode cX9_line 33 = .ok (.istore 5, 2) := by decide +kernel
theorem dX9_line_35 : decode cX9_line 35 = .ok (.iload 5, 2) := by decide +kernel
theorem dX9_line_37 : decode cX9_line 37 = .ok (.ifCond .eq 10, 3) := by decide +kernel
theorem dX9_line_40 : decode cX9_line 40 = .ok (.aload_n 0, 1) := by decide +kernel
theorem dX9_line_41 : decode cX9_line 41 = .ok (.iload 5, 2) := by decide +kernel
theorem dX9_line_43 : decode cX9_line 43 = .ok (.invokevirtual 79, 3) := by decide +kernel
theorem dX9_line_46 : decode cX9_line 46 = .ok (.ireturn, 1) := by decide +kernel
theorem dX9_line_47 : decode cX9_line 47 = .ok (.bipush 60, 2) := by decide +kernel
theorem dX9_line_49 : decode cX9_line 49 = .ok (.iload_n 1, 1) := by decide +kernel
theorem dX9_line_50 : decode cX9_line 50 = .ok (.imul, 1) := by decide +kernel
theorem dX9_line_51 : decode cX9_line 51 = .ok (.iload_n 3, 1) := by decide +kernel
theorem dX9_line_52 : decode cX9_line 52 = .ok (.iadd, 1) := by decide +kernel
theorem dX9_line_53 : decode cX9_line 53 = .ok (.istore 6, 2) := by decide +kernel
theorem dX9_line_55 : decode cX9_line 55 = .ok (.aload_n 0, 1) := by decide +kernel
theorem dX9_line_56 : decode cX9_line 56 = .ok (.iload 6, 2) := by decide +kernel
theorem dX9_line_58 : decode cX9_line 58 = .ok (.putfield 65, 3) := by decide +kernel
theorem dX9_line_61 : decode cX9_line 61 = .ok (.aload_n 0, 1) := by decide +kernel
theorem dX9_line_62 : decode cX9_line 62 = .ok (.iload 6, 2) := by decide +kernel
theorem dX9_line_64 : decode cX9_line 64 = .ok (.iload 4, 2) := by decide +kernel
theorem dX9_line_66 : decode cX9_line 66 = .ok (.iadd, 1) := by decide +kernel
theorem dX9_line_67 : decode cX9_line 67 = .ok (.invokevirtual 83, 3) := by decide +kernel
theorem dX9_line_70 : decode cX9_line 70 = .ok (.ifCond .ne 14, 3) := by decide +kernel
theorem dX9_line_73 : decode cX9_line 73 = .ok (.bipush (-100), 2) := by decide +kernel
theorem dX9_line_75 : decode cX9_line 75 = .ok (.aload_n 0, 1) := by decide +kernel
theorem dX9_line_76 : decode cX9_line 76 = .ok (.getfield 65, 3) := by decide +kernel
theorem dX9_line_79 : decode cX9_line 79 = .ok (.iload 6, 2) := by decide +kernel
theorem dX9_line_81 : decode cX9_line 81 = .ok (.isub, 1) := by decide +kernel
theorem dX9_line_82 : decode cX9_line 82 = .ok (.isub, 1) := by decide +kernel
theorem dX9_line_83 : decode cX9_line 83 = .ok (.ireturn, 1) := by decide +kernel
theorem dX9_line_84 : decode cX9_line 84 = .ok (.aload_n 0, 1) := by decide +kernel
theorem dX9_line_85 : decode cX9_line 85 = .ok (.invokevirtual 86, 3) := by decide +kernel
theorem dX9_line_88 : decode cX9_line 88 = .ok (.aload_n 0, 1) := by decide +kernel
theorem dX9_line_89 : decode cX9_line 89 = .ok (.getfield 62, 3) := by decide +kernel
theorem dX9_line_92 : decode cX9_line 92 = .ok (.ireturn, 1) := by decide +kernel
theorem dX9_takeLine_0 : decode cX9_takeLine 0 = .ok (.aload_n 0, 1) := by decide +kernel
theorem dX9_takeLine_1 : decode cX9_takeLine 1 = .ok (.aload_n 0, 1) := by decide +kernel
theorem dX9_takeLine_2 : decode cX9_takeLine 2 = .ok (.getfield 89, 3) := by decide +kernel
theorem dX9_takeLine_5 : decode cX9_takeLine 5 = .ok (.putfield 92, 3) := by decide +kernel
theorem dX9_takeLine_8 : decode cX9_takeLine 8 = .ok (.aload_n 0, 1) := by decide +kernel
theorem dX9_takeLine_9 : decode cX9_takeLine 9 = .ok (.aload_n 0, 1) := by decide +kernel
theorem dX9_takeLine_10 : decode cX9_takeLine 10 = .ok (.getfield 95, 3) := by decide +kernel
theorem dX9_takeLine_13 : decode cX9_takeLine 13 = .ok (.putfield 62, 3) := by decide +kernel
theorem dX9_takeLine_16 : decode cX9_takeLine 16 = .ok (.iconst 0, 1) := by decide +kernel
theorem dX9_takeLine_17 : decode cX9_takeLine 17 = .ok (.istore_n 1, 1) := by decide +kernel
theorem dX9_takeLine_18 : decode cX9_takeLine 18 = .ok (.iload_n 1, 1) := by decide +kernel
theorem dX9_takeLine_19 : decode cX9_takeLine 19 = .ok (.aload_n 0, 1) := by decide +kernel
theorem dX9_takeLine_20 : decode cX9_takeLine 20 = .ok (.getfield 62, 3) := by decide +kernel
theorem dX9_takeLine_23 : decode cX9_takeLine 23 = .ok (.if_icmp .ge 55, 3) := by decide +kernel
theorem dX9_takeLine_26 : decode cX9_takeLine 26 = .ok (.aload_n 0, 1) := by decide +kernel
theorem dX9_takeLine_27 : decode cX9_takeLine 27 = .ok (.getfield 19, 3) := by decide +kernel
theorem dX9_takeLine_30 : decode cX9_takeLine 30 = .ok (.iload_n 1, 1) := by decide +kernel
theorem dX9_takeLine_31 : decode cX9_takeLine 31 = .ok (.aload_n 0, 1) := by decide +kernel
theorem dX9_takeLine_32 : decode cX9_takeLine 32 = .ok (.getfield 31, 3) := by decide +kernel
theorem dX9_takeLine_35 : decode cX9_takeLine 35 = .ok (.iconst 3, 1) := by decide +kernel
theorem dX9_takeLine_36 : decode cX9_takeLine 36 = .ok (.iload_n 1, 1) := by decide +kernel
theorem dX9_takeLine_37 : decode cX9_takeLine 37 = .ok (.imul, 1) := by decide +kernel
theorem dX9_takeLine_38 : decode cX9_takeLine 38 = .ok (.iaload, 1) := by decide +kernel
theorem dX9_takeLine_39 : decode cX9_takeLine 39 = .ok (.iastore, 1) := by decide +kernel
theorem dX9_takeLine_40 : decode cX9_takeLine 40 = .ok (.aload_n 0, 1) := by decide +kernel
theorem dX9_takeLine_41 : decode cX9_takeLine 41 = .ok (.getfield 22, 3) := by decide +kernel
theorem dX9_takeLine_44 : decode cX9_takeLine 44 = .ok (.iload_n 1, 1) := by decide +kernel
theorem dX9_takeLine_45 : decode cX9_takeLine 45 = .ok (.aload_n 0, 1) := by decide +kernel
theorem dX9_takeLine_46 : decode cX9_takeLine 46 = .ok (.getfield 31, 3) := by decide +kernel
theorem dX9_takeLine_49 : decode cX9_takeLine 49 = .ok (.iconst 3, 1) := by decide +kernel
theorem dX9_takeLine_50 : decode cX9_takeLine 50 = .ok (.iload_n 1, 1) := by decide +kernel
theorem dX9_takeLine_51 : decode cX9_takeLine 51 = .ok (.imul, 1) := by decide +kernel
theorem dX9_takeLine_52 : decode cX9_takeLine 52 = .ok (.iconst 1, 1) := by decide +kernel
theorem dX9_takeLine_53 : decode cX9_takeLine 53 = .ok (.iadd, 1) := by decide +kernel
theorem dX9_takeLine_54 : decode cX9_takeLine 54 = .ok (.iaload, 1) := by decide +kernel
theorem dX9_takeLine_55 : decode cX9_takeLine 55 = .ok (.iastore, 1) := by decide +kernel
theorem dX9_takeLine_56 : decode cX9_takeLine 56 = .ok (.aload_n 0, 1) := by decide +kernel
theorem dX9_takeLine_57 : decode cX9_takeLine 57 = .ok (.getfield 25, 3) := by decide +kernel
theorem dX9_takeLine_60 : decode cX9_takeLine 60 = .ok (.iload_n 1, 1) := by decide +kernel
theorem dX9_takeLine_61 : decode cX9_takeLine 61 = .ok (.aload_n 0, 1) := by decide +kernel
theorem dX9_takeLine_62 : decode cX9_takeLine 62 = .ok (.getfield 31, 3) := by decide +kernel
theorem dX9_takeLine_65 : decode cX9_takeLine 65 = .ok (.iconst 3, 1) := by decide +kernel
theorem dX9_takeLine_66 : decode cX9_takeLine 66 = .ok (.iload_n 1, 1) := by decide +kernel
theorem dX9_takeLine_67 : decode cX9_takeLine 67 = .ok (.imul, 1) := by decide +kernel
theorem dX9_takeLine_68 : decode cX9_takeLine 68 = .ok (.iconst 2, 1) := by decide +kernel
theorem dX9_takeLine_69 : decode cX9_takeLine 69 = .ok (.iadd, 1) := by decide +kernel
theorem dX9_takeLine_70 : decode cX9_takeLine 70 = .ok (.iaload, 1) := by decide +kernel
theorem dX9_takeLine_71 : decode cX9_takeLine 71 = .ok (.iastore, 1) := by decide +kernel
theorem dX9_takeLine_72 : decode cX9_takeLine 72 = .ok (.iinc 1 1, 3) := by decide +kernel
theorem dX9_takeLine_75 : decode cX9_takeLine 75 = .ok (.goto (-57), 3) := by decide +kernel
theorem dX9_takeLine_78 : decode cX9_takeLine 78 = .ok (.iconst 0, 1) := by decide +kernel
theorem dX9_takeLine_79 : decode cX9_takeLine 79 = .ok (.istore_n 1, 1) := by decide +kernel
theorem dX9_takeLine_80 : decode cX9_takeLine 80 = .ok (.iload_n 1, 1) := by decide +kernel
theorem dX9_takeLine_81 : decode cX9_takeLine 81 = .ok (.bipush 36, 2) := by decide +kernel
theorem dX9_takeLine_83 : decode cX9_takeLine 83 = .ok (.if_icmp .ge 16, 3) := by decide +kernel
theorem dX9_takeLine_86 : decode cX9_takeLine 86 = .ok (.aload_n 0, 1) := by decide +kernel
theorem dX9_takeLine_87 : decode cX9_takeLine 87 = .ok (.getfield 28, 3) := by decide +kernel
theorem dX9_takeLine_90 : decode cX9_takeLine 90 = .ok (.iload_n 1, 1) := by decide +kernel
theorem dX9_takeLine_91 : decode cX9_takeLine 91 = .ok (.iconst 0, 1) := by decide +kernel
theorem dX9_takeLine_92 : decode cX9_takeLine 92 = .ok (.iastore, 1) := by decide +kernel
theorem dX9_takeLine_93 : decode cX9_takeLine 93 = .ok (.iinc 1 1, 3) := by decide +kernel
theorem dX9_takeLine_96 : decode cX9_takeLine 96 = .ok (.goto (-16), 3) := by decide +kernel
theorem dX9_takeLine_99 : decode cX9_takeLine 99 = .ok (.aload_n 0, 1) := by decide +kernel
theorem dX9_takeLine_100 : decode cX9_takeLine 100 = .ok (.iconst 1, 1) := by decide +kernel
theorem dX9_takeLine_101 : decode cX9_takeLine 101 = .ok (.aload_n 0, 1) := by decide +kernel
theorem dX9_takeLine_102 : decode cX9_takeLine 102 = .ok (.getfield 62, 3) := by decide +kernel
theorem dX9_takeLine_105 : decode cX9_takeLine 105 = .ok (.ishl, 1) := by decide +kernel
theorem dX9_takeLine_106 : decode cX9_takeLine 106 = .ok (.iconst 1, 1) := by decide +kernel
theorem dX9_takeLine_107 : decode cX9_takeLine 107 = .ok (.isub, 1) := by decide +kernel
theorem dX9_takeLine_108 : decode cX9_takeLine 108 = .ok (.putfield 98, 3) := by decide +kernel
theorem dX9_takeLine_111 : decode cX9_takeLine 111 = .ok (.aload_n 0, 1) := by decide +kernel
theorem dX9_takeLine_112 : decode cX9_takeLine 112 = .ok (.iconst 0, 1) := by decide +kernel
theorem dX9_takeLine_113 : decode cX9_takeLine 113 = .ok (.putfield 101, 3) := by decide +kernel
theorem dX9_takeLine_116 : decode cX9_takeLine 116 = .ok (.aload_n 0, 1) := by decide +kernel
theorem dX9_takeLine_117 : decode cX9_takeLine 117 = .ok (.iconst 0, 1) := by decide +kernel
theorem dX9_takeLine_118 : decode cX9_takeLine 118 = .ok (.putfield 104, 3) := by decide +kernel
theorem dX9_takeLine_121 : decode cX9_takeLine 121 = .ok (.return_, 1) := by decide +kernel
theorem dX9_readLine_0 : decode cX9_readLine 0 = .ok (.aload_n 0, 1) := by decide +kernel
theorem dX9_readLine_1 : decode cX9_readLine 1 = .ok (.iconst 0, 1) := by decide +kernel
theorem dX9_readLine_2 : decode cX9_readLine 2 = .ok (.putfield 95, 3) := by decide +kernel
theorem dX9_readLine_5 : decode cX9_readLine 5 = .ok (.aload_n 0, 1) := by decide +kernel
theorem dX9_readLine_6 : decode cX9_readLine 6 = .ok (.iload_n 1, 1) := by decide +kernel
theorem dX9_readLine_7 : decode cX9_readLine 7 = .ok (.bipush 109, 2) := by decide +kernel
theorem dX9_readLine_9 : decode cX9_readLine 9 = .ok (.invokevirtual 107, 3) := by decide +kernel
theorem dX9_readLine_12 : decode cX9_readLine 12 = .ok (.ifCond .ne 5, 3) := by decide +kernel
theorem dX9_readLine_15 : decode cX9_readLine 15 = .ok (.iconst 0, 1) := by decide +kernel
theorem dX9_readLine_16 : decode cX9_readLine 16 = .ok (.ireturn, 1) := by decide +kernel
theorem dX9_readLine_17 : decode cX9_readLine 17 = .ok (.aload_n 0, 1) := by decide +kernel
theorem dX9_readLine_18 : decode cX9_readLine 18 = .ok (.aload_n 0, 1) := by decide +kernel
theorem dX9_readLine_19 : decode cX9_readLine 19 = .ok (.iload_n 1, 1) := by decide +kernel
theorem dX9_readLine_20 : decode cX9_readLine 20 = .ok (.invokevirtual 111, 3) := by decide +kernel
theorem dX9_readLine_23 : decode cX9_readLine 23 = .ok (.putfield 89, 3) := by decide +kernel
theorem dX9_readLine_26 : decode cX9_readLine 26 = .ok (.aload_n 0, 1) := by decide +kernel
theorem dX9_readLine_27 : decode cX9_readLine 27 = .ok (.getfield 89, 3) := by decide +kernel
theorem dX9_readLine_30 : decode cX9_readLine 30 = .ok (.bipush (-9), 2) := by decide +kernel
theorem dX9_readLine_32 : decode cX9_readLine 32 = .ok (.if_icmp .ne 5, 3) := by decide +kernel
theorem dX9_readLine_35 : decode cX9_readLine 35 = .ok (.iconst 0, 1) := by decide +kernel
theorem dX9_readLine_36 : decode cX9_readLine 36 = .ok (.ireturn, 1) := by decide +kernel
theorem dX9_readLine_37 : decode cX9_readLine 37 = .ok (.aload_n 0, 1) := by decide +kernel
theorem dX9_readLine_38 : decode cX9_readLine 38 = .ok (.getfield 95, 3) := by decide +kernel
theorem dX9_readLine_41 : decode cX9_readLine 41 = .ok (.iconst 2, 1) := by decide +kernel
theorem dX9_readLine_42 : decode cX9_readLine 42 = .ok (.if_icmp .lt 20, 3) := by decide +kernel
theorem dX9_readLine_45 : decode cX9_readLine 45 = .ok (.aload_n 0, 1) := by decide +kernel
theorem dX9_readLine_46 : decode cX9_readLine 46 = .ok (.getfield 95, 3) := by decide +kernel
theorem dX9_readLine_49 : decode cX9_readLine 49 = .ok (.bipush 6, 2) := by decide +kernel
theorem dX9_readLine_51 : decode cX9_readLine 51 = .ok (.if_icmp .ge 31, 3) := by decide +kernel
theorem dX9_readLine_54 : decode cX9_readLine 54 = .ok (.aload_n 0, 1) := by decide +kernel
theorem dX9_readLine_55 : decode cX9_readLine 55 = .ok (.getfield 65, 3) := by decide +kernel
theorem dX9_readLine_58 : decode cX9_readLine 58 = .ok (.iload_n 1, 1) := by decide +kernel
theorem dX9_readLine_59 : decode cX9_readLine 59 = .ok (.if_icmp .ge 23, 3) := by decide +kernel
theorem dX9_readLine_62 : decode cX9_readLine 62 = .ok (.aload_n 0, 1) := by decide +kernel
theorem dX9_readLine_63 : decode cX9_readLine 63 = .ok (.iload_n 1, 1) := by decide +kernel
theorem dX9_readLine_64 : decode cX9_readLine 64 = .ok (.bipush 59, 2) := by decide +kernel
theorem dX9_readLine_66 : decode cX9_readLine 66 = .ok (.invokevirtual 107, 3) := by decide +kernel
theorem dX9_readLine_69 : decode cX9_readLine 69 = .ok (.ifCond .eq 11, 3) := by decide +kernel
theorem dX9_readLine_72 : decode cX9_readLine 72 = .ok (.aload_n 0, 1) := by decide +kernel
theorem dX9_readLine_73 : decode cX9_readLine 73 = .ok (.iload_n 1, 1) := by decide +kernel
theorem dX9_readLine_74 : decode cX9_readLine 74 = .ok (.invokevirtual 114, 3) := by decide +kernel
theorem dX9_readLine_77 : decode cX9_readLine 77 = .ok (.ifCond .ne (-40), 3) := by decide +kernel
theorem dX9_readLine_80 : decode cX9_readLine 80 = .ok (.iconst 0, 1) := by decide +kernel
theorem dX9_readLine_81 : decode cX9_readLine 81 = .ok (.ireturn, 1) := by decide +kernel
theorem dX9_readLine_82 : decode cX9_readLine 82 = .ok (.aload_n 0, 1) := by decide +kernel
theorem dX9_readLine_83 : decode cX9_readLine 83 = .ok (.getfield 65, 3) := by decide +kernel
theorem dX9_readLine_86 : decode cX9_readLine 86 = .ok (.iload_n 1, 1) := by decide +kernel
theorem dX9_readLine_87 : decode cX9_readLine 87 = .ok (.if_icmp .ne 7, 3) := by decide +kernel
theorem dX9_readLine_90 : decode cX9_readLine 90 = .ok (.iconst 1, 1) := by decide +kernel
theorem dX9_readLine_91 : decode cX9_readLine 91 = .ok (.goto 4, 3) := by decide +kernel
theorem dX9_readLine_94 : decode cX9_readLine 94 = .ok (.iconst 0, 1) := by decide +kernel
theorem dX9_readLine_95 : decode cX9_readLine 95 = .ok (.ireturn, 1) := by decide +kernel
theorem dX9_readPerson_0 : decode cX9_readPerson 0 = .ok (.aload_n 0, 1) := by decide +kernel
theorem dX9_readPerson_1 : decode cX9_readPerson 1 = .ok (.getfield 65, 3) := by decide +kernel
theorem dX9_readPerson_4 : decode cX9_readPerson 4 = .ok (.iload_n 1, 1) := by decide +kernel
theorem dX9_readPerson_5 : decode cX9_readPerson 5 = .ok (.if_icmp .ge 15, 3) := by decide +kernel
theorem dX9_readPerson_8 : decode cX9_readPerson 8 = .ok (.aload_n 0, 1) := by decide +kernel
theorem dX9_readPerson_9 : decode cX9_readPerson 9 = .ok (.getfield 16, 3) := by decide +kernel
theorem dX9_readPerson_12 : decode cX9_readPerson 12 = .ok (.aload_n 0, 1) := by decide +kernel
theorem dX9_readPerson_13 : decode cX9_readPerson 13 = .ok (.getfield 65, 3) := by decide +kernel
theorem dX9_readPerson_16 : decode cX9_readPerson 16 = .ok (.iaload, 1) := by decide +kernel
theorem dX9_readPerson_17 : decode cX9_readPerson 17 = .ok (.goto 4, 3) := by decide +kernel
theorem dX9_readPerson_20 : decode cX9_readPerson 20 = .ok (.iconst 0, 1) := by decide +kernel
theorem dX9_readPerson_21 : decode cX9_readPerson 21 = .ok (.istore_n 2, 1) := by decide +kernel
theorem dX9_readPerson_22 : decode cX9_readPerson 22 = .ok (.iconst 3, 1) := by decide +kernel
theorem dX9_readPerson_23 : decode cX9_readPerson 23 = .ok (.aload_n 0, 1) := by decide +kernel
theorem dX9_readPerson_24 : decode cX9_readPerson 24 = .ok (.getfield 95, 3) := by decide +kernel
theorem dX9_readPerson_27 : decode cX9_readPerson 27 = .ok (.imul, 1) := by decide +kernel
theorem dX9_readPerson_28 : decode cX9_readPerson 28 = .ok (.istore_n 3, 1) := by decide +kernel
theorem dX9_readPerson_29 : decode cX9_readPerson 29 = .ok (.aload_n 0, 1) := by decide +kernel
theorem dX9_readPerson_30 : decode cX9_readPerson 30 = .ok (.getfield 31, 3) := by decide +kernel
theorem dX9_readPerson_33 : decode cX9_readPerson 33 = .ok (.iload_n 3, 1) := by decide +kernel
theorem dX9_readPerson_34 : decode cX9_readPerson 34 = .ok (.iload_n 2, 1) := by decide +kernel
theorem dX9_readPerson_35 : decode cX9_readPerson 35 = .ok (.bipush 112, 2) := by decide +kernel
theorem dX9_readPerson_37 : decode cX9_readPerson 37 = .ok (.if_icmp .ne 7, 3) := by decide +kernel
theorem dX9_readPerson_40 : decode cX9_readPerson 40 = .ok (.iconst 0, 1) := by decide +kernel
theorem dX9_readPerson_41 : decode cX9_readPerson 41 = .ok (.goto 25, 3) := by decide +kernel
theorem dX9_readPerson_44 : decode cX9_readPerson 44 = .ok (.iload_n 2, 1) := by decide +kernel
theorem dX9_readPerson_45 : decode cX9_readPerson 45 = .ok (.bipush 117, 2) := by decide +kernel
theorem dX9_readPerson_47 : decode cX9_readPerson 47 = .ok (.if_icmp .ne 7, 3) := by decide +kernel
theorem dX9_readPerson_50 : decode cX9_readPerson 50 = .ok (.iconst 1, 1) := by decide +kernel
theorem dX9_readPerson_51 : decode cX9_readPerson 51 = .ok (.goto 15, 3) := by decide +kernel
theorem dX9_readPerson_54 : decode cX9_readPerson 54 = .ok (.iload_n 2, 1) := by decide +kernel
theorem dX9_readPerson_55 : decode cX9_readPerson 55 = .ok (.bipush 108, 2) := by decide +kernel
theorem dX9_readPerson_57 : decode cX9_readPerson 57 = .ok (.if_icmp .ne 7, 3) := by decide +kernel
theorem dX9_readPerson_60 : decode cX9_readPerson 60 = .ok (.iconst 2, 1) := by decide +kernel
theorem dX9_readPerson_61 : decode cX9_readPerson 61 = .ok (.goto 5, 3) := by decide +kernel
theorem dX9_readPerson_64 : decode cX9_readPerson 64 = .ok (.bipush (-9), 2) := by decide +kernel
theorem dX9_readPerson_66 : decode cX9_readPerson 66 = .ok (.iastore, 1) := by decide +kernel
theorem dX9_readPerson_67 : decode cX9_readPerson 67 = .ok (.aload_n 0, 1) := by decide +kernel
theorem dX9_readPerson_68 : decode cX9_readPerson 68 = .ok (.getfield 31, 3) := by decide +kernel
theorem dX9_readPerson_71 : decode cX9_readPerson 71 = .ok (.iload_n 3, 1) := by decide +kernel
theorem dX9_readPerson_72 : decode cX9_readPerson 72 = .ok (.iaload, 1) := by decide +kernel
theorem dX9_readPerson_73 : decode cX9_readPerson 73 = .ok (.bipush (-9), 2) := by decide +kernel
theorem dX9_readPerson_75 : decode cX9_readPerson 75 = .ok (.if_icmp .ne 5, 3) := by decide +kernel
theorem dX9_readPerson_78 : decode cX9_readPerson 78 = .ok (.iconst 0, 1) := by decide +kernel
theorem dX9_readPerson_79 : decode cX9_readPerson 79 = .ok (.ireturn, 1) := by decide +kernel
theorem dX9_readPerson_80 : decode cX9_readPerson 80 = .ok (.aload_n 0, 1) := by decide +kernel
theorem dX9_readPerson_81 : decode cX9_readPerson 81 = .ok (.dup, 1) := by decide +kernel
theorem dX9_readPerson_82 : decode cX9_readPerson 82 = .ok (.getfield 65, 3) := by decide +kernel
theorem dX9_readPerson_85 : decode cX9_readPerson 85 = .ok (.iconst 1, 1) := by decide +kernel
theorem dX9_readPerson_86 : decode cX9_readPerson 86 = .ok (.iadd, 1) := by decide +kernel
theorem dX9_readPerson_87 : decode cX9_readPerson 87 = .ok (.putfield 65, 3) := by decide +kernel
theorem dX9_readPerson_90 : decode cX9_readPerson 90 = .ok (.aload_n 0, 1) := by decide +kernel
theorem dX9_readPerson_91 : decode cX9_readPerson 91 = .ok (.getfield 31, 3) := by decide +kernel
theorem dX9_readPerson_94 : decode cX9_readPerson 94 = .ok (.iload_n 3, 1) := by decide +kernel
theorem dX9_readPerson_95 : decode cX9_readPerson 95 = .ok (.iconst 1, 1) := by decide +kernel
theorem dX9_readPerson_96 : decode cX9_readPerson 96 = .ok (.iadd, 1) := by decide +kernel
theorem dX9_readPerson_97 : decode cX9_readPerson 97 = .ok (.aload_n 0, 1) := by decide +kernel
theorem dX9_readPerson_98 : decode cX9_readPerson 98 = .ok (.iload_n 1, 1) := by decide +kernel
theorem dX9_readPerson_99 : decode cX9_readPerson 99 = .ok (.invokevirtual 111, 3) := by decide +kernel
theorem dX9_readPerson_102 : decode cX9_readPerson 102 = .ok (.iastore, 1) := by decide +kernel
theorem dX9_readPerson_103 : decode cX9_readPerson 103 = .ok (.aload_n 0, 1) := by decide +kernel
theorem dX9_readPerson_104 : decode cX9_readPerson 104 = .ok (.getfield 31, 3) := by decide +kernel
theorem dX9_readPerson_107 : decode cX9_readPerson 107 = .ok (.iload_n 3, 1) := by decide +kernel
theorem dX9_readPerson_108 : decode cX9_readPerson 108 = .ok (.iconst 1, 1) := by decide +kernel
theorem dX9_readPerson_109 : decode cX9_readPerson 109 = .ok (.iadd, 1) := by decide +kernel
theorem dX9_readPerson_110 : decode cX9_readPerson 110 = .ok (.iaload, 1) := by decide +kernel
theorem dX9_readPerson_111 : decode cX9_readPerson 111 = .ok (.bipush (-9), 2) := by decide +kernel
theorem dX9_readPerson_113 : decode cX9_readPerson 113 = .ok (.if_icmp .ne 5, 3) := by decide +kernel
theorem dX9_readPerson_116 : decode cX9_readPerson 116 = .ok (.iconst 0, 1) := by decide +kernel
theorem dX9_readPerson_117 : decode cX9_readPerson 117 = .ok (.ireturn, 1) := by decide +kernel
theorem dX9_readPerson_118 : decode cX9_readPerson 118 = .ok (.aload_n 0, 1) := by decide +kernel
theorem dX9_readPerson_119 : decode cX9_readPerson 119 = .ok (.getfield 31, 3) := by decide +kernel
theorem dX9_readPerson_122 : decode cX9_readPerson 122 = .ok (.iload_n 3, 1) := by decide +kernel
theorem dX9_readPerson_123 : decode cX9_readPerson 123 = .ok (.iconst 2, 1) := by decide +kernel
theorem dX9_readPerson_124 : decode cX9_readPerson 124 = .ok (.iadd, 1) := by decide +kernel
theorem dX9_readPerson_125 : decode cX9_readPerson 125 = .ok (.aload_n 0, 1) := by decide +kernel
theorem dX9_readPerson_126 : decode cX9_readPerson 126 = .ok (.iload_n 1, 1) := by decide +kernel
theorem dX9_readPerson_127 : decode cX9_readPerson 127 = .ok (.invokevirtual 111, 3) := by decide +kernel
theorem dX9_readPerson_130 : decode cX9_readPerson 130 = .ok (.iastore, 1) := by decide +kernel
theorem dX9_readPerson_131 : decode cX9_readPerson 131 = .ok (.aload_n 0, 1) := by decide +kernel
theorem dX9_readPerson_132 : decode cX9_readPerson 132 = .ok (.dup, 1) := by decide +kernel
theorem dX9_readPerson_133 : decode cX9_readPerson 133 = .ok (.getfield 95, 3) := by decide +kernel
theorem dX9_readPerson_136 : decode cX9_readPerson 136 = .ok (.iconst 1, 1) := by decide +kernel
theorem dX9_readPerson_137 : decode cX9_readPerson 137 = .ok (.iadd, 1) := by decide +kernel
theorem dX9_readPerson_138 : decode cX9_readPerson 138 = .ok (.putfield 95, 3) := by decide +kernel
theorem dX9_readPerson_141 : decode cX9_readPerson 141 = .ok (.aload_n 0, 1) := by decide +kernel
theorem dX9_readPerson_142 : decode cX9_readPerson 142 = .ok (.getfield 31, 3) := by decide +kernel
theorem dX9_readPerson_145 : decode cX9_readPerson 145 = .ok (.iload_n 3, 1) := by decide +kernel
theorem dX9_readPerson_146 : decode cX9_readPerson 146 = .ok (.iconst 2, 1) := by decide +kernel
theorem dX9_readPerson_147 : decode cX9_readPerson 147 = .ok (.iadd, 1) := by decide +kernel
theorem dX9_readPerson_148 : decode cX9_readPerson 148 = .ok (.iaload, 1) := by decide +kernel
theorem dX9_readPerson_149 : decode cX9_readPerson 149 = .ok (.bipush (-9), 2) := by decide +kernel
theorem dX9_readPerson_151 : decode cX9_readPerson 151 = .ok (.if_icmp .eq 7, 3) := by decide +kernel
theorem dX9_readPerson_154 : decode cX9_readPerson 154 = .ok (.iconst 1, 1) := by decide +kernel
theorem dX9_readPerson_155 : decode cX9_readPerson 155 = .ok (.goto 4, 3) := by decide +kernel
theorem dX9_readPerson_158 : decode cX9_readPerson 158 = .ok (.iconst 0, 1) := by decide +kernel
theorem dX9_readPerson_159 : decode cX9_readPerson 159 = .ok (.ireturn, 1) := by decide +kernel
theorem dX9_wouldOf_0 : decode cX9_wouldOf 0 = .ok (.aload_n 0, 1) := by decide +kernel
theorem dX9_wouldOf_1 : decode cX9_wouldOf 1 = .ok (.getfield 19, 3) := by decide +kernel
theorem dX9_wouldOf_4 : decode cX9_wouldOf 4 = .ok (.iload_n 1, 1) := by decide +kernel
theorem dX9_wouldOf_5 : decode cX9_wouldOf 5 = .ok (.iaload, 1) := by decide +kernel
theorem dX9_wouldOf_6 : decode cX9_wouldOf 6 = .ok (.ifCond .ne 12, 3) := by decide +kernel
theorem dX9_wouldOf_9 : decode cX9_wouldOf 9 = .ok (.aload_n 0, 1) := by decide +kernel
theorem dX9_wouldOf_10 : decode cX9_wouldOf 10 = .ok (.getfield 22, 3) := by decide +kernel
theorem dX9_wouldOf_13 : decode cX9_wouldOf 13 = .ok (.iload_n 1, 1) := by decide +kernel
theorem dX9_wouldOf_14 : decode cX9_wouldOf 14 = .ok (.iaload, 1) := by decide +kernel
theorem dX9_wouldOf_15 : decode cX9_wouldOf 15 = .ok (.goto 32, 3) := by decide +kernel
theorem dX9_wouldOf_18 : decode cX9_wouldOf 18 = .ok (.aload_n 0, 1) := by decide +kernel
theorem dX9_wouldOf_19 : decode cX9_wouldOf 19 = .ok (.getfield 19, 3) := by decide +kernel
theorem dX9_wouldOf_22 : decode cX9_wouldOf 22 = .ok (.iload_n 1, 1) := by decide +kernel
theorem dX9_wouldOf_23 : decode cX9_wouldOf 23 = .ok (.iaload, 1) := by decide +kernel
theorem dX9_wouldOf_24 : decode cX9_wouldOf 24 = .ok (.iconst 1, 1) := by decide +kernel
theorem dX9_wouldOf_25 : decode cX9_wouldOf 25 = .ok (.if_icmp .ne 14, 3) := by decide +kernel
theorem dX9_wouldOf_28 : decode cX9_wouldOf 28 = .ok (.iconst 2, 1) := by decide +kernel
theorem dX9_wouldOf_29 : decode cX9_wouldOf 29 = .ok (.aload_n 0, 1) := by decide +kernel
theorem dX9_wouldOf_30 : decode cX9_wouldOf 30 = .ok (.getfield 22, 3) := by decide +kernel
theorem dX9_wouldOf_33 : decode cX9_wouldOf 33 = .ok (.iload_n 1, 1) := by decide +kernel
theorem dX9_wouldOf_34 : decode cX9_wouldOf 34 = .ok (.iaload, 1) := by decide +kernel
theorem dX9_wouldOf_35 : decode cX9_wouldOf 35 = .ok (.imul, 1) := by decide +kernel
theorem dX9_wouldOf_36 : decode cX9_wouldOf 36 = .ok (.goto 11, 3) := by decide +kernel
theorem dX9_wouldOf_39 : decode cX9_wouldOf 39 = .ok (.aload_n 0, 1) := by decide +kernel
theorem dX9_wouldOf_40 : decode cX9_wouldOf 40 = .ok (.getfield 22, 3) := by decide +kernel
theorem dX9_wouldOf_43 : decode cX9_wouldOf 43 = .ok (.iload_n 1, 1) := by decide +kernel
theorem dX9_wouldOf_44 : decode cX9_wouldOf 44 = .ok (.iaload, 1) := by decide +kernel
theorem dX9_wouldOf_45 : decode cX9_wouldOf 45 = .ok (.iconst 2, 1) := by decide +kernel
theorem dX9_wouldOf_46 : decode cX9_wouldOf 46 = .ok (.idiv, 1) := by decide +kernel
theorem dX9_wouldOf_47 : decode cX9_wouldOf 47 = .ok (.ireturn, 1) := by decide +kernel
theorem dX9_mayOf_0 : decode cX9_mayOf 0 = .ok (.aload_n 0, 1) := by decide +kernel
theorem dX9_mayOf_1 : decode cX9_mayOf 1 = .ok (.getfield 25, 3) := by decide +kernel
theorem dX9_mayOf_4 : decode cX9_mayOf 4 = .ok (.iload_n 1, 1) := by decide +kernel
theorem dX9_mayOf_5 : decode cX9_mayOf 5 = .ok (.iaload, 1) := by decide +kernel
theorem dX9_mayOf_6 : decode cX9_mayOf 6 = .ok (.aload_n 0, 1) := by decide +kernel
theorem dX9_mayOf_7 : decode cX9_mayOf 7 = .ok (.getfield 92, 3) := by decide +kernel
theorem dX9_mayOf_10 : decode cX9_mayOf 10 = .ok (.iadd, 1) := by decide +kernel
theorem dX9_mayOf_11 : decode cX9_mayOf 11 = .ok (.istore_n 2, 1) := by decide +kernel
theorem dX9_mayOf_12 : decode cX9_mayOf 12 = .ok (.aload_n 0, 1) := by decide +kernel
theorem dX9_mayOf_13 : decode cX9_mayOf 13 = .ok (.iload_n 1, 1) := by decide +kernel
theorem dX9_mayOf_14 : decode cX9_mayOf 14 = .ok (.invokevirtual 117, 3) := by decide +kernel
theorem dX9_mayOf_17 : decode cX9_mayOf 17 = .ok (.iload_n 2, 1) := by decide +kernel
theorem dX9_mayOf_18 : decode cX9_mayOf 18 = .ok (.if_icmp .ge 11, 3) := by decide +kernel
theorem dX9_mayOf_21 : decode cX9_mayOf 21 = .ok (.aload_n 0, 1) := by decide +kernel
theorem dX9_mayOf_22 : decode cX9_mayOf 22 = .ok (.iload_n 1, 1) := by decide +kernel
theorem dX9_mayOf_23 : decode cX9_mayOf 23 = .ok (.invokevirtual 117, 3) := by decide +kernel
theorem dX9_mayOf_26 : decode cX9_mayOf 26 = .ok (.goto 4, 3) := by decide +kernel
theorem dX9_mayOf_29 : decode cX9_mayOf 29 = .ok (.iload_n 2, 1) := by decide +kernel
theorem dX9_mayOf_30 : decode cX9_mayOf 30 = .ok (.ireturn, 1) := by decide +kernel
theorem dX9_sumOf_0 : decode cX9_sumOf 0 = .ok (.iconst 0, 1) := by decide +kernel
theorem dX9_sumOf_1 : decode cX9_sumOf 1 = .ok (.istore_n 3, 1) := by decide +kernel
theorem dX9_sumOf_2 : decode cX9_sumOf 2 = .ok (.iconst 0, 1) := by decide +kernel
theorem dX9_sumOf_3 : decode cX9_sumOf 3 = .ok (.istore 4, 2) := by decide +kernel
theorem dX9_sumOf_5 : decode cX9_sumOf 5 = .ok (.iload 4, 2) := by decide +kernel
theorem dX9_sumOf_7 : decode cX9_sumOf 7 = .ok (.aload_n 0, 1) := by decide +kernel
theorem dX9_sumOf_8 : decode cX9_sumOf 8 = .ok (.getfield 62, 3) := by decide +kernel
theorem dX9_sumOf_11 : decode cX9_sumOf 11 = .ok (.if_icmp .ge 43, 3) := by decide +kernel
theorem dX9_sumOf_14 : decode cX9_sumOf 14 = .ok (.iload_n 3, 1) := by decide +kernel
theorem dX9_sumOf_15 : decode cX9_sumOf 15 = .ok (.iload_n 2, 1) := by decide +kernel
theorem dX9_sumOf_16 : decode cX9_sumOf 16 = .ok (.ifCond .eq 18, 3) := by decide +kernel
theorem dX9_sumOf_19 : decode cX9_sumOf 19 = .ok (.aload_n 0, 1) := by decide +kernel
theorem dX9_sumOf_20 : decode cX9_sumOf 20 = .ok (.getfield 28, 3) := by decide +kernel
theorem dX9_sumOf_23 : decode cX9_sumOf 23 = .ok (.bipush 6, 2) := by decide +kernel
theorem dX9_sumOf_25 : decode cX9_sumOf 25 = .ok (.iload_n 1, 1) := by decide +kernel
theorem dX9_sumOf_26 : decode cX9_sumOf 26 = .ok (.imul, 1) := by decide +kernel
theorem dX9_sumOf_27 : decode cX9_sumOf 27 = .ok (.iload 4, 2) := by decide +kernel
theorem dX9_sumOf_29 : decode cX9_sumOf 29 = .ok (.iadd, 1) := by decide +kernel
theorem dX9_sumOf_30 : decode cX9_sumOf 30 = .ok (.iaload, 1) := by decide +kernel
theorem dX9_sumOf_31 : decode cX9_sumOf 31 = .ok (.goto 15, 3) := by decide +kernel
theorem dX9_sumOf_34 : decode cX9_sumOf 34 = .ok (.aload_n 0, 1) := by decide +kernel
theorem dX9_sumOf_35 : decode cX9_sumOf 35 = .ok (.getfield 28, 3) := by decide +kernel
theorem dX9_sumOf_38 : decode cX9_sumOf 38 = .ok (.bipush 6, 2) := by decide +kernel
theorem dX9_sumOf_40 : decode cX9_sumOf 40 = .ok (.iload 4, 2) := by decide +kernel
theorem dX9_sumOf_42 : decode cX9_sumOf 42 = .ok (.imul, 1) := by decide +kernel
theorem dX9_sumOf_43 : decode cX9_sumOf 43 = .ok (.iload_n 1, 1) := by decide +kernel
theorem dX9_sumOf_44 : decode cX9_sumOf 44 = .ok (.iadd, 1) := by decide +kernel
theorem dX9_sumOf_45 : decode cX9_sumOf 45 = .ok (.iaload, 1) := by decide +kernel
theorem dX9_sumOf_46 : decode cX9_sumOf 46 = .ok (.iadd, 1) := by decide +kernel
theorem dX9_sumOf_47 : decode cX9_sumOf 47 = .ok (.istore_n 3, 1) := by decide +kernel
theorem dX9_sumOf_48 : decode cX9_sumOf 48 = .ok (.iinc 4 1, 3) := by decide +kernel
theorem dX9_sumOf_51 : decode cX9_sumOf 51 = .ok (.goto (-46), 3) := by decide +kernel
theorem dX9_sumOf_54 : decode cX9_sumOf 54 = .ok (.iload_n 3, 1) := by decide +kernel
theorem dX9_sumOf_55 : decode cX9_sumOf 55 = .ok (.ireturn, 1) := by decide +kernel
theorem dX9_ofPerson_0 : decode cX9_ofPerson 0 = .ok (.aload_n 0, 1) := by decide +kernel
theorem dX9_ofPerson_1 : decode cX9_ofPerson 1 = .ok (.iload_n 1, 1) := by decide +kernel
theorem dX9_ofPerson_2 : decode cX9_ofPerson 2 = .ok (.invokevirtual 120, 3) := by decide +kernel
theorem dX9_ofPerson_5 : decode cX9_ofPerson 5 = .ok (.ifCond .ne 5, 3) := by decide +kernel
theorem dX9_ofPerson_8 : decode cX9_ofPerson 8 = .ok (.iconst (-1), 1) := by decide +kernel
theorem dX9_ofPerson_9 : decode cX9_ofPerson 9 = .ok (.ireturn, 1) := by decide +kernel
theorem dX9_ofPerson_10 : decode cX9_ofPerson 10 = .ok (.iload_n 2, 1) := by decide +kernel
theorem dX9_ofPerson_11 : decode cX9_ofPerson 11 = .ok (.tableswitch 101 0 7 #[45, 52, 59, 66, 72, 78, 87, 94], 45) := by decide +kernel
theorem dX9_ofPerson_56 : decode cX9_ofPerson 56 = .ok (.aload_n 0, 1) := by decide +kernel
theorem dX9_ofPerson_57 : decode cX9_ofPerson 57 = .ok (.getfield 19, 3) := by decide +kernel
theorem dX9_ofPerson_60 : decode cX9_ofPerson 60 = .ok (.iload_n 1, 1) := by decide +kernel
theorem dX9_ofPerson_61 : decode cX9_ofPerson 61 = .ok (.iaload, 1) := by decide +kernel
theorem dX9_ofPerson_62 : decode cX9_ofPerson 62 = .ok (.ireturn, 1) := by decide +kernel
theorem dX9_ofPerson_63 : decode cX9_ofPerson 63 = .ok (.aload_n 0, 1) := by decide +kernel
theorem dX9_ofPerson_64 : decode cX9_ofPerson 64 = .ok (.getfield 22, 3) := by decide +kernel
theorem dX9_ofPerson_67 : decode cX9_ofPerson 67 = .ok (.iload_n 1, 1) := by decide +kernel
theorem dX9_ofPerson_68 : decode cX9_ofPerson 68 = .ok (.iaload, 1) := by decide +kernel
theorem dX9_ofPerson_69 : decode cX9_ofPerson 69 = .ok (.ireturn, 1) := by decide +kernel
theorem dX9_ofPerson_70 : decode cX9_ofPerson 70 = .ok (.aload_n 0, 1) := by decide +kernel
theorem dX9_ofPerson_71 : decode cX9_ofPerson 71 = .ok (.getfield 25, 3) := by decide +kernel
theorem dX9_ofPerson_74 : decode cX9_ofPerson 74 = .ok (.iload_n 1, 1) := by decide +kernel
theorem dX9_ofPerson_75 : decode cX9_ofPerson 75 = .ok (.iaload, 1) := by decide +kernel
theorem dX9_ofPerson_76 : decode cX9_ofPerson 76 = .ok (.ireturn, 1) := by decide +kernel
theorem dX9_ofPerson_77 : decode cX9_ofPerson 77 = .ok (.aload_n 0, 1) := by decide +kernel
theorem dX9_ofPerson_78 : decode cX9_ofPerson 78 = .ok (.iload_n 1, 1) := by decide +kernel
theorem dX9_ofPerson_79 : decode cX9_ofPerson 79 = .ok (.invokevirtual 117, 3) := by decide +kernel
theorem dX9_ofPerson_82 : decode cX9_ofPerson 82 = .ok (.ireturn, 1) := by decide +kernel
theorem dX9_ofPerson_83 : decode cX9_ofPerson 83 = .ok (.aload_n 0, 1) := by decide +kernel
theorem dX9_ofPerson_84 : decode cX9_ofPerson 84 = .ok (.iload_n 1, 1) := by decide +kernel
theorem dX9_ofPerson_85 : decode cX9_ofPerson 85 = .ok (.invokevirtual 123, 3) := by decide +kernel
theorem dX9_ofPerson_88 : decode cX9_ofPerson 88 = .ok (.ireturn, 1) := by decide +kernel
theorem dX9_ofPerson_89 : decode cX9_ofPerson 89 = .ok (.aload_n 0, 1) := by decide +kernel
theorem dX9_ofPerson_90 : decode cX9_ofPerson 90 = .ok (.getfield 98, 3) := by decide +kernel
theorem dX9_ofPerson_93 : decode cX9_ofPerson 93 = .ok (.iload_n 1, 1) := by decide +kernel
theorem dX9_ofPerson_94 : decode cX9_ofPerson 94 = .ok (.ishr, 1) := by decide +kernel
theorem dX9_ofPerson_95 : decode cX9_ofPerson 95 = .ok (.iconst 1, 1) := by decide +kernel
theorem dX9_ofPerson_96 : decode cX9_ofPerson 96 = .ok (.iand, 1) := by decide +kernel
theorem dX9_ofPerson_97 : decode cX9_ofPerson 97 = .ok (.ireturn, 1) := by decide +kernel
theorem dX9_ofPerson_98 : decode cX9_ofPerson 98 = .ok (.aload_n 0, 1) := by decide +kernel
theorem dX9_ofPerson_99 : decode cX9_ofPerson 99 = .ok (.iload_n 1, 1) := by decide +kernel
theorem dX9_ofPerson_100 : decode cX9_ofPerson 100 = .ok (.iconst 1, 1) := by decide +kernel
theorem dX9_ofPerson_101 : decode cX9_ofPerson 101 = .ok (.invokevirtual 126, 3) := by decide +kernel
theorem dX9_ofPerson_104 : decode cX9_ofPerson 104 = .ok (.ireturn, 1) := by decide +kernel
theorem dX9_ofPerson_105 : decode cX9_ofPerson 105 = .ok (.aload_n 0, 1) := by decide +kernel
theorem dX9_ofPerson_106 : decode cX9_ofPerson 106 = .ok (.iload_n 1, 1) := by decide +kernel
theorem dX9_ofPerson_107 : decode cX9_ofPerson 107 = .ok (.iconst 0, 1) := by decide +kernel
theorem dX9_ofPerson_108 : decode cX9_ofPerson 108 = .ok (.invokevirtual 126, 3) := by decide +kernel
theorem dX9_ofPerson_111 : decode cX9_ofPerson 111 = .ok (.ireturn, 1) := by decide +kernel
theorem dX9_ofPerson_112 : decode cX9_ofPerson 112 = .ok (.bipush (-2), 2) := by decide +kernel
theorem dX9_ofPerson_114 : decode cX9_ofPerson 114 = .ok (.ireturn, 1) := by decide +kernel
theorem dX9_hurry_0 : decode cX9_hurry 0 = .ok (.aload_n 0, 1) := by decide +kernel
theorem dX9_hurry_1 : decode cX9_hurry 1 = .ok (.iload_n 1, 1) := by decide +kernel
theorem dX9_hurry_2 : decode cX9_hurry 2 = .ok (.invokevirtual 120, 3) := by decide +kernel
theorem dX9_hurry_5 : decode cX9_hurry 5 = .ok (.ifCond .ne 5, 3) := by decide +kernel
theorem dX9_hurry_8 : decode cX9_hurry 8 = .ok (.iconst (-1), 1) := by decide +kernel
theorem dX9_hurry_9 : decode cX9_hurry 9 = .ok (.ireturn, 1) := by decide +kernel
theorem dX9_hurry_10 : decode cX9_hurry 10 = .ok (.iload_n 2, 1) := by decide +kernel
theorem dX9_hurry_11 : decode cX9_hurry 11 = .ok (.iconst 0, 1) := by decide +kernel
theorem dX9_hurry_12 : decode cX9_hurry 12 = .ok (.bipush 9, 2) := by decide +kernel
theorem dX9_hurry_14 : decode cX9_hurry 14 = .ok (.invokestatic 58, 3) := by decide +kernel
theorem dX9_hurry_17 : decode cX9_hurry 17 = .ok (.ifCond .ne 6, 3) := by decide +kernel
theorem dX9_hurry_20 : decode cX9_hurry 20 = .ok (.bipush (-2), 2) := by decide +kernel
theorem dX9_hurry_22 : decode cX9_hurry 22 = .ok (.ireturn, 1) := by decide +kernel
theorem dX9_hurry_23 : decode cX9_hurry 23 = .ok (.aload_n 0, 1) := by decide +kernel
theorem dX9_hurry_24 : decode cX9_hurry 24 = .ok (.getfield 22, 3) := by decide +kernel
theorem dX9_hurry_27 : decode cX9_hurry 27 = .ok (.iload_n 1, 1) := by decide +kernel
theorem dX9_hurry_28 : decode cX9_hurry 28 = .ok (.iaload, 1) := by decide +kernel
theorem dX9_hurry_29 : decode cX9_hurry 29 = .ok (.istore_n 3, 1) := by decide +kernel
theorem dX9_hurry_30 : decode cX9_hurry 30 = .ok (.aload_n 0, 1) := by decide +kernel
theorem dX9_hurry_31 : decode cX9_hurry 31 = .ok (.getfield 22, 3) := by decide +kernel
theorem dX9_hurry_34 : decode cX9_hurry 34 = .ok (.iload_n 1, 1) := by decide +kernel
theorem dX9_hurry_35 : decode cX9_hurry 35 = .ok (.iload_n 2, 1) := by decide +kernel
theorem dX9_hurry_36 : decode cX9_hurry 36 = .ok (.iastore, 1) := by decide +kernel
theorem dX9_hurry_37 : decode cX9_hurry 37 = .ok (.iload_n 3, 1) := by decide +kernel
theorem dX9_hurry_38 : decode cX9_hurry 38 = .ok (.ireturn, 1) := by decide +kernel
theorem dX9_wall_0 : decode cX9_wall 0 = .ok (.aload_n 0, 1) := by decide +kernel
theorem dX9_wall_1 : decode cX9_wall 1 = .ok (.iload_n 1, 1) := by decide +kernel
theorem dX9_wall_2 : decode cX9_wall 2 = .ok (.invokevirtual 120, 3) := by decide +kernel
theorem dX9_wall_5 : decode cX9_wall 5 = .ok (.ifCond .ne 5, 3) := by decide +kernel
theorem dX9_wall_8 : decode cX9_wall 8 = .ok (.iconst (-1), 1) := by decide +kernel
theorem dX9_wall_9 : decode cX9_wall 9 = .ok (.ireturn, 1) := by decide +kernel
theorem dX9_wall_10 : decode cX9_wall 10 = .ok (.iload_n 2, 1) := by decide +kernel
theorem dX9_wall_11 : decode cX9_wall 11 = .ok (.iconst 0, 1) := by decide +kernel
theorem dX9_wall_12 : decode cX9_wall 12 = .ok (.bipush 9, 2) := by decide +kernel
theorem dX9_wall_14 : decode cX9_wall 14 = .ok (.invokestatic 58, 3) := by decide +kernel
theorem dX9_wall_17 : decode cX9_wall 17 = .ok (.ifCond .ne 6, 3) := by decide +kernel
theorem dX9_wall_20 : decode cX9_wall 20 = .ok (.bipush (-2), 2) := by decide +kernel
theorem dX9_wall_22 : decode cX9_wall 22 = .ok (.ireturn, 1) := by decide +kernel
theorem dX9_wall_23 : decode cX9_wall 23 = .ok (.aload_n 0, 1) := by decide +kernel
theorem dX9_wall_24 : decode cX9_wall 24 = .ok (.getfield 25, 3) := by decide +kernel
theorem dX9_wall_27 : decode cX9_wall 27 = .ok (.iload_n 1, 1) := by decide +kernel
theorem dX9_wall_28 : decode cX9_wall 28 = .ok (.iaload, 1) := by decide +kernel
theorem dX9_wall_29 : decode cX9_wall 29 = .ok (.istore_n 3, 1) := by decide +kernel
theorem dX9_wall_30 : decode cX9_wall 30 = .ok (.aload_n 0, 1) := by decide +kernel
theorem dX9_wall_31 : decode cX9_wall 31 = .ok (.getfield 25, 3) := by decide +kernel
theorem dX9_wall_34 : decode cX9_wall 34 = .ok (.iload_n 1, 1) := by decide +kernel
theorem dX9_wall_35 : decode cX9_wall 35 = .ok (.iload_n 2, 1) := by decide +kernel
theorem dX9_wall_36 : decode cX9_wall 36 = .ok (.iastore, 1) := by decide +kernel
theorem dX9_wall_37 : decode cX9_wall 37 = .ok (.iload_n 3, 1) := by decide +kernel
theorem dX9_wall_38 : decode cX9_wall 38 = .ok (.ireturn, 1) := by decide +kernel
theorem dX9_lease_0 : decode cX9_lease 0 = .ok (.iload_n 1, 1) := by decide +kernel
theorem dX9_lease_1 : decode cX9_lease 1 = .ok (.iconst 0, 1) := by decide +kernel
theorem dX9_lease_2 : decode cX9_lease 2 = .ok (.bipush 9, 2) := by decide +kernel
theorem dX9_lease_4 : decode cX9_lease 4 = .ok (.invokestatic 58, 3) := by decide +kernel
theorem dX9_lease_7 : decode cX9_lease 7 = .ok (.ifCond .ne 6, 3) := by decide +kernel
theorem dX9_lease_10 : decode cX9_lease 10 = .ok (.bipush (-2), 2) := by decide +kernel
theorem dX9_lease_12 : decode cX9_lease 12 = .ok (.ireturn, 1) := by decide +kernel
theorem dX9_lease_13 : decode cX9_lease 13 = .ok (.aload_n 0, 1) := by decide +kernel
theorem dX9_lease_14 : decode cX9_lease 14 = .ok (.getfield 62, 3) := by decide +kernel
theorem dX9_lease_17 : decode cX9_lease 17 = .ok (.ifCond .ne 6, 3) := by decide +kernel
theorem dX9_lease_20 : decode cX9_lease 20 = .ok (.bipush (-3), 2) := by decide +kernel
theorem dX9_lease_22 : decode cX9_lease 22 = .ok (.ireturn, 1) := by decide +kernel
theorem dX9_lease_23 : decode cX9_lease 23 = .ok (.aload_n 0, 1) := by decide +kernel
theorem dX9_lease_24 : decode cX9_lease 24 = .ok (.getfield 92, 3) := by decide +kernel
theorem dX9_lease_27 : decode cX9_lease 27 = .ok (.istore_n 2, 1) := by decide +kernel
theorem dX9_lease_28 : decode cX9_lease 28 = .ok (.aload_n 0, 1) := by decide +kernel
theorem dX9_lease_29 : decode cX9_lease 29 = .ok (.iload_n 1, 1) := by decide +kernel
theorem dX9_lease_30 : decode cX9_lease 30 = .ok (.putfield 92, 3) := by decide +kernel
theorem dX9_lease_33 : decode cX9_lease 33 = .ok (.iload_n 2, 1) := by decide +kernel
theorem dX9_lease_34 : decode cX9_lease 34 = .ok (.ireturn, 1) := by decide +kernel
theorem dX9_callOf_0 : decode cX9_callOf 0 = .ok (.aload_n 0, 1) := by decide +kernel
theorem dX9_callOf_1 : decode cX9_callOf 1 = .ok (.iconst 0, 1) := by decide +kernel
theorem dX9_callOf_2 : decode cX9_callOf 2 = .ok (.putfield 130, 3) := by decide +kernel
theorem dX9_callOf_5 : decode cX9_callOf 5 = .ok (.aload_n 0, 1) := by decide +kernel
theorem dX9_callOf_6 : decode cX9_callOf 6 = .ok (.bipush (-9), 2) := by decide +kernel
theorem dX9_callOf_8 : decode cX9_callOf 8 = .ok (.putfield 133, 3) := by decide +kernel
theorem dX9_callOf_11 : decode cX9_callOf 11 = .ok (.aload_n 0, 1) := by decide +kernel
theorem dX9_callOf_12 : decode cX9_callOf 12 = .ok (.bipush (-9), 2) := by decide +kernel
theorem dX9_callOf_14 : decode cX9_callOf 14 = .ok (.putfield 136, 3) := by decide +kernel
theorem dX9_callOf_17 : decode cX9_callOf 17 = .ok (.iconst 1, 1) := by decide +kernel
theorem dX9_callOf_18 : decode cX9_callOf 18 = .ok (.istore_n 2, 1) := by decide +kernel
theorem dX9_callOf_19 : decode cX9_callOf 19 = .ok (.iload_n 2, 1) := by decide +kernel
theorem dX9_callOf_20 : decode cX9_callOf 20 = .ok (.ifCond .eq 77, 3) := by decide +kernel
theorem dX9_callOf_23 : decode cX9_callOf 23 = .ok (.iconst 0, 1) := by decide +kernel
theorem dX9_callOf_24 : decode cX9_callOf 24 = .ok (.istore_n 2, 1) := by decide +kernel
theorem dX9_callOf_25 : decode cX9_callOf 25 = .ok (.iconst 0, 1) := by decide +kernel
theorem dX9_callOf_26 : decode cX9_callOf 26 = .ok (.istore_n 3, 1) := by decide +kernel
theorem dX9_callOf_27 : decode cX9_callOf 27 = .ok (.iload_n 3, 1) := by decide +kernel
theorem dX9_callOf_28 : decode cX9_callOf 28 = .ok (.aload_n 0, 1) := by decide +kernel
theorem dX9_callOf_29 : decode cX9_callOf 29 = .ok (.getfield 62, 3) := by decide +kernel
theorem dX9_callOf_32 : decode cX9_callOf 32 = .ok (.if_icmp .ge 62, 3) := by decide +kernel
theorem dX9_callOf_35 : decode cX9_callOf 35 = .ok (.iload_n 1, 1) := by decide +kernel
theorem dX9_callOf_36 : decode cX9_callOf 36 = .ok (.iload_n 3, 1) := by decide +kernel
theorem dX9_callOf_37 : decode cX9_callOf 37 = .ok (.invokestatic 139, 3) := by decide +kernel
theorem dX9_callOf_40 : decode cX9_callOf 40 = .ok (.ifCond .eq 48, 3) := by decide +kernel
theorem dX9_callOf_43 : decode cX9_callOf 43 = .ok (.iload_n 3, 1) := by decide +kernel
theorem dX9_callOf_44 : decode cX9_callOf 44 = .ok (.aload_n 0, 1) := by decide +kernel
theorem dX9_callOf_45 : decode cX9_callOf 45 = .ok (.getfield 133, 3) := by decide +kernel
theorem dX9_callOf_48 : decode cX9_callOf 48 = .ok (.if_icmp .eq 40, 3) := by decide +kernel
theorem dX9_callOf_51 : decode cX9_callOf 51 = .ok (.aload_n 0, 1) := by decide +kernel
theorem dX9_callOf_52 : decode cX9_callOf 52 = .ok (.iload_n 3, 1) := by decide +kernel
theorem dX9_callOf_53 : decode cX9_callOf 53 = .ok (.invokevirtual 123, 3) := by decide +kernel
theorem dX9_callOf_56 : decode cX9_callOf 56 = .ok (.aload_n 0, 1) := by decide +kernel
theorem dX9_callOf_57 : decode cX9_callOf 57 = .ok (.getfield 130, 3) := by decide +kernel
theorem dX9_callOf_60 : decode cX9_callOf 60 = .ok (.if_icmp .le 28, 3) := by decide +kernel
theorem dX9_callOf_63 : decode cX9_callOf 63 = .ok (.aload_n 0, 1) := by decide +kernel
theorem dX9_callOf_64 : decode cX9_callOf 64 = .ok (.dup, 1) := by decide +kernel
theorem dX9_callOf_65 : decode cX9_callOf 65 = .ok (.getfield 130, 3) := by decide +kernel
theorem dX9_callOf_68 : decode cX9_callOf 68 = .ok (.iconst 1, 1) := by decide +kernel
theorem dX9_callOf_69 : decode cX9_callOf 69 = .ok (.iadd, 1) := by decide +kernel
theorem dX9_callOf_70 : decode cX9_callOf 70 = .ok (.putfield 130, 3) := by decide +kernel
theorem dX9_callOf_73 : decode cX9_callOf 73 = .ok (.aload_n 0, 1) := by decide +kernel
theorem dX9_callOf_74 : decode cX9_callOf 74 = .ok (.aload_n 0, 1) := by decide +kernel
theorem dX9_callOf_75 : decode cX9_callOf 75 = .ok (.getfield 133, 3) := by decide +kernel
theorem dX9_callOf_78 : decode cX9_callOf 78 = .ok (.putfield 136, 3) := by decide +kernel
theorem dX9_callOf_81 : decode cX9_callOf 81 = .ok (.aload_n 0, 1) := by decide +kernel
theorem dX9_callOf_82 : decode cX9_callOf 82 = .ok (.iload_n 3, 1) := by decide +kernel
theorem dX9_callOf_83 : decode cX9_callOf 83 = .ok (.putfield 133, 3) := by decide +kernel
theorem dX9_callOf_86 : decode cX9_callOf 86 = .ok (.iconst 1, 1) := by decide +kernel
theorem dX9_callOf_87 : decode cX9_callOf 87 = .ok (.istore_n 2, 1) := by decide +kernel
theorem dX9_callOf_88 : decode cX9_callOf 88 = .ok (.iinc 3 1, 3) := by decide +kernel
theorem dX9_callOf_91 : decode cX9_callOf 91 = .ok (.goto (-64), 3) := by decide +kernel
theorem dX9_callOf_94 : decode cX9_callOf 94 = .ok (.goto (-75), 3) := by decide +kernel
theorem dX9_callOf_97 : decode cX9_callOf 97 = .ok (.aload_n 0, 1) := by decide +kernel
theorem dX9_callOf_98 : decode cX9_callOf 98 = .ok (.getfield 133, 3) := by decide +kernel
theorem dX9_callOf_101 : decode cX9_callOf 101 = .ok (.bipush (-9), 2) := by decide +kernel
theorem dX9_callOf_103 : decode cX9_callOf 103 = .ok (.if_icmp .ne 10, 3) := by decide +kernel
theorem dX9_callOf_106 : decode cX9_callOf 106 = .ok (.iload_n 1, 1) := by decide +kernel
theorem dX9_callOf_107 : decode cX9_callOf 107 = .ok (.invokestatic 142, 3) := by decide +kernel
theorem dX9_callOf_110 : decode cX9_callOf 110 = .ok (.goto 7, 3) := by decide +kernel
theorem dX9_callOf_113 : decode cX9_callOf 113 = .ok (.aload_n 0, 1) := by decide +kernel
theorem dX9_callOf_114 : decode cX9_callOf 114 = .ok (.getfield 133, 3) := by decide +kernel
theorem dX9_callOf_117 : decode cX9_callOf 117 = .ok (.ireturn, 1) := by decide +kernel
theorem dX9_leastOf_0 : decode cX9_leastOf 0 = .ok (.iconst 0, 1) := by decide +kernel
theorem dX9_leastOf_1 : decode cX9_leastOf 1 = .ok (.istore_n 1, 1) := by decide +kernel
theorem dX9_leastOf_2 : decode cX9_leastOf 2 = .ok (.iload_n 0, 1) := by decide +kernel
theorem dX9_leastOf_3 : decode cX9_leastOf 3 = .ok (.iload_n 1, 1) := by decide +kernel
theorem dX9_leastOf_4 : decode cX9_leastOf 4 = .ok (.invokestatic 139, 3) := by decide +kernel
theorem dX9_leastOf_7 : decode cX9_leastOf 7 = .ok (.ifCond .ne 9, 3) := by decide +kernel
theorem dX9_leastOf_10 : decode cX9_leastOf 10 = .ok (.iinc 1 1, 3) := by decide +kernel
theorem dX9_leastOf_13 : decode cX9_leastOf 13 = .ok (.goto (-11), 3) := by decide +kernel
theorem dX9_leastOf_16 : decode cX9_leastOf 16 = .ok (.iload_n 1, 1) := by decide +kernel
theorem dX9_leastOf_17 : decode cX9_leastOf 17 = .ok (.ireturn, 1) := by decide +kernel
theorem dX9_go_0 : decode cX9_go 0 = .ok (.aload_n 0, 1) := by decide +kernel
theorem dX9_go_1 : decode cX9_go 1 = .ok (.getfield 98, 3) := by decide +kernel
theorem dX9_go_4 : decode cX9_go 4 = .ok (.ifCond .ne 6, 3) := by decide +kernel
theorem dX9_go_7 : decode cX9_go 7 = .ok (.bipush (-3), 2) := by decide +kernel
theorem dX9_go_9 : decode cX9_go 9 = .ok (.ireturn, 1) := by decide +kernel
theorem dX9_go_10 : decode cX9_go 10 = .ok (.aload_n 0, 1) := by decide +kernel
theorem dX9_go_11 : decode cX9_go 11 = .ok (.aload_n 0, 1) := by decide +kernel
theorem dX9_go_12 : decode cX9_go 12 = .ok (.getfield 98, 3) := by decide +kernel
theorem dX9_go_15 : decode cX9_go 15 = .ok (.invokevirtual 145, 3) := by decide +kernel
theorem dX9_go_18 : decode cX9_go 18 = .ok (.istore_n 1, 1) := by decide +kernel
theorem dX9_go_19 : decode cX9_go 19 = .ok (.aload_n 0, 1) := by decide +kernel
theorem dX9_go_20 : decode cX9_go 20 = .ok (.dup, 1) := by decide +kernel
theorem dX9_go_21 : decode cX9_go 21 = .ok (.getfield 98, 3) := by decide +kernel
theorem dX9_go_24 : decode cX9_go 24 = .ok (.iconst 1, 1) := by decide +kernel
theorem dX9_go_25 : decode cX9_go 25 = .ok (.iload_n 1, 1) := by decide +kernel
theorem dX9_go_26 : decode cX9_go 26 = .ok (.ishl, 1) := by decide +kernel
theorem dX9_go_27 : decode cX9_go 27 = .ok (.iconst (-1), 1) := by decide +kernel
theorem dX9_go_28 : decode cX9_go 28 = .ok (.ixor, 1) := by decide +kernel
theorem dX9_go_29 : decode cX9_go 29 = .ok (.iand, 1) := by decide +kernel
theorem dX9_go_30 : decode cX9_go 30 = .ok (.putfield 98, 3) := by decide +kernel
theorem dX9_go_33 : decode cX9_go 33 = .ok (.aload_n 0, 1) := by decide +kernel
theorem dX9_go_34 : decode cX9_go 34 = .ok (.getfield 136, 3) := by decide +kernel
theorem dX9_go_37 : decode cX9_go 37 = .ok (.bipush (-9), 2) := by decide +kernel
theorem dX9_go_39 : decode cX9_go 39 = .ok (.if_icmp .eq 24, 3) := by decide +kernel
theorem dX9_go_42 : decode cX9_go 42 = .ok (.aload_n 0, 1) := by decide +kernel
theorem dX9_go_43 : decode cX9_go 43 = .ok (.getfield 28, 3) := by decide +kernel
theorem dX9_go_46 : decode cX9_go 46 = .ok (.bipush 6, 2) := by decide +kernel
theorem dX9_go_48 : decode cX9_go 48 = .ok (.iload_n 1, 1) := by decide +kernel
theorem dX9_go_49 : decode cX9_go 49 = .ok (.imul, 1) := by decide +kernel
theorem dX9_go_50 : decode cX9_go 50 = .ok (.aload_n 0, 1) := by decide +kernel
theorem dX9_go_51 : decode cX9_go 51 = .ok (.getfield 136, 3) := by decide +kernel
theorem dX9_go_54 : decode cX9_go 54 = .ok (.iadd, 1) := by decide +kernel
theorem dX9_go_55 : decode cX9_go 55 = .ok (.dup2, 1) := by decide +kernel
theorem dX9_go_56 : decode cX9_go 56 = .ok (.iaload, 1) := by decide +kernel
theorem dX9_go_57 : decode cX9_go 57 = .ok (.aload_n 0, 1) := by decide +kernel
theorem dX9_go_58 : decode cX9_go 58 = .ok (.getfield 130, 3) := by decide +kernel
theorem dX9_go_61 : decode cX9_go 61 = .ok (.iadd, 1) := by decide +kernel
theorem dX9_go_62 : decode cX9_go 62 = .ok (.iastore, 1) := by decide +kernel
theorem dX9_go_63 : decode cX9_go 63 = .ok (.iload_n 1, 1) := by decide +kernel
theorem dX9_go_64 : decode cX9_go 64 = .ok (.ireturn, 1) := by decide +kernel
theorem dX9_morning_0 : decode cX9_morning 0 = .ok (.aload_n 0, 1) := by decide +kernel
theorem dX9_morning_1 : decode cX9_morning 1 = .ok (.getfield 62, 3) := by decide +kernel
theorem dX9_morning_4 : decode cX9_morning 4 = .ok (.ifCond .ne 6, 3) := by decide +kernel
theorem dX9_morning_7 : decode cX9_morning 7 = .ok (.bipush (-3), 2) := by decide +kernel
theorem dX9_morning_9 : decode cX9_morning 9 = .ok (.ireturn, 1) := by decide +kernel
theorem dX9_morning_10 : decode cX9_morning 10 = .ok (.iconst 1, 1) := by decide +kernel
theorem dX9_morning_11 : decode cX9_morning 11 = .ok (.aload_n 0, 1) := by decide +kernel
theorem dX9_morning_12 : decode cX9_morning 12 = .ok (.getfield 62, 3) := by decide +kernel
theorem dX9_morning_15 : decode cX9_morning 15 = .ok (.ishl, 1) := by decide +kernel
theorem dX9_morning_16 : decode cX9_morning 16 = .ok (.iconst 1, 1) := by decide +kernel
theorem dX9_morning_17 : decode cX9_morning 17 = .ok (.isub, 1) := by decide +kernel
theorem dX9_morning_18 : decode cX9_morning 18 = .ok (.istore_n 1, 1) := by decide +kernel
theorem dX9_morning_19 : decode cX9_morning 19 = .ok (.aload_n 0, 1) := by decide +kernel
theorem dX9_morning_20 : decode cX9_morning 20 = .ok (.getfield 62, 3) := by decide +kernel
theorem dX9_morning_23 : decode cX9_morning 23 = .ok (.aload_n 0, 1) := by decide +kernel
theorem dX9_morning_24 : decode cX9_morning 24 = .ok (.getfield 98, 3) := by decide +kernel
theorem dX9_morning_27 : decode cX9_morning 27 = .ok (.invokestatic 148, 3) := by decide +kernel
theorem dX9_morning_30 : decode cX9_morning 30 = .ok (.isub, 1) := by decide +kernel
theorem dX9_morning_31 : decode cX9_morning 31 = .ok (.istore_n 2, 1) := by decide +kernel
theorem dX9_morning_32 : decode cX9_morning 32 = .ok (.aload_n 0, 1) := by decide +kernel
theorem dX9_morning_33 : decode cX9_morning 33 = .ok (.iload_n 1, 1) := by decide +kernel
theorem dX9_morning_34 : decode cX9_morning 34 = .ok (.putfield 98, 3) := by decide +kernel
theorem dX9_morning_37 : decode cX9_morning 37 = .ok (.aload_n 0, 1) := by decide +kernel
theorem dX9_morning_38 : decode cX9_morning 38 = .ok (.dup, 1) := by decide +kernel
theorem dX9_morning_39 : decode cX9_morning 39 = .ok (.getfield 101, 3) := by decide +kernel
theorem dX9_morning_42 : decode cX9_morning 42 = .ok (.iconst 1, 1) := by decide +kernel
theorem dX9_morning_43 : decode cX9_morning 43 = .ok (.iadd, 1) := by decide +kernel
theorem dX9_morning_44 : decode cX9_morning 44 = .ok (.putfield 101, 3) := by decide +kernel
theorem dX9_morning_47 : decode cX9_morning 47 = .ok (.iload_n 2, 1) := by decide +kernel
theorem dX9_morning_48 : decode cX9_morning 48 = .ok (.ireturn, 1) := by decide +kernel
theorem dX9_areTwo_0 : decode cX9_areTwo 0 = .ok (.aload_n 0, 1) := by decide +kernel
theorem dX9_areTwo_1 : decode cX9_areTwo 1 = .ok (.iload_n 1, 1) := by decide +kernel
theorem dX9_areTwo_2 : decode cX9_areTwo 2 = .ok (.invokevirtual 120, 3) := by decide +kernel
theorem dX9_areTwo_5 : decode cX9_areTwo 5 = .ok (.ifCond .eq 20, 3) := by decide +kernel
theorem dX9_areTwo_8 : decode cX9_areTwo 8 = .ok (.aload_n 0, 1) := by decide +kernel
theorem dX9_areTwo_9 : decode cX9_areTwo 9 = .ok (.iload_n 2, 1) := by decide +kernel
theorem dX9_areTwo_10 : decode cX9_areTwo 10 = .ok (.invokevirtual 120, 3) := by decide +kernel
theorem dX9_areTwo_13 : decode cX9_areTwo 13 = .ok (.ifCond .eq 12, 3) := by decide +kernel
theorem dX9_areTwo_16 : decode cX9_areTwo 16 = .ok (.iload_n 1, 1) := by decide +kernel
theorem dX9_areTwo_17 : decode cX9_areTwo 17 = .ok (.iload_n 2, 1) := by decide +kernel
theorem dX9_areTwo_18 : decode cX9_areTwo 18 = .ok (.if_icmp .eq 7, 3) := by decide +kernel
theorem dX9_areTwo_21 : decode cX9_areTwo 21 = .ok (.iconst 1, 1) := by decide +kernel
theorem dX9_areTwo_22 : decode cX9_areTwo 22 = .ok (.goto 4, 3) := by decide +kernel
theorem dX9_areTwo_25 : decode cX9_areTwo 25 = .ok (.iconst 0, 1) := by decide +kernel
theorem dX9_areTwo_26 : decode cX9_areTwo 26 = .ok (.ireturn, 1) := by decide +kernel
theorem dX9_owes_0 : decode cX9_owes 0 = .ok (.aload_n 0, 1) := by decide +kernel
theorem dX9_owes_1 : decode cX9_owes 1 = .ok (.iload_n 1, 1) := by decide +kernel
theorem dX9_owes_2 : decode cX9_owes 2 = .ok (.iload_n 2, 1) := by decide +kernel
theorem dX9_owes_3 : decode cX9_owes 3 = .ok (.invokevirtual 151, 3) := by decide +kernel
theorem dX9_owes_6 : decode cX9_owes 6 = .ok (.ifCond .eq 17, 3) := by decide +kernel
theorem dX9_owes_9 : decode cX9_owes 9 = .ok (.aload_n 0, 1) := by decide +kernel
theorem dX9_owes_10 : decode cX9_owes 10 = .ok (.getfield 28, 3) := by decide +kernel
theorem dX9_owes_13 : decode cX9_owes 13 = .ok (.bipush 6, 2) := by decide +kernel
theorem dX9_owes_15 : decode cX9_owes 15 = .ok (.iload_n 1, 1) := by decide +kernel
theorem dX9_owes_16 : decode cX9_owes 16 = .ok (.imul, 1) := by decide +kernel
theorem dX9_owes_17 : decode cX9_owes 17 = .ok (.iload_n 2, 1) := by decide +kernel
theorem dX9_owes_18 : decode cX9_owes 18 = .ok (.iadd, 1) := by decide +kernel
theorem dX9_owes_19 : decode cX9_owes 19 = .ok (.iaload, 1) := by decide +kernel
theorem dX9_owes_20 : decode cX9_owes 20 = .ok (.goto 4, 3) := by decide +kernel
theorem dX9_owes_23 : decode cX9_owes 23 = .ok (.iconst (-1), 1) := by decide +kernel
theorem dX9_owes_24 : decode cX9_owes 24 = .ok (.ireturn, 1) := by decide +kernel
theorem dX9_pays_0 : decode cX9_pays 0 = .ok (.aload_n 0, 1) := by decide +kernel
theorem dX9_pays_1 : decode cX9_pays 1 = .ok (.iload_n 1, 1) := by decide +kernel
theorem dX9_pays_2 : decode cX9_pays 2 = .ok (.iload_n 2, 1) := by decide +kernel
theorem dX9_pays_3 : decode cX9_pays 3 = .ok (.invokevirtual 151, 3) := by decide +kernel
theorem dX9_pays_6 : decode cX9_pays 6 = .ok (.ifCond .ne 5, 3) := by decide +kernel
theorem dX9_pays_9 : decode cX9_pays 9 = .ok (.iconst (-1), 1) := by decide +kernel
theorem dX9_pays_10 : decode cX9_pays 10 = .ok (.ireturn, 1) := by decide +kernel
theorem dX9_pays_11 : decode cX9_pays 11 = .ok (.iload_n 3, 1) := by decide +kernel
theorem dX9_pays_12 : decode cX9_pays 12 = .ok (.iconst 1, 1) := by decide +kernel
theorem dX9_pays_13 : decode cX9_pays 13 = .ok (.bipush 99, 2) := by decide +kernel
theorem dX9_pays_15 : decode cX9_pays 15 = .ok (.invokestatic 58, 3) := by decide +kernel
theorem dX9_pays_18 : decode cX9_pays 18 = .ok (.ifCond .ne 6, 3) := by decide +kernel
theorem dX9_pays_21 : decode cX9_pays 21 = .ok (.bipush (-2), 2) := by decide +kernel
theorem dX9_pays_23 : decode cX9_pays 23 = .ok (.ireturn, 1) := by decide +kernel
theorem dX9_pays_24 : decode cX9_pays 24 = .ok (.aload_n 0, 1) := by decide +kernel
theorem dX9_pays_25 : decode cX9_pays 25 = .ok (.getfield 28, 3) := by decide +kernel
theorem dX9_pays_28 : decode cX9_pays 28 = .ok (.bipush 6, 2) := by decide +kernel
theorem dX9_pays_30 : decode cX9_pays 30 = .ok (.iload_n 1, 1) := by decide +kernel
theorem dX9_pays_31 : decode cX9_pays 31 = .ok (.imul, 1) := by decide +kernel
theorem dX9_pays_32 : decode cX9_pays 32 = .ok (.iload_n 2, 1) := by decide +kernel
theorem dX9_pays_33 : decode cX9_pays 33 = .ok (.iadd, 1) := by decide +kernel
theorem dX9_pays_34 : decode cX9_pays 34 = .ok (.iaload, 1) := by decide +kernel
theorem dX9_pays_35 : decode cX9_pays 35 = .ok (.iload_n 3, 1) := by decide +kernel
theorem dX9_pays_36 : decode cX9_pays 36 = .ok (.if_icmp .ge 6, 3) := by decide +kernel
theorem dX9_pays_39 : decode cX9_pays 39 = .ok (.bipush (-3), 2) := by decide +kernel
theorem dX9_pays_41 : decode cX9_pays 41 = .ok (.ireturn, 1) := by decide +kernel
theorem dX9_pays_42 : decode cX9_pays 42 = .ok (.aload_n 0, 1) := by decide +kernel
theorem dX9_pays_43 : decode cX9_pays 43 = .ok (.getfield 28, 3) := by decide +kernel
theorem dX9_pays_46 : decode cX9_pays 46 = .ok (.bipush 6, 2) := by decide +kernel
theorem dX9_pays_48 : decode cX9_pays 48 = .ok (.iload_n 1, 1) := by decide +kernel
theorem dX9_pays_49 : decode cX9_pays 49 = .ok (.imul, 1) := by decide +kernel
theorem dX9_pays_50 : decode cX9_pays 50 = .ok (.iload_n 2, 1) := by decide +kernel
theorem dX9_pays_51 : decode cX9_pays 51 = .ok (.iadd, 1) := by decide +kernel
theorem dX9_pays_52 : decode cX9_pays 52 = .ok (.dup2, 1) := by decide +kernel
theorem dX9_pays_53 : decode cX9_pays 53 = .ok (.iaload, 1) := by decide +kernel
theorem dX9_pays_54 : decode cX9_pays 54 = .ok (.iload_n 3, 1) := by decide +kernel
theorem dX9_pays_55 : decode cX9_pays 55 = .ok (.isub, 1) := by decide +kernel
theorem dX9_pays_56 : decode cX9_pays 56 = .ok (.iastore, 1) := by decide +kernel
theorem dX9_pays_57 : decode cX9_pays 57 = .ok (.aload_n 0, 1) := by decide +kernel
theorem dX9_pays_58 : decode cX9_pays 58 = .ok (.getfield 28, 3) := by decide +kernel
theorem dX9_pays_61 : decode cX9_pays 61 = .ok (.bipush 6, 2) := by decide +kernel
theorem dX9_pays_63 : decode cX9_pays 63 = .ok (.iload_n 1, 1) := by decide +kernel
theorem dX9_pays_64 : decode cX9_pays 64 = .ok (.imul, 1) := by decide +kernel
theorem dX9_pays_65 : decode cX9_pays 65 = .ok (.iload_n 2, 1) := by decide +kernel
theorem dX9_pays_66 : decode cX9_pays 66 = .ok (.iadd, 1) := by decide +kernel
theorem dX9_pays_67 : decode cX9_pays 67 = .ok (.iaload, 1) := by decide +kernel
theorem dX9_pays_68 : decode cX9_pays 68 = .ok (.ireturn, 1) := by decide +kernel
theorem dX9_goCalls_0 : decode cX9_goCalls 0 = .ok (.aload_n 0, 1) := by decide +kernel
theorem dX9_goCalls_1 : decode cX9_goCalls 1 = .ok (.iconst 0, 1) := by decide +kernel
theorem dX9_goCalls_2 : decode cX9_goCalls 2 = .ok (.putfield 130, 3) := by decide +kernel
theorem dX9_goCalls_5 : decode cX9_goCalls 5 = .ok (.aload_n 0, 1) := by decide +kernel
theorem dX9_goCalls_6 : decode cX9_goCalls 6 = .ok (.bipush (-9), 2) := by decide +kernel
theorem dX9_goCalls_8 : decode cX9_goCalls 8 = .ok (.putfield 133, 3) := by decide +kernel
theorem dX9_goCalls_11 : decode cX9_goCalls 11 = .ok (.iconst 0, 1) := by decide +kernel
theorem dX9_goCalls_12 : decode cX9_goCalls 12 = .ok (.istore_n 3, 1) := by decide +kernel
theorem dX9_goCalls_13 : decode cX9_goCalls 13 = .ok (.iload_n 3, 1) := by decide +kernel
theorem dX9_goCalls_14 : decode cX9_goCalls 14 = .ok (.iload_n 2, 1) := by decide +kernel
theorem dX9_goCalls_15 : decode cX9_goCalls 15 = .ok (.if_icmp .ge 81, 3) := by decide +kernel
theorem dX9_goCalls_18 : decode cX9_goCalls 18 = .ok (.aload_n 0, 1) := by decide +kernel
theorem dX9_goCalls_19 : decode cX9_goCalls 19 = .ok (.getfield 16, 3) := by decide +kernel
theorem dX9_goCalls_22 : decode cX9_goCalls 22 = .ok (.iload_n 1, 1) := by decide +kernel
theorem dX9_goCalls_23 : decode cX9_goCalls 23 = .ok (.iconst 2, 1) := by decide +kernel
theorem dX9_goCalls_24 : decode cX9_goCalls 24 = .ok (.iload_n 3, 1) := by decide +kernel
theorem dX9_goCalls_25 : decode cX9_goCalls 25 = .ok (.imul, 1) := by decide +kernel
theorem dX9_goCalls_26 : decode cX9_goCalls 26 = .ok (.iadd, 1) := by decide +kernel
theorem dX9_goCalls_27 : decode cX9_goCalls 27 = .ok (.iaload, 1) := by decide +kernel
theorem dX9_goCalls_28 : decode cX9_goCalls 28 = .ok (.istore 4, 2) := by decide +kernel
theorem dX9_goCalls_30 : decode cX9_goCalls 30 = .ok (.aload_n 0, 1) := by decide +kernel
theorem dX9_goCalls_31 : decode cX9_goCalls 31 = .ok (.getfield 16, 3) := by decide +kernel
theorem dX9_goCalls_34 : decode cX9_goCalls 34 = .ok (.iload_n 1, 1) := by decide +kernel
theorem dX9_goCalls_35 : decode cX9_goCalls 35 = .ok (.iconst 2, 1) := by decide +kernel
theorem dX9_goCalls_36 : decode cX9_goCalls 36 = .ok (.iload_n 3, 1) := by decide +kernel
theorem dX9_goCalls_37 : decode cX9_goCalls 37 = .ok (.imul, 1) := by decide +kernel
theorem dX9_goCalls_38 : decode cX9_goCalls 38 = .ok (.iadd, 1) := by decide +kernel
theorem dX9_goCalls_39 : decode cX9_goCalls 39 = .ok (.iconst 1, 1) := by decide +kernel
theorem dX9_goCalls_40 : decode cX9_goCalls 40 = .ok (.iadd, 1) := by decide +kernel
theorem dX9_goCalls_41 : decode cX9_goCalls 41 = .ok (.iaload, 1) := by decide +kernel
theorem dX9_goCalls_42 : decode cX9_goCalls 42 = .ok (.istore 5, 2) := by decide +kernel
theorem dX9_goCalls_44 : decode cX9_goCalls 44 = .ok (.aload_n 0, 1) := by decide +kernel
theorem dX9_goCalls_45 : decode cX9_goCalls 45 = .ok (.getfield 98, 3) := by decide +kernel
theorem dX9_goCalls_48 : decode cX9_goCalls 48 = .ok (.iload 4, 2) := by decide +kernel
theorem dX9_goCalls_50 : decode cX9_goCalls 50 = .ok (.invokestatic 139, 3) := by decide +kernel
theorem dX9_goCalls_53 : decode cX9_goCalls 53 = .ok (.ifCond .eq 23, 3) := by decide +kernel
theorem dX9_goCalls_56 : decode cX9_goCalls 56 = .ok (.iload 5, 2) := by decide +kernel
theorem dX9_goCalls_58 : decode cX9_goCalls 58 = .ok (.aload_n 0, 1) := by decide +kernel
theorem dX9_goCalls_59 : decode cX9_goCalls 59 = .ok (.iload 4, 2) := by decide +kernel
theorem dX9_goCalls_61 : decode cX9_goCalls 61 = .ok (.invokevirtual 123, 3) := by decide +kernel
theorem dX9_goCalls_64 : decode cX9_goCalls 64 = .ok (.if_icmp .gt 12, 3) := by decide +kernel
theorem dX9_goCalls_67 : decode cX9_goCalls 67 = .ok (.iload 5, 2) := by decide +kernel
theorem dX9_goCalls_69 : decode cX9_goCalls 69 = .ok (.aload_n 0, 1) := by decide +kernel
theorem dX9_goCalls_70 : decode cX9_goCalls 70 = .ok (.getfield 130, 3) := by decide +kernel
theorem dX9_goCalls_73 : decode cX9_goCalls 73 = .ok (.if_icmp .gt 5, 3) := by decide +kernel
theorem dX9_goCalls_76 : decode cX9_goCalls 76 = .ok (.iload_n 3, 1) := by decide +kernel
theorem dX9_goCalls_77 : decode cX9_goCalls 77 = .ok (.ireturn, 1) := by decide +kernel
theorem dX9_goCalls_78 : decode cX9_goCalls 78 = .ok (.aload_n 0, 1) := by decide +kernel
theorem dX9_goCalls_79 : decode cX9_goCalls 79 = .ok (.iload 5, 2) := by decide +kernel
theorem dX9_goCalls_81 : decode cX9_goCalls 81 = .ok (.putfield 130, 3) := by decide +kernel
theorem dX9_goCalls_84 : decode cX9_goCalls 84 = .ok (.aload_n 0, 1) := by decide +kernel
theorem dX9_goCalls_85 : decode cX9_goCalls 85 = .ok (.iload 4, 2) := by decide +kernel
theorem dX9_goCalls_87 : decode cX9_goCalls 87 = .ok (.putfield 133, 3) := by decide +kernel
theorem dX9_goCalls_90 : decode cX9_goCalls 90 = .ok (.iinc 3 1, 3) := by decide +kernel
theorem dX9_goCalls_93 : decode cX9_goCalls 93 = .ok (.goto (-80), 3) := by decide +kernel
theorem dX9_goCalls_96 : decode cX9_goCalls 96 = .ok (.bipush (-9), 2) := by decide +kernel
theorem dX9_goCalls_98 : decode cX9_goCalls 98 = .ok (.ireturn, 1) := by decide +kernel
theorem dX9_calls_0 : decode cX9_calls 0 = .ok (.aload_n 0, 1) := by decide +kernel
theorem dX9_calls_1 : decode cX9_calls 1 = .ok (.iconst 0, 1) := by decide +kernel
theorem dX9_calls_2 : decode cX9_calls 2 = .ok (.putfield 52, 3) := by decide +kernel
theorem dX9_calls_5 : decode cX9_calls 5 = .ok (.iload_n 1, 1) := by decide +kernel
theorem dX9_calls_6 : decode cX9_calls 6 = .ok (.invokestatic 68, 3) := by decide +kernel
theorem dX9_calls_9 : decode cX9_calls 9 = .ok (.ifCond .ne 5, 3) := by decide +kernel
theorem dX9_calls_12 : decode cX9_calls 12 = .ok (.iconst (-1), 1) := by decide +kernel
theorem dX9_calls_13 : decode cX9_calls 13 = .ok (.ireturn, 1) := by decide +kernel
theorem dX9_calls_14 : decode cX9_calls 14 = .ok (.iload_n 2, 1) := by decide +kernel
theorem dX9_calls_15 : decode cX9_calls 15 = .ok (.invokestatic 72, 3) := by decide +kernel
theorem dX9_calls_18 : decode cX9_calls 18 = .ok (.ifCond .eq 24, 3) := by decide +kernel
theorem dX9_calls_21 : decode cX9_calls 21 = .ok (.iload 4, 2) := by decide +kernel
theorem dX9_calls_23 : decode cX9_calls 23 = .ok (.iconst 0, 1) := by decide +kernel
theorem dX9_calls_24 : decode cX9_calls 24 = .ok (.bipush 20, 2) := by decide +kernel
theorem dX9_calls_26 : decode cX9_calls 26 = .ok (.invokestatic 58, 3) := by decide +kernel
theorem dX9_calls_29 : decode cX9_calls 29 = .ok (.ifCond .eq 13, 3) := by decide +kernel
theorem dX9_calls_32 : decode cX9_calls 32 = .ok (.iload 5, 2) := by decide +kernel
theorem dX9_calls_34 : decode cX9_calls 34 = .ok (.iconst 0, 1) := by decide +kernel
theorem dX9_calls_35 : decode cX9_calls 35 = .ok (.iconst 3, 1) := by decide +kernel
theorem dX9_calls_36 : decode cX9_calls 36 = .ok (.invokestatic 58, 3) := by decide +kernel
theorem dX9_calls_39 : decode cX9_calls 39 = .ok (.ifCond .ne 6, 3) := by decide +kernel
theorem dX9_calls_42 : decode cX9_calls 42 = .ok (.bipush (-2), 2) := by decide +kernel
theorem dX9_calls_44 : decode cX9_calls 44 = .ok (.ireturn, 1) := by decide +kernel
theorem dX9_calls_45 : decode cX9_calls 45 = .ok (.aload_n 0, 1) := by decide +kernel
theorem dX9_calls_46 : decode cX9_calls 46 = .ok (.iload_n 1, 1) := by decide +kernel
theorem dX9_calls_47 : decode cX9_calls 47 = .ok (.iload_n 2, 1) := by decide +kernel
theorem dX9_calls_48 : decode cX9_calls 48 = .ok (.iload_n 3, 1) := by decide +kernel
theorem dX9_calls_49 : decode cX9_calls 49 = .ok (.iconst 2, 1) := by decide +kernel
theorem dX9_calls_50 : decode cX9_calls 50 = .ok (.iload 4, 2) := by decide +kernel
theorem dX9_calls_52 : decode cX9_calls 52 = .ok (.imul, 1) := by decide +kernel
theorem dX9_calls_53 : decode cX9_calls 53 = .ok (.invokevirtual 75, 3) := by decide +kernel
theorem dX9_calls_56 : decode cX9_calls 56 = .ok (.istore 6, 2) := by decide +kernel
theorem dX9_calls_58 : decode cX9_calls 58 = .ok (.iload 6, 2) := by decide +kernel
theorem dX9_calls_60 : decode cX9_calls 60 = .ok (.ifCond .eq 10, 3) := by decide +kernel
theorem dX9_calls_63 : decode cX9_calls 63 = .ok (.aload_n 0, 1) := by decide +kernel
theorem dX9_calls_64 : decode cX9_calls 64 = .ok (.iload 6, 2) := by decide +kernel
theorem dX9_calls_66 : decode cX9_calls 66 = .ok (.invokevirtual 79, 3) := by decide +kernel
theorem dX9_calls_69 : decode cX9_calls 69 = .ok (.ireturn, 1) := by decide +kernel
theorem dX9_calls_70 : decode cX9_calls 70 = .ok (.aload_n 0, 1) := by decide +kernel
theorem dX9_calls_71 : decode cX9_calls 71 = .ok (.getfield 62, 3) := by decide +kernel
theorem dX9_calls_74 : decode cX9_calls 74 = .ok (.ifCond .ne 6, 3) := by decide +kernel
theorem dX9_calls_77 : decode cX9_calls 77 = .ok (.bipush (-3), 2) := by decide +kernel
theorem dX9_calls_79 : decode cX9_calls 79 = .ok (.ireturn, 1) := by decide +kernel
theorem dX9_calls_80 : decode cX9_calls 80 = .ok (.bipush 60, 2) := by decide +kernel
theorem dX9_calls_82 : decode cX9_calls 82 = .ok (.iload_n 1, 1) := by decide +kernel
theorem dX9_calls_83 : decode cX9_calls 83 = .ok (.imul, 1) := by decide +kernel
theorem dX9_calls_84 : decode cX9_calls 84 = .ok (.iload_n 3, 1) := by decide +kernel
theorem dX9_calls_85 : decode cX9_calls 85 = .ok (.iadd, 1) := by decide +kernel
theorem dX9_calls_86 : decode cX9_calls 86 = .ok (.istore 7, 2) := by decide +kernel
theorem dX9_calls_88 : decode cX9_calls 88 = .ok (.iconst 0, 1) := by decide +kernel
theorem dX9_calls_89 : decode cX9_calls 89 = .ok (.istore 8, 2) := by decide +kernel
theorem dX9_calls_91 : decode cX9_calls 91 = .ok (.iload 8, 2) := by decide +kernel
theorem dX9_calls_93 : decode cX9_calls 93 = .ok (.iload 4, 2) := by decide +kernel
theorem dX9_calls_95 : decode cX9_calls 95 = .ok (.if_icmp .ge 30, 3) := by decide +kernel
theorem dX9_calls_98 : decode cX9_calls 98 = .ok (.aload_n 0, 1) := by decide +kernel
theorem dX9_calls_99 : decode cX9_calls 99 = .ok (.aload_n 0, 1) := by decide +kernel
theorem dX9_calls_100 : decode cX9_calls 100 = .ok (.getfield 16, 3) := by decide +kernel
theorem dX9_calls_103 : decode cX9_calls 103 = .ok (.iload 7, 2) := by decide +kernel
theorem dX9_calls_105 : decode cX9_calls 105 = .ok (.iconst 2, 1) := by decide +kernel
theorem dX9_calls_106 : decode cX9_calls 106 = .ok (.iload 8, 2) := by decide +kernel
theorem dX9_calls_108 : decode cX9_calls 108 = .ok (.imul, 1) := by decide +kernel
theorem dX9_calls_109 : decode cX9_calls 109 = .ok (.iadd, 1) := by decide +kernel
theorem dX9_calls_110 : decode cX9_calls 110 = .ok (.iaload, 1) := by decide +kernel
theorem dX9_calls_111 : decode cX9_calls 111 = .ok (.invokevirtual 120, 3) := by decide +kernel
theorem dX9_calls_114 : decode cX9_calls 114 = .ok (.ifCond .ne 5, 3) := by decide +kernel
theorem dX9_calls_117 : decode cX9_calls 117 = .ok (.iconst (-1), 1) := by decide +kernel
theorem dX9_calls_118 : decode cX9_calls 118 = .ok (.ireturn, 1) := by decide +kernel
theorem dX9_calls_119 : decode cX9_calls 119 = .ok (.iinc 8 1, 3) := by decide +kernel
theorem dX9_calls_122 : decode cX9_calls 122 = .ok (.goto (-31), 3) := by decide +kernel
theorem dX9_calls_125 : decode cX9_calls 125 = .ok (.aload_n 0, 1) := by decide +kernel
theorem dX9_calls_126 : decode cX9_calls 126 = .ok (.iload 7, 2) := by decide +kernel
theorem dX9_calls_128 : decode cX9_calls 128 = .ok (.iload 4, 2) := by decide +kernel
theorem dX9_calls_130 : decode cX9_calls 130 = .ok (.invokevirtual 154, 3) := by decide +kernel
theorem dX9_calls_133 : decode cX9_calls 133 = .ok (.istore 8, 2) := by decide +kernel
theorem dX9_calls_135 : decode cX9_calls 135 = .ok (.iload 5, 2) := by decide +kernel
theorem dX9_calls_137 : decode cX9_calls 137 = .ok (.iconst 1, 1) := by decide +kernel
theorem dX9_calls_138 : decode cX9_calls 138 = .ok (.if_icmp .eq 10, 3) := by decide +kernel
theorem dX9_calls_141 : decode cX9_calls 141 = .ok (.iload 8, 2) := by decide +kernel
theorem dX9_calls_143 : decode cX9_calls 143 = .ok (.bipush (-9), 2) := by decide +kernel
theorem dX9_calls_145 : decode cX9_calls 145 = .ok (.if_icmp .eq 20, 3) := by decide +kernel
theorem dX9_calls_148 : decode cX9_calls 148 = .ok (.iload 5, 2) := by decide +kernel
theorem dX9_calls_150 : decode cX9_calls 150 = .ok (.iconst 1, 1) := by decide +kernel
theorem dX9_calls_151 : decode cX9_calls 151 = .ok (.if_icmp .ne 8, 3) := by decide +kernel
theorem dX9_calls_154 : decode cX9_calls 154 = .ok (.iload 8, 2) := by decide +kernel
theorem dX9_calls_156 : decode cX9_calls 156 = .ok (.goto 8, 3) := by decide +kernel
theorem dX9_calls_159 : decode cX9_calls 159 = .ok (.bipush (-100), 2) := by decide +kernel
theorem dX9_calls_161 : decode cX9_calls 161 = .ok (.iload 8, 2) := by decide +kernel
theorem dX9_calls_163 : decode cX9_calls 163 = .ok (.isub, 1) := by decide +kernel
theorem dX9_calls_164 : decode cX9_calls 164 = .ok (.ireturn, 1) := by decide +kernel
theorem dX9_calls_165 : decode cX9_calls 165 = .ok (.iload 5, 2) := by decide +kernel
theorem dX9_calls_167 : decode cX9_calls 167 = .ok (.ifCond .ne 10, 3) := by decide +kernel
theorem dX9_calls_170 : decode cX9_calls 170 = .ok (.aload_n 0, 1) := by decide +kernel
theorem dX9_calls_171 : decode cX9_calls 171 = .ok (.getfield 130, 3) := by decide +kernel
theorem dX9_calls_174 : decode cX9_calls 174 = .ok (.goto 20, 3) := by decide +kernel
theorem dX9_calls_177 : decode cX9_calls 177 = .ok (.iload 5, 2) := by decide +kernel
theorem dX9_calls_179 : decode cX9_calls 179 = .ok (.iconst 2, 1) := by decide +kernel
theorem dX9_calls_180 : decode cX9_calls 180 = .ok (.if_icmp .ne 10, 3) := by decide +kernel
theorem dX9_calls_183 : decode cX9_calls 183 = .ok (.aload_n 0, 1) := by decide +kernel
theorem dX9_calls_184 : decode cX9_calls 184 = .ok (.getfield 133, 3) := by decide +kernel
theorem dX9_calls_187 : decode cX9_calls 187 = .ok (.goto 7, 3) := by decide +kernel
theorem dX9_calls_190 : decode cX9_calls 190 = .ok (.aload_n 0, 1) := by decide +kernel
theorem dX9_calls_191 : decode cX9_calls 191 = .ok (.invokevirtual 158, 3) := by decide +kernel
theorem dX9_calls_194 : decode cX9_calls 194 = .ok (.ireturn, 1) := by decide +kernel
theorem dX9_wouldGoOn_0 : decode cX9_wouldGoOn 0 = .ok (.iconst 0, 1) := by decide +kernel
theorem dX9_wouldGoOn_1 : decode cX9_wouldGoOn 1 = .ok (.istore_n 1, 1) := by decide +kernel
theorem dX9_wouldGoOn_2 : decode cX9_wouldGoOn 2 = .ok (.iconst 0, 1) := by decide +kernel
theorem dX9_wouldGoOn_3 : decode cX9_wouldGoOn 3 = .ok (.istore_n 2, 1) := by decide +kernel
theorem dX9_wouldGoOn_4 : decode cX9_wouldGoOn 4 = .ok (.iload_n 2, 1) := by decide +kernel
theorem dX9_wouldGoOn_5 : decode cX9_wouldGoOn 5 = .ok (.aload_n 0, 1) := by decide +kernel
theorem dX9_wouldGoOn_6 : decode cX9_wouldGoOn 6 = .ok (.getfield 62, 3) := by decide +kernel
theorem dX9_wouldGoOn_9 : decode cX9_wouldGoOn 9 = .ok (.if_icmp .ge 48, 3) := by decide +kernel
theorem dX9_wouldGoOn_12 : decode cX9_wouldGoOn 12 = .ok (.iload_n 1, 1) := by decide +kernel
theorem dX9_wouldGoOn_13 : decode cX9_wouldGoOn 13 = .ok (.aload_n 0, 1) := by decide +kernel
theorem dX9_wouldGoOn_14 : decode cX9_wouldGoOn 14 = .ok (.getfield 98, 3) := by decide +kernel
theorem dX9_wouldGoOn_17 : decode cX9_wouldGoOn 17 = .ok (.iload_n 2, 1) := by decide +kernel
theorem dX9_wouldGoOn_18 : decode cX9_wouldGoOn 18 = .ok (.invokestatic 139, 3) := by decide +kernel
theorem dX9_wouldGoOn_21 : decode cX9_wouldGoOn 21 = .ok (.ifCond .eq 27, 3) := by decide +kernel
theorem dX9_wouldGoOn_24 : decode cX9_wouldGoOn 24 = .ok (.iload_n 2, 1) := by decide +kernel
theorem dX9_wouldGoOn_25 : decode cX9_wouldGoOn 25 = .ok (.aload_n 0, 1) := by decide +kernel
theorem dX9_wouldGoOn_26 : decode cX9_wouldGoOn 26 = .ok (.getfield 133, 3) := by decide +kernel
theorem dX9_wouldGoOn_29 : decode cX9_wouldGoOn 29 = .ok (.if_icmp .eq 19, 3) := by decide +kernel
theorem dX9_wouldGoOn_32 : decode cX9_wouldGoOn 32 = .ok (.aload_n 0, 1) := by decide +kernel
theorem dX9_wouldGoOn_33 : decode cX9_wouldGoOn 33 = .ok (.iload_n 2, 1) := by decide +kernel
theorem dX9_wouldGoOn_34 : decode cX9_wouldGoOn 34 = .ok (.invokevirtual 123, 3) := by decide +kernel
theorem dX9_wouldGoOn_37 : decode cX9_wouldGoOn 37 = .ok (.aload_n 0, 1) := by decide +kernel
theorem dX9_wouldGoOn_38 : decode cX9_wouldGoOn 38 = .ok (.getfield 130, 3) := by decide +kernel
theorem dX9_wouldGoOn_41 : decode cX9_wouldGoOn 41 = .ok (.if_icmp .le 7, 3) := by decide +kernel
theorem dX9_wouldGoOn_44 : decode cX9_wouldGoOn 44 = .ok (.iconst 1, 1) := by decide +kernel
theorem dX9_wouldGoOn_45 : decode cX9_wouldGoOn 45 = .ok (.goto 4, 3) := by decide +kernel
theorem dX9_wouldGoOn_48 : decode cX9_wouldGoOn 48 = .ok (.iconst 0, 1) := by decide +kernel
theorem dX9_wouldGoOn_49 : decode cX9_wouldGoOn 49 = .ok (.iadd, 1) := by decide +kernel
theorem dX9_wouldGoOn_50 : decode cX9_wouldGoOn 50 = .ok (.istore_n 1, 1) := by decide +kernel
theorem dX9_wouldGoOn_51 : decode cX9_wouldGoOn 51 = .ok (.iinc 2 1, 3) := by decide +kernel
theorem dX9_wouldGoOn_54 : decode cX9_wouldGoOn 54 = .ok (.goto (-50), 3) := by decide +kernel
theorem dX9_wouldGoOn_57 : decode cX9_wouldGoOn 57 = .ok (.iload_n 1, 1) := by decide +kernel
theorem dX9_wouldGoOn_58 : decode cX9_wouldGoOn 58 = .ok (.ireturn, 1) := by decide +kernel
theorem dX9_findOrder_0 : decode cX9_findOrder 0 = .ok (.aload_n 0, 1) := by decide +kernel
theorem dX9_findOrder_1 : decode cX9_findOrder 1 = .ok (.iconst 0, 1) := by decide +kernel
theorem dX9_findOrder_2 : decode cX9_findOrder 2 = .ok (.putfield 162, 3) := by decide +kernel
theorem dX9_findOrder_5 : decode cX9_findOrder 5 = .ok (.aload_n 0, 1) := by decide +kernel
theorem dX9_findOrder_6 : decode cX9_findOrder 6 = .ok (.getfield 98, 3) := by decide +kernel
theorem dX9_findOrder_9 : decode cX9_findOrder 9 = .ok (.istore_n 1, 1) := by decide +kernel
theorem dX9_findOrder_10 : decode cX9_findOrder 10 = .ok (.iload_n 1, 1) := by decide +kernel
theorem dX9_findOrder_11 : decode cX9_findOrder 11 = .ok (.ifCond .eq 61, 3) := by decide +kernel
theorem dX9_findOrder_14 : decode cX9_findOrder 14 = .ok (.aload_n 0, 1) := by decide +kernel
theorem dX9_findOrder_15 : decode cX9_findOrder 15 = .ok (.getfield 34, 3) := by decide +kernel
theorem dX9_findOrder_18 : decode cX9_findOrder 18 = .ok (.aload_n 0, 1) := by decide +kernel
theorem dX9_findOrder_19 : decode cX9_findOrder 19 = .ok (.getfield 162, 3) := by decide +kernel
theorem dX9_findOrder_22 : decode cX9_findOrder 22 = .ok (.aload_n 0, 1) := by decide +kernel
theorem dX9_findOrder_23 : decode cX9_findOrder 23 = .ok (.iload_n 1, 1) := by decide +kernel
theorem dX9_findOrder_24 : decode cX9_findOrder 24 = .ok (.invokevirtual 145, 3) := by decide +kernel
theorem dX9_findOrder_27 : decode cX9_findOrder 27 = .ok (.iastore, 1) := by decide +kernel
theorem dX9_findOrder_28 : decode cX9_findOrder 28 = .ok (.aload_n 0, 1) := by decide +kernel
theorem dX9_findOrder_29 : decode cX9_findOrder 29 = .ok (.getfield 37, 3) := by decide +kernel
theorem dX9_findOrder_32 : decode cX9_findOrder 32 = .ok (.aload_n 0, 1) := by decide +kernel
theorem dX9_findOrder_33 : decode cX9_findOrder 33 = .ok (.getfield 162, 3) := by decide +kernel
theorem dX9_findOrder_36 : decode cX9_findOrder 36 = .ok (.aload_n 0, 1) := by decide +kernel
theorem dX9_findOrder_37 : decode cX9_findOrder 37 = .ok (.getfield 130, 3) := by decide +kernel
theorem dX9_findOrder_40 : decode cX9_findOrder 40 = .ok (.iastore, 1) := by decide +kernel
theorem dX9_findOrder_41 : decode cX9_findOrder 41 = .ok (.aload_n 0, 1) := by decide +kernel
theorem dX9_findOrder_42 : decode cX9_findOrder 42 = .ok (.dup, 1) := by decide +kernel
theorem dX9_findOrder_43 : decode cX9_findOrder 43 = .ok (.getfield 162, 3) := by decide +kernel
theorem dX9_findOrder_46 : decode cX9_findOrder 46 = .ok (.iconst 1, 1) := by decide +kernel
theorem dX9_findOrder_47 : decode cX9_findOrder 47 = .ok (.iadd, 1) := by decide +kernel
theorem dX9_findOrder_48 : decode cX9_findOrder 48 = .ok (.putfield 162, 3) := by decide +kernel
theorem dX9_findOrder_51 : decode cX9_findOrder 51 = .ok (.iload_n 1, 1) := by decide +kernel
theorem dX9_findOrder_52 : decode cX9_findOrder 52 = .ok (.iconst 1, 1) := by decide +kernel
theorem dX9_findOrder_53 : decode cX9_findOrder 53 = .ok (.aload_n 0, 1) := by decide +kernel
theorem dX9_findOrder_54 : decode cX9_findOrder 54 = .ok (.getfield 34, 3) := by decide +kernel
theorem dX9_findOrder_57 : decode cX9_findOrder 57 = .ok (.aload_n 0, 1) := by decide +kernel
theorem dX9_findOrder_58 : decode cX9_findOrder 58 = .ok (.getfield 162, 3) := by decide +kernel
theorem dX9_findOrder_61 : decode cX9_findOrder 61 = .ok (.iconst 1, 1) := by decide +kernel
theorem dX9_findOrder_62 : decode cX9_findOrder 62 = .ok (.isub, 1) := by decide +kernel
theorem dX9_findOrder_63 : decode cX9_findOrder 63 = .ok (.iaload, 1) := by decide +kernel
theorem dX9_findOrder_64 : decode cX9_findOrder 64 = .ok (.ishl, 1) := by decide +kernel
theorem dX9_findOrder_65 : decode cX9_findOrder 65 = .ok (.iconst (-1), 1) := by decide +kernel
theorem dX9_findOrder_66 : decode cX9_findOrder 66 = .ok (.ixor, 1) := by decide +kernel
theorem dX9_findOrder_67 : decode cX9_findOrder 67 = .ok (.iand, 1) := by decide +kernel
theorem dX9_findOrder_68 : decode cX9_findOrder 68 = .ok (.istore_n 1, 1) := by decide +kernel
theorem dX9_findOrder_69 : decode cX9_findOrder 69 = .ok (.goto (-59), 3) := by decide +kernel
theorem dX9_findOrder_72 : decode cX9_findOrder 72 = .ok (.return_, 1) := by decide +kernel
theorem dX9_order_0 : decode cX9_order 0 = .ok (.iload_n 1, 1) := by decide +kernel
theorem dX9_order_1 : decode cX9_order 1 = .ok (.iconst 0, 1) := by decide +kernel
theorem dX9_order_2 : decode cX9_order 2 = .ok (.iconst 5, 1) := by decide +kernel
theorem dX9_order_3 : decode cX9_order 3 = .ok (.invokestatic 58, 3) := by decide +kernel
theorem dX9_order_6 : decode cX9_order 6 = .ok (.ifCond .eq 12, 3) := by decide +kernel
theorem dX9_order_9 : decode cX9_order 9 = .ok (.iload_n 2, 1) := by decide +kernel
theorem dX9_order_10 : decode cX9_order 10 = .ok (.iconst 0, 1) := by decide +kernel
theorem dX9_order_11 : decode cX9_order 11 = .ok (.iconst 1, 1) := by decide +kernel
theorem dX9_order_12 : decode cX9_order 12 = .ok (.invokestatic 58, 3) := by decide +kernel
theorem dX9_order_15 : decode cX9_order 15 = .ok (.ifCond .ne 6, 3) := by decide +kernel
theorem dX9_order_18 : decode cX9_order 18 = .ok (.bipush (-2), 2) := by decide +kernel
theorem dX9_order_20 : decode cX9_order 20 = .ok (.ireturn, 1) := by decide +kernel
theorem dX9_order_21 : decode cX9_order 21 = .ok (.aload_n 0, 1) := by decide +kernel
theorem dX9_order_22 : decode cX9_order 22 = .ok (.getfield 62, 3) := by decide +kernel
theorem dX9_order_25 : decode cX9_order 25 = .ok (.ifCond .ne 6, 3) := by decide +kernel
theorem dX9_order_28 : decode cX9_order 28 = .ok (.bipush (-3), 2) := by decide +kernel
theorem dX9_order_30 : decode cX9_order 30 = .ok (.ireturn, 1) := by decide +kernel
theorem dX9_order_31 : decode cX9_order 31 = .ok (.aload_n 0, 1) := by decide +kernel
theorem dX9_order_32 : decode cX9_order 32 = .ok (.invokevirtual 165, 3) := by decide +kernel
theorem dX9_order_35 : decode cX9_order 35 = .ok (.iload_n 1, 1) := by decide +kernel
theorem dX9_order_36 : decode cX9_order 36 = .ok (.aload_n 0, 1) := by decide +kernel
theorem dX9_order_37 : decode cX9_order 37 = .ok (.getfield 162, 3) := by decide +kernel
theorem dX9_order_40 : decode cX9_order 40 = .ok (.if_icmp .lt 6, 3) := by decide +kernel
theorem dX9_order_43 : decode cX9_order 43 = .ok (.bipush (-9), 2) := by decide +kernel
theorem dX9_order_45 : decode cX9_order 45 = .ok (.ireturn, 1) := by decide +kernel
theorem dX9_order_46 : decode cX9_order 46 = .ok (.iload_n 2, 1) := by decide +kernel
theorem dX9_order_47 : decode cX9_order 47 = .ok (.ifCond .ne 12, 3) := by decide +kernel
theorem dX9_order_50 : decode cX9_order 50 = .ok (.aload_n 0, 1) := by decide +kernel
theorem dX9_order_51 : decode cX9_order 51 = .ok (.getfield 34, 3) := by decide +kernel
theorem dX9_order_54 : decode cX9_order 54 = .ok (.iload_n 1, 1) := by decide +kernel
theorem dX9_order_55 : decode cX9_order 55 = .ok (.iaload, 1) := by decide +kernel
theorem dX9_order_56 : decode cX9_order 56 = .ok (.goto 9, 3) := by decide +kernel
theorem dX9_order_59 : decode cX9_order 59 = .ok (.aload_n 0, 1) := by decide +kernel
theorem dX9_order_60 : decode cX9_order 60 = .ok (.getfield 37, 3) := by decide +kernel
theorem dX9_order_63 : decode cX9_order 63 = .ok (.iload_n 1, 1) := by decide +kernel
theorem dX9_order_64 : decode cX9_order 64 = .ok (.iaload, 1) := by decide +kernel
theorem dX9_order_65 : decode cX9_order 65 = .ok (.ireturn, 1) := by decide +kernel
theorem dX9_leastLoss_0 : decode cX9_leastLoss 0 = .ok (.iconst 0, 1) := by decide +kernel
theorem dX9_leastLoss_1 : decode cX9_leastLoss 1 = .ok (.istore_n 1, 1) := by decide +kernel
theorem dX9_leastLoss_2 : decode cX9_leastLoss 2 = .ok (.iconst 0, 1) := by decide +kernel
theorem dX9_leastLoss_3 : decode cX9_leastLoss 3 = .ok (.istore_n 2, 1) := by decide +kernel
theorem dX9_leastLoss_4 : decode cX9_leastLoss 4 = .ok (.iload_n 2, 1) := by decide +kernel
theorem dX9_leastLoss_5 : decode cX9_leastLoss 5 = .ok (.aload_n 0, 1) := by decide +kernel
theorem dX9_leastLoss_6 : decode cX9_leastLoss 6 = .ok (.getfield 62, 3) := by decide +kernel
theorem dX9_leastLoss_9 : decode cX9_leastLoss 9 = .ok (.if_icmp .ge 113, 3) := by decide +kernel
theorem dX9_leastLoss_12 : decode cX9_leastLoss 12 = .ok (.iconst 0, 1) := by decide +kernel
theorem dX9_leastLoss_13 : decode cX9_leastLoss 13 = .ok (.istore_n 3, 1) := by decide +kernel
theorem dX9_leastLoss_14 : decode cX9_leastLoss 14 = .ok (.iconst 0, 1) := by decide +kernel
theorem dX9_leastLoss_15 : decode cX9_leastLoss 15 = .ok (.istore 4, 2) := by decide +kernel
theorem dX9_leastLoss_17 : decode cX9_leastLoss 17 = .ok (.iload 4, 2) := by decide +kernel
theorem dX9_leastLoss_19 : decode cX9_leastLoss 19 = .ok (.aload_n 0, 1) := by decide +kernel
theorem dX9_leastLoss_20 : decode cX9_leastLoss 20 = .ok (.getfield 62, 3) := by decide +kernel
theorem dX9_leastLoss_23 : decode cX9_leastLoss 23 = .ok (.if_icmp .ge 67, 3) := by decide +kernel
theorem dX9_leastLoss_26 : decode cX9_leastLoss 26 = .ok (.iload_n 3, 1) := by decide +kernel
theorem dX9_leastLoss_27 : decode cX9_leastLoss 27 = .ok (.aload_n 0, 1) := by decide +kernel
theorem dX9_leastLoss_28 : decode cX9_leastLoss 28 = .ok (.getfield 98, 3) := by decide +kernel
theorem dX9_leastLoss_31 : decode cX9_leastLoss 31 = .ok (.iload 4, 2) := by decide +kernel
theorem dX9_leastLoss_33 : decode cX9_leastLoss 33 = .ok (.invokestatic 139, 3) := by decide +kernel
theorem dX9_leastLoss_36 : decode cX9_leastLoss 36 = .ok (.ifCond .eq 45, 3) := by decide +kernel
theorem dX9_leastLoss_39 : decode cX9_leastLoss 39 = .ok (.aload_n 0, 1) := by decide +kernel
theorem dX9_leastLoss_40 : decode cX9_leastLoss 40 = .ok (.getfield 22, 3) := by decide +kernel
theorem dX9_leastLoss_43 : decode cX9_leastLoss 43 = .ok (.iload 4, 2) := by decide +kernel
theorem dX9_leastLoss_45 : decode cX9_leastLoss 45 = .ok (.iaload, 1) := by decide +kernel
theorem dX9_leastLoss_46 : decode cX9_leastLoss 46 = .ok (.aload_n 0, 1) := by decide +kernel
theorem dX9_leastLoss_47 : decode cX9_leastLoss 47 = .ok (.getfield 22, 3) := by decide +kernel
theorem dX9_leastLoss_50 : decode cX9_leastLoss 50 = .ok (.iload_n 2, 1) := by decide +kernel
theorem dX9_leastLoss_51 : decode cX9_leastLoss 51 = .ok (.iaload, 1) := by decide +kernel
theorem dX9_leastLoss_52 : decode cX9_leastLoss 52 = .ok (.if_icmp .gt 25, 3) := by decide +kernel
theorem dX9_leastLoss_55 : decode cX9_leastLoss 55 = .ok (.aload_n 0, 1) := by decide +kernel
theorem dX9_leastLoss_56 : decode cX9_leastLoss 56 = .ok (.getfield 22, 3) := by decide +kernel
theorem dX9_leastLoss_59 : decode cX9_leastLoss 59 = .ok (.iload 4, 2) := by decide +kernel
theorem dX9_leastLoss_61 : decode cX9_leastLoss 61 = .ok (.iaload, 1) := by decide +kernel
theorem dX9_leastLoss_62 : decode cX9_leastLoss 62 = .ok (.aload_n 0, 1) := by decide +kernel
theorem dX9_leastLoss_63 : decode cX9_leastLoss 63 = .ok (.getfield 22, 3) := by decide +kernel
theorem dX9_leastLoss_66 : decode cX9_leastLoss 66 = .ok (.iload_n 2, 1) := by decide +kernel
theorem dX9_leastLoss_67 : decode cX9_leastLoss 67 = .ok (.iaload, 1) := by decide +kernel
theorem dX9_leastLoss_68 : decode cX9_leastLoss 68 = .ok (.if_icmp .ne 13, 3) := by decide +kernel
theorem dX9_leastLoss_71 : decode cX9_leastLoss 71 = .ok (.iload 4, 2) := by decide +kernel
theorem dX9_leastLoss_73 : decode cX9_leastLoss 73 = .ok (.iload_n 2, 1) := by decide +kernel
theorem dX9_leastLoss_74 : decode cX9_leastLoss 74 = .ok (.if_icmp .ge 7, 3) := by decide +kernel
theorem dX9_leastLoss_77 : decode cX9_leastLoss 77 = .ok (.iconst 1, 1) := by decide +kernel
theorem dX9_leastLoss_78 : decode cX9_leastLoss 78 = .ok (.goto 4, 3) := by decide +kernel
theorem dX9_leastLoss_81 : decode cX9_leastLoss 81 = .ok (.iconst 0, 1) := by decide +kernel
theorem dX9_leastLoss_82 : decode cX9_leastLoss 82 = .ok (.iadd, 1) := by decide +kernel
theorem dX9_leastLoss_83 : decode cX9_leastLoss 83 = .ok (.istore_n 3, 1) := by decide +kernel
theorem dX9_leastLoss_84 : decode cX9_leastLoss 84 = .ok (.iinc 4 1, 3) := by decide +kernel
theorem dX9_leastLoss_87 : decode cX9_leastLoss 87 = .ok (.goto (-70), 3) := by decide +kernel
theorem dX9_leastLoss_90 : decode cX9_leastLoss 90 = .ok (.iload_n 1, 1) := by decide +kernel
theorem dX9_leastLoss_91 : decode cX9_leastLoss 91 = .ok (.aload_n 0, 1) := by decide +kernel
theorem dX9_leastLoss_92 : decode cX9_leastLoss 92 = .ok (.getfield 98, 3) := by decide +kernel
theorem dX9_leastLoss_95 : decode cX9_leastLoss 95 = .ok (.iload_n 2, 1) := by decide +kernel
theorem dX9_leastLoss_96 : decode cX9_leastLoss 96 = .ok (.invokestatic 139, 3) := by decide +kernel
theorem dX9_leastLoss_99 : decode cX9_leastLoss 99 = .ok (.ifCond .eq 14, 3) := by decide +kernel
theorem dX9_leastLoss_102 : decode cX9_leastLoss 102 = .ok (.aload_n 0, 1) := by decide +kernel
theorem dX9_leastLoss_103 : decode cX9_leastLoss 103 = .ok (.getfield 22, 3) := by decide +kernel
theorem dX9_leastLoss_106 : decode cX9_leastLoss 106 = .ok (.iload_n 2, 1) := by decide +kernel
theorem dX9_leastLoss_107 : decode cX9_leastLoss 107 = .ok (.iaload, 1) := by decide +kernel
theorem dX9_leastLoss_108 : decode cX9_leastLoss 108 = .ok (.iload_n 3, 1) := by decide +kernel
theorem dX9_leastLoss_109 : decode cX9_leastLoss 109 = .ok (.imul, 1) := by decide +kernel
theorem dX9_leastLoss_110 : decode cX9_leastLoss 110 = .ok (.goto 4, 3) := by decide +kernel
theorem dX9_leastLoss_113 : decode cX9_leastLoss 113 = .ok (.iconst 0, 1) := by decide +kernel
theorem dX9_leastLoss_114 : decode cX9_leastLoss 114 = .ok (.iadd, 1) := by decide +kernel
theorem dX9_leastLoss_115 : decode cX9_leastLoss 115 = .ok (.istore_n 1, 1) := by decide +kernel
theorem dX9_leastLoss_116 : decode cX9_leastLoss 116 = .ok (.iinc 2 1, 3) := by decide +kernel
theorem dX9_leastLoss_119 : decode cX9_leastLoss 119 = .ok (.goto (-115), 3) := by decide +kernel
theorem dX9_leastLoss_122 : decode cX9_leastLoss 122 = .ok (.iload_n 1, 1) := by decide +kernel
theorem dX9_leastLoss_123 : decode cX9_leastLoss 123 = .ok (.ireturn, 1) := by decide +kernel
theorem dX9_loss_0 : decode cX9_loss 0 = .ok (.iload_n 1, 1) := by decide +kernel
theorem dX9_loss_1 : decode cX9_loss 1 = .ok (.iconst 0, 1) := by decide +kernel
theorem dX9_loss_2 : decode cX9_loss 2 = .ok (.iconst 1, 1) := by decide +kernel
theorem dX9_loss_3 : decode cX9_loss 3 = .ok (.invokestatic 58, 3) := by decide +kernel
theorem dX9_loss_6 : decode cX9_loss 6 = .ok (.ifCond .ne 6, 3) := by decide +kernel
theorem dX9_loss_9 : decode cX9_loss 9 = .ok (.bipush (-2), 2) := by decide +kernel
theorem dX9_loss_11 : decode cX9_loss 11 = .ok (.ireturn, 1) := by decide +kernel
theorem dX9_loss_12 : decode cX9_loss 12 = .ok (.aload_n 0, 1) := by decide +kernel
theorem dX9_loss_13 : decode cX9_loss 13 = .ok (.getfield 62, 3) := by decide +kernel
theorem dX9_loss_16 : decode cX9_loss 16 = .ok (.ifCond .ne 6, 3) := by decide +kernel
theorem dX9_loss_19 : decode cX9_loss 19 = .ok (.bipush (-3), 2) := by decide +kernel
theorem dX9_loss_21 : decode cX9_loss 21 = .ok (.ireturn, 1) := by decide +kernel
theorem dX9_loss_22 : decode cX9_loss 22 = .ok (.iload_n 1, 1) := by decide +kernel
theorem dX9_loss_23 : decode cX9_loss 23 = .ok (.iconst 1, 1) := by decide +kernel
theorem dX9_loss_24 : decode cX9_loss 24 = .ok (.if_icmp .ne 8, 3) := by decide +kernel
theorem dX9_loss_27 : decode cX9_loss 27 = .ok (.aload_n 0, 1) := by decide +kernel
theorem dX9_loss_28 : decode cX9_loss 28 = .ok (.invokevirtual 168, 3) := by decide +kernel
theorem dX9_loss_31 : decode cX9_loss 31 = .ok (.ireturn, 1) := by decide +kernel
theorem dX9_loss_32 : decode cX9_loss 32 = .ok (.aload_n 0, 1) := by decide +kernel
theorem dX9_loss_33 : decode cX9_loss 33 = .ok (.invokevirtual 165, 3) := by decide +kernel
theorem dX9_loss_36 : decode cX9_loss 36 = .ok (.iconst 0, 1) := by decide +kernel
theorem dX9_loss_37 : decode cX9_loss 37 = .ok (.istore_n 2, 1) := by decide +kernel
theorem dX9_loss_38 : decode cX9_loss 38 = .ok (.iconst 0, 1) := by decide +kernel
theorem dX9_loss_39 : decode cX9_loss 39 = .ok (.istore_n 3, 1) := by decide +kernel
theorem dX9_loss_40 : decode cX9_loss 40 = .ok (.iload_n 3, 1) := by decide +kernel
theorem dX9_loss_41 : decode cX9_loss 41 = .ok (.aload_n 0, 1) := by decide +kernel
theorem dX9_loss_42 : decode cX9_loss 42 = .ok (.getfield 162, 3) := by decide +kernel
theorem dX9_loss_45 : decode cX9_loss 45 = .ok (.if_icmp .ge 25, 3) := by decide +kernel
theorem dX9_loss_48 : decode cX9_loss 48 = .ok (.iload_n 2, 1) := by decide +kernel
theorem dX9_loss_49 : decode cX9_loss 49 = .ok (.aload_n 0, 1) := by decide +kernel
theorem dX9_loss_50 : decode cX9_loss 50 = .ok (.getfield 22, 3) := by decide +kernel
theorem dX9_loss_53 : decode cX9_loss 53 = .ok (.aload_n 0, 1) := by decide +kernel
theorem dX9_loss_54 : decode cX9_loss 54 = .ok (.getfield 34, 3) := by decide +kernel
theorem dX9_loss_57 : decode cX9_loss 57 = .ok (.iload_n 3, 1) := by decide +kernel
theorem dX9_loss_58 : decode cX9_loss 58 = .ok (.iaload, 1) := by decide +kernel
theorem dX9_loss_59 : decode cX9_loss 59 = .ok (.iaload, 1) := by decide +kernel
theorem dX9_loss_60 : decode cX9_loss 60 = .ok (.iload_n 3, 1) := by decide +kernel
theorem dX9_loss_61 : decode cX9_loss 61 = .ok (.imul, 1) := by decide +kernel
theorem dX9_loss_62 : decode cX9_loss 62 = .ok (.iadd, 1) := by decide +kernel
theorem dX9_loss_63 : decode cX9_loss 63 = .ok (.istore_n 2, 1) := by decide +kernel
theorem dX9_loss_64 : decode cX9_loss 64 = .ok (.iinc 3 1, 3) := by decide +kernel
theorem dX9_loss_67 : decode cX9_loss 67 = .ok (.goto (-27), 3) := by decide +kernel
theorem dX9_loss_70 : decode cX9_loss 70 = .ok (.iload_n 2, 1) := by decide +kernel
theorem dX9_loss_71 : decode cX9_loss 71 = .ok (.ireturn, 1) := by decide +kernel
theorem dX9_let_0 : decode cX9_let 0 = .ok (.aload_n 0, 1) := by decide +kernel
theorem dX9_let_1 : decode cX9_let 1 = .ok (.iload_n 1, 1) := by decide +kernel
theorem dX9_let_2 : decode cX9_let 2 = .ok (.invokevirtual 120, 3) := by decide +kernel
theorem dX9_let_5 : decode cX9_let 5 = .ok (.ifCond .ne 5, 3) := by decide +kernel
theorem dX9_let_8 : decode cX9_let 8 = .ok (.iconst (-1), 1) := by decide +kernel
theorem dX9_let_9 : decode cX9_let 9 = .ok (.ireturn, 1) := by decide +kernel
theorem dX9_let_10 : decode cX9_let 10 = .ok (.iload_n 2, 1) := by decide +kernel
theorem dX9_let_11 : decode cX9_let 11 = .ok (.iconst 0, 1) := by decide +kernel
theorem dX9_let_12 : decode cX9_let 12 = .ok (.iconst 5, 1) := by decide +kernel
theorem dX9_let_13 : decode cX9_let 13 = .ok (.invokestatic 58, 3) := by decide +kernel
theorem dX9_let_16 : decode cX9_let 16 = .ok (.ifCond .ne 6, 3) := by decide +kernel
theorem dX9_let_19 : decode cX9_let 19 = .ok (.bipush (-2), 2) := by decide +kernel
theorem dX9_let_21 : decode cX9_let 21 = .ok (.ireturn, 1) := by decide +kernel
theorem dX9_let_22 : decode cX9_let 22 = .ok (.aload_n 0, 1) := by decide +kernel
theorem dX9_let_23 : decode cX9_let 23 = .ok (.getfield 98, 3) := by decide +kernel
theorem dX9_let_26 : decode cX9_let 26 = .ok (.iload_n 1, 1) := by decide +kernel
theorem dX9_let_27 : decode cX9_let 27 = .ok (.invokestatic 139, 3) := by decide +kernel
theorem dX9_let_30 : decode cX9_let 30 = .ok (.ifCond .ne 6, 3) := by decide +kernel
theorem dX9_let_33 : decode cX9_let 33 = .ok (.bipush (-3), 2) := by decide +kernel
theorem dX9_let_35 : decode cX9_let 35 = .ok (.ireturn, 1) := by decide +kernel
theorem dX9_let_36 : decode cX9_let 36 = .ok (.aload_n 0, 1) := by decide +kernel
theorem dX9_let_37 : decode cX9_let 37 = .ok (.getfield 25, 3) := by decide +kernel
theorem dX9_let_40 : decode cX9_let 40 = .ok (.iload_n 1, 1) := by decide +kernel
theorem dX9_let_41 : decode cX9_let 41 = .ok (.iaload, 1) := by decide +kernel
theorem dX9_let_42 : decode cX9_let 42 = .ok (.istore_n 3, 1) := by decide +kernel
theorem dX9_let_43 : decode cX9_let 43 = .ok (.bipush (-9), 2) := by decide +kernel
theorem dX9_let_45 : decode cX9_let 45 = .ok (.istore 4, 2) := by decide +kernel
theorem dX9_let_47 : decode cX9_let 47 = .ok (.bipush 9, 2) := by decide +kernel
theorem dX9_let_49 : decode cX9_let 49 = .ok (.istore 5, 2) := by decide +kernel
theorem dX9_let_51 : decode cX9_let 51 = .ok (.iload 5, 2) := by decide +kernel
theorem dX9_let_53 : decode cX9_let 53 = .ok (.ifCond .lt 65, 3) := by decide +kernel
theorem dX9_let_56 : decode cX9_let 56 = .ok (.aload_n 0, 1) := by decide +kernel
theorem dX9_let_57 : decode cX9_let 57 = .ok (.getfield 25, 3) := by decide +kernel
theorem dX9_let_60 : decode cX9_let 60 = .ok (.iload_n 1, 1) := by decide +kernel
theorem dX9_let_61 : decode cX9_let 61 = .ok (.iload 5, 2) := by decide +kernel
theorem dX9_let_63 : decode cX9_let 63 = .ok (.iastore, 1) := by decide +kernel
theorem dX9_let_64 : decode cX9_let 64 = .ok (.aload_n 0, 1) := by decide +kernel
theorem dX9_let_65 : decode cX9_let 65 = .ok (.invokevirtual 165, 3) := by decide +kernel
theorem dX9_let_68 : decode cX9_let 68 = .ok (.iconst 0, 1) := by decide +kernel
theorem dX9_let_69 : decode cX9_let 69 = .ok (.istore 6, 2) := by decide +kernel
theorem dX9_let_71 : decode cX9_let 71 = .ok (.iload 6, 2) := by decide +kernel
theorem dX9_let_73 : decode cX9_let 73 = .ok (.iload_n 2, 1) := by decide +kernel
theorem dX9_let_74 : decode cX9_let 74 = .ok (.if_icmp .gt 38, 3) := by decide +kernel
theorem dX9_let_77 : decode cX9_let 77 = .ok (.iload 6, 2) := by decide +kernel
theorem dX9_let_79 : decode cX9_let 79 = .ok (.aload_n 0, 1) := by decide +kernel
theorem dX9_let_80 : decode cX9_let 80 = .ok (.getfield 162, 3) := by decide +kernel
theorem dX9_let_83 : decode cX9_let 83 = .ok (.if_icmp .ge 29, 3) := by decide +kernel
theorem dX9_let_86 : decode cX9_let 86 = .ok (.aload_n 0, 1) := by decide +kernel
theorem dX9_let_87 : decode cX9_let 87 = .ok (.getfield 34, 3) := by decide +kernel
theorem dX9_let_90 : decode cX9_let 90 = .ok (.iload 6, 2) := by decide +kernel
theorem dX9_let_92 : decode cX9_let 92 = .ok (.iaload, 1) := by decide +kernel
theorem dX9_let_93 : decode cX9_let 93 = .ok (.iload_n 1, 1) := by decide +kernel
theorem dX9_let_94 : decode cX9_let 94 = .ok (.if_icmp .ne 8, 3) := by decide +kernel
theorem dX9_let_97 : decode cX9_let 97 = .ok (.iload 5, 2) := by decide +kernel
theorem dX9_let_99 : decode cX9_let 99 = .ok (.goto 5, 3) := by decide +kernel
theorem dX9_let_102 : decode cX9_let 102 = .ok (.iload 4, 2) := by decide +kernel
theorem dX9_let_104 : decode cX9_let 104 = .ok (.istore 4, 2) := by decide +kernel
theorem dX9_let_106 : decode cX9_let 106 = .ok (.iinc 6 1, 3) := by decide +kernel
theorem dX9_let_109 : decode cX9_let 109 = .ok (.goto (-38), 3) := by decide +kernel
theorem dX9_let_112 : decode cX9_let 112 = .ok (.iinc 5 (-1), 3) := by decide +kernel
theorem dX9_let_115 : decode cX9_let 115 = .ok (.goto (-64), 3) := by decide +kernel
theorem dX9_let_118 : decode cX9_let 118 = .ok (.aload_n 0, 1) := by decide +kernel
theorem dX9_let_119 : decode cX9_let 119 = .ok (.getfield 25, 3) := by decide +kernel
theorem dX9_let_122 : decode cX9_let 122 = .ok (.iload_n 1, 1) := by decide +kernel
theorem dX9_let_123 : decode cX9_let 123 = .ok (.iload_n 3, 1) := by decide +kernel
theorem dX9_let_124 : decode cX9_let 124 = .ok (.iastore, 1) := by decide +kernel
theorem dX9_let_125 : decode cX9_let 125 = .ok (.iload 4, 2) := by decide +kernel
theorem dX9_let_127 : decode cX9_let 127 = .ok (.ireturn, 1) := by decide +kernel
theorem dX9_balanceOf_0 : decode cX9_balanceOf 0 = .ok (.aload_n 0, 1) := by decide +kernel
theorem dX9_balanceOf_1 : decode cX9_balanceOf 1 = .ok (.iload_n 1, 1) := by decide +kernel
theorem dX9_balanceOf_2 : decode cX9_balanceOf 2 = .ok (.iconst 0, 1) := by decide +kernel
theorem dX9_balanceOf_3 : decode cX9_balanceOf 3 = .ok (.invokevirtual 126, 3) := by decide +kernel
theorem dX9_balanceOf_6 : decode cX9_balanceOf 6 = .ok (.aload_n 0, 1) := by decide +kernel
theorem dX9_balanceOf_7 : decode cX9_balanceOf 7 = .ok (.iload_n 1, 1) := by decide +kernel
theorem dX9_balanceOf_8 : decode cX9_balanceOf 8 = .ok (.iconst 1, 1) := by decide +kernel
theorem dX9_balanceOf_9 : decode cX9_balanceOf 9 = .ok (.invokevirtual 126, 3) := by decide +kernel
theorem dX9_balanceOf_12 : decode cX9_balanceOf 12 = .ok (.isub, 1) := by decide +kernel
theorem dX9_balanceOf_13 : decode cX9_balanceOf 13 = .ok (.ireturn, 1) := by decide +kernel
theorem dX9_balance_0 : decode cX9_balance 0 = .ok (.aload_n 0, 1) := by decide +kernel
theorem dX9_balance_1 : decode cX9_balance 1 = .ok (.iload_n 1, 1) := by decide +kernel
theorem dX9_balance_2 : decode cX9_balance 2 = .ok (.invokevirtual 120, 3) := by decide +kernel
theorem dX9_balance_5 : decode cX9_balance 5 = .ok (.ifCond .eq 15, 3) := by decide +kernel
theorem dX9_balance_8 : decode cX9_balance 8 = .ok (.sipush 10000, 3) := by decide +kernel
theorem dX9_balance_11 : decode cX9_balance 11 = .ok (.aload_n 0, 1) := by decide +kernel
theorem dX9_balance_12 : decode cX9_balance 12 = .ok (.iload_n 1, 1) := by decide +kernel
theorem dX9_balance_13 : decode cX9_balance 13 = .ok (.invokevirtual 171, 3) := by decide +kernel
theorem dX9_balance_16 : decode cX9_balance 16 = .ok (.iadd, 1) := by decide +kernel
theorem dX9_balance_17 : decode cX9_balance 17 = .ok (.goto 4, 3) := by decide +kernel
theorem dX9_balance_20 : decode cX9_balance 20 = .ok (.iconst (-1), 1) := by decide +kernel
theorem dX9_balance_21 : decode cX9_balance 21 = .ok (.ireturn, 1) := by decide +kernel
theorem dX9_isEven_0 : decode cX9_isEven 0 = .ok (.iconst 0, 1) := by decide +kernel
theorem dX9_isEven_1 : decode cX9_isEven 1 = .ok (.istore_n 2, 1) := by decide +kernel
theorem dX9_isEven_2 : decode cX9_isEven 2 = .ok (.iconst 0, 1) := by decide +kernel
theorem dX9_isEven_3 : decode cX9_isEven 3 = .ok (.istore_n 3, 1) := by decide +kernel
theorem dX9_isEven_4 : decode cX9_isEven 4 = .ok (.iload_n 3, 1) := by decide +kernel
theorem dX9_isEven_5 : decode cX9_isEven 5 = .ok (.aload_n 0, 1) := by decide +kernel
theorem dX9_isEven_6 : decode cX9_isEven 6 = .ok (.getfield 62, 3) := by decide +kernel
theorem dX9_isEven_9 : decode cX9_isEven 9 = .ok (.if_icmp .ge 29, 3) := by decide +kernel
theorem dX9_isEven_12 : decode cX9_isEven 12 = .ok (.iload_n 2, 1) := by decide +kernel
theorem dX9_isEven_13 : decode cX9_isEven 13 = .ok (.iload_n 1, 1) := by decide +kernel
theorem dX9_isEven_14 : decode cX9_isEven 14 = .ok (.iload_n 3, 1) := by decide +kernel
theorem dX9_isEven_15 : decode cX9_isEven 15 = .ok (.invokestatic 139, 3) := by decide +kernel
theorem dX9_isEven_18 : decode cX9_isEven 18 = .ok (.ifCond .eq 11, 3) := by decide +kernel
theorem dX9_isEven_21 : decode cX9_isEven 21 = .ok (.aload_n 0, 1) := by decide +kernel
theorem dX9_isEven_22 : decode cX9_isEven 22 = .ok (.iload_n 3, 1) := by decide +kernel
theorem dX9_isEven_23 : decode cX9_isEven 23 = .ok (.invokevirtual 171, 3) := by decide +kernel
theorem dX9_isEven_26 : decode cX9_isEven 26 = .ok (.goto 4, 3) := by decide +kernel
theorem dX9_isEven_29 : decode cX9_isEven 29 = .ok (.iconst 0, 1) := by decide +kernel
theorem dX9_isEven_30 : decode cX9_isEven 30 = .ok (.iadd, 1) := by decide +kernel
theorem dX9_isEven_31 : decode cX9_isEven 31 = .ok (.istore_n 2, 1) := by decide +kernel
theorem dX9_isEven_32 : decode cX9_isEven 32 = .ok (.iinc 3 1, 3) := by decide +kernel
theorem dX9_isEven_35 : decode cX9_isEven 35 = .ok (.goto (-31), 3) := by decide +kernel
theorem dX9_isEven_38 : decode cX9_isEven 38 = .ok (.iload_n 2, 1) := by decide +kernel
theorem dX9_isEven_39 : decode cX9_isEven 39 = .ok (.ifCond .ne 7, 3) := by decide +kernel
theorem dX9_isEven_42 : decode cX9_isEven 42 = .ok (.iconst 1, 1) := by decide +kernel
theorem dX9_isEven_43 : decode cX9_isEven 43 = .ok (.goto 4, 3) := by decide +kernel
theorem dX9_isEven_46 : decode cX9_isEven 46 = .ok (.iconst 0, 1) := by decide +kernel
theorem dX9_isEven_47 : decode cX9_isEven 47 = .ok (.ireturn, 1) := by decide +kernel
theorem dX9_mostGroups_0 : decode cX9_mostGroups 0 = .ok (.iconst 1, 1) := by decide +kernel
theorem dX9_mostGroups_1 : decode cX9_mostGroups 1 = .ok (.istore_n 2, 1) := by decide +kernel
theorem dX9_mostGroups_2 : decode cX9_mostGroups 2 = .ok (.iload_n 2, 1) := by decide +kernel
theorem dX9_mostGroups_3 : decode cX9_mostGroups 3 = .ok (.iload_n 1, 1) := by decide +kernel
theorem dX9_mostGroups_4 : decode cX9_mostGroups 4 = .ok (.if_icmp .gt 132, 3) := by decide +kernel
theorem dX9_mostGroups_7 : decode cX9_mostGroups 7 = .ok (.aload_n 0, 1) := by decide +kernel
theorem dX9_mostGroups_8 : decode cX9_mostGroups 8 = .ok (.getfield 40, 3) := by decide +kernel
theorem dX9_mostGroups_11 : decode cX9_mostGroups 11 = .ok (.iload_n 2, 1) := by decide +kernel
theorem dX9_mostGroups_12 : decode cX9_mostGroups 12 = .ok (.bipush (-9), 2) := by decide +kernel
theorem dX9_mostGroups_14 : decode cX9_mostGroups 14 = .ok (.iastore, 1) := by decide +kernel
theorem dX9_mostGroups_15 : decode cX9_mostGroups 15 = .ok (.iconst 1, 1) := by decide +kernel
theorem dX9_mostGroups_16 : decode cX9_mostGroups 16 = .ok (.istore_n 3, 1) := by decide +kernel
theorem dX9_mostGroups_17 : decode cX9_mostGroups 17 = .ok (.iload_n 3, 1) := by decide +kernel
theorem dX9_mostGroups_18 : decode cX9_mostGroups 18 = .ok (.iload_n 2, 1) := by decide +kernel
theorem dX9_mostGroups_19 : decode cX9_mostGroups 19 = .ok (.if_icmp .gt 111, 3) := by decide +kernel
theorem dX9_mostGroups_22 : decode cX9_mostGroups 22 = .ok (.iload_n 3, 1) := by decide +kernel
theorem dX9_mostGroups_23 : decode cX9_mostGroups 23 = .ok (.iload_n 2, 1) := by decide +kernel
theorem dX9_mostGroups_24 : decode cX9_mostGroups 24 = .ok (.iconst (-1), 1) := by decide +kernel
theorem dX9_mostGroups_25 : decode cX9_mostGroups 25 = .ok (.ixor, 1) := by decide +kernel
theorem dX9_mostGroups_26 : decode cX9_mostGroups 26 = .ok (.iand, 1) := by decide +kernel
theorem dX9_mostGroups_27 : decode cX9_mostGroups 27 = .ok (.ifCond .ne 33, 3) := by decide +kernel
theorem dX9_mostGroups_30 : decode cX9_mostGroups 30 = .ok (.aload_n 0, 1) := by decide +kernel
theorem dX9_mostGroups_31 : decode cX9_mostGroups 31 = .ok (.iload_n 3, 1) := by decide +kernel
theorem dX9_mostGroups_32 : decode cX9_mostGroups 32 = .ok (.invokevirtual 174, 3) := by decide +kernel
theorem dX9_mostGroups_35 : decode cX9_mostGroups 35 = .ok (.ifCond .eq 25, 3) := by decide +kernel
theorem dX9_mostGroups_38 : decode cX9_mostGroups 38 = .ok (.iload_n 3, 1) := by decide +kernel
theorem dX9_mostGroups_39 : decode cX9_mostGroups 39 = .ok (.iload_n 2, 1) := by decide +kernel
theorem dX9_mostGroups_40 : decode cX9_mostGroups 40 = .ok (.if_icmp .eq 16, 3) := by decide +kernel
theorem dX9_mostGroups_43 : decode cX9_mostGroups 43 = .ok (.aload_n 0, 1) := by decide +kernel
theorem dX9_mostGroups_44 : decode cX9_mostGroups 44 = .ok (.getfield 40, 3) := by decide +kernel
theorem dX9_mostGroups_47 : decode cX9_mostGroups 47 = .ok (.iload_n 2, 1) := by decide +kernel
theorem dX9_mostGroups_48 : decode cX9_mostGroups 48 = .ok (.iload_n 3, 1) := by decide +kernel
theorem dX9_mostGroups_49 : decode cX9_mostGroups 49 = .ok (.iconst (-1), 1) := by decide +kernel
theorem dX9_mostGroups_50 : decode cX9_mostGroups 50 = .ok (.ixor, 1) := by decide +kernel
theorem dX9_mostGroups_51 : decode cX9_mostGroups 51 = .ok (.iand, 1) := by decide +kernel
theorem dX9_mostGroups_52 : decode cX9_mostGroups 52 = .ok (.iaload, 1) := by decide +kernel
theorem dX9_mostGroups_53 : decode cX9_mostGroups 53 = .ok (.ifCond .le 7, 3) := by decide +kernel
theorem dX9_mostGroups_56 : decode cX9_mostGroups 56 = .ok (.iconst 1, 1) := by decide +kernel
theorem dX9_mostGroups_57 : decode cX9_mostGroups 57 = .ok (.goto 4, 3) := by decide +kernel
theorem dX9_mostGroups_60 : decode cX9_mostGroups 60 = .ok (.iconst 0, 1) := by decide +kernel
theorem dX9_mostGroups_61 : decode cX9_mostGroups 61 = .ok (.istore 4, 2) := by decide +kernel
theorem dX9_mostGroups_63 : decode cX9_mostGroups 63 = .ok (.iload 4, 2) := by decide +kernel
theorem dX9_mostGroups_65 : decode cX9_mostGroups 65 = .ok (.ifCond .eq 27, 3) := by decide +kernel
theorem dX9_mostGroups_68 : decode cX9_mostGroups 68 = .ok (.iconst 1, 1) := by decide +kernel
theorem dX9_mostGroups_69 : decode cX9_mostGroups 69 = .ok (.iload_n 3, 1) := by decide +kernel
theorem dX9_mostGroups_70 : decode cX9_mostGroups 70 = .ok (.iload_n 2, 1) := by decide +kernel
theorem dX9_mostGroups_71 : decode cX9_mostGroups 71 = .ok (.if_icmp .ne 7, 3) := by decide +kernel
theorem dX9_mostGroups_74 : decode cX9_mostGroups 74 = .ok (.iconst 0, 1) := by decide +kernel
theorem dX9_mostGroups_75 : decode cX9_mostGroups 75 = .ok (.goto 13, 3) := by decide +kernel
theorem dX9_mostGroups_78 : decode cX9_mostGroups 78 = .ok (.aload_n 0, 1) := by decide +kernel
theorem dX9_mostGroups_79 : decode cX9_mostGroups 79 = .ok (.getfield 40, 3) := by decide +kernel
theorem dX9_mostGroups_82 : decode cX9_mostGroups 82 = .ok (.iload_n 2, 1) := by decide +kernel
theorem dX9_mostGroups_83 : decode cX9_mostGroups 83 = .ok (.iload_n 3, 1) := by decide +kernel
theorem dX9_mostGroups_84 : decode cX9_mostGroups 84 = .ok (.iconst (-1), 1) := by decide +kernel
theorem dX9_mostGroups_85 : decode cX9_mostGroups 85 = .ok (.ixor, 1) := by decide +kernel
theorem dX9_mostGroups_86 : decode cX9_mostGroups 86 = .ok (.iand, 1) := by decide +kernel
theorem dX9_mostGroups_87 : decode cX9_mostGroups 87 = .ok (.iaload, 1) := by decide +kernel
theorem dX9_mostGroups_88 : decode cX9_mostGroups 88 = .ok (.iadd, 1) := by decide +kernel
theorem dX9_mostGroups_89 : decode cX9_mostGroups 89 = .ok (.goto 5, 3) := by decide +kernel
theorem dX9_mostGroups_92 : decode cX9_mostGroups 92 = .ok (.bipush (-9), 2) := by decide +kernel
theorem dX9_mostGroups_94 : decode cX9_mostGroups 94 = .ok (.istore 5, 2) := by decide +kernel
theorem dX9_mostGroups_96 : decode cX9_mostGroups 96 = .ok (.aload_n 0, 1) := by decide +kernel
theorem dX9_mostGroups_97 : decode cX9_mostGroups 97 = .ok (.getfield 40, 3) := by decide +kernel
theorem dX9_mostGroups_100 : decode cX9_mostGroups 100 = .ok (.iload_n 2, 1) := by decide +kernel
theorem dX9_mostGroups_101 : decode cX9_mostGroups 101 = .ok (.iload 5, 2) := by decide +kernel
theorem dX9_mostGroups_103 : decode cX9_mostGroups 103 = .ok (.aload_n 0, 1) := by decide +kernel
theorem dX9_mostGroups_104 : decode cX9_mostGroups 104 = .ok (.getfield 40, 3) := by decide +kernel
theorem dX9_mostGroups_107 : decode cX9_mostGroups 107 = .ok (.iload_n 2, 1) := by decide +kernel
theorem dX9_mostGroups_108 : decode cX9_mostGroups 108 = .ok (.iaload, 1) := by decide +kernel
theorem dX9_mostGroups_109 : decode cX9_mostGroups 109 = .ok (.if_icmp .le 8, 3) := by decide +kernel
theorem dX9_mostGroups_112 : decode cX9_mostGroups 112 = .ok (.iload 5, 2) := by decide +kernel
theorem dX9_mostGroups_114 : decode cX9_mostGroups 114 = .ok (.goto 9, 3) := by decide +kernel
theorem dX9_mostGroups_117 : decode cX9_mostGroups 117 = .ok (.aload_n 0, 1) := by decide +kernel
theorem dX9_mostGroups_118 : decode cX9_mostGroups 118 = .ok (.getfield 40, 3) := by decide +kernel
theorem dX9_mostGroups_121 : decode cX9_mostGroups 121 = .ok (.iload_n 2, 1) := by decide +kernel
theorem dX9_mostGroups_122 : decode cX9_mostGroups 122 = .ok (.iaload, 1) := by decide +kernel
theorem dX9_mostGroups_123 : decode cX9_mostGroups 123 = .ok (.iastore, 1) := by decide +kernel
theorem dX9_mostGroups_124 : decode cX9_mostGroups 124 = .ok (.iinc 3 1, 3) := by decide +kernel
theorem dX9_mostGroups_127 : decode cX9_mostGroups 127 = .ok (.goto (-110), 3) := by decide +kernel
theorem dX9_mostGroups_130 : decode cX9_mostGroups 130 = .ok (.iinc 2 1, 3) := by decide +kernel
theorem dX9_mostGroups_133 : decode cX9_mostGroups 133 = .ok (.goto (-131), 3) := by decide +kernel
theorem dX9_mostGroups_136 : decode cX9_mostGroups 136 = .ok (.aload_n 0, 1) := by decide +kernel
theorem dX9_mostGroups_137 : decode cX9_mostGroups 137 = .ok (.getfield 40, 3) := by decide +kernel
theorem dX9_mostGroups_140 : decode cX9_mostGroups 140 = .ok (.iload_n 1, 1) := by decide +kernel
theorem dX9_mostGroups_141 : decode cX9_mostGroups 141 = .ok (.iaload, 1) := by decide +kernel
theorem dX9_mostGroups_142 : decode cX9_mostGroups 142 = .ok (.ireturn, 1) := by decide +kernel
theorem dX9_cleared_0 : decode cX9_cleared 0 = .ok (.iload_n 1, 1) := by decide +kernel
theorem dX9_cleared_1 : decode cX9_cleared 1 = .ok (.iconst 0, 1) := by decide +kernel
theorem dX9_cleared_2 : decode cX9_cleared 2 = .ok (.iconst 1, 1) := by decide +kernel
theorem dX9_cleared_3 : decode cX9_cleared 3 = .ok (.invokestatic 58, 3) := by decide +kernel
theorem dX9_cleared_6 : decode cX9_cleared 6 = .ok (.ifCond .ne 6, 3) := by decide +kernel
theorem dX9_cleared_9 : decode cX9_cleared 9 = .ok (.bipush (-2), 2) := by decide +kernel
theorem dX9_cleared_11 : decode cX9_cleared 11 = .ok (.ireturn, 1) := by decide +kernel
theorem dX9_cleared_12 : decode cX9_cleared 12 = .ok (.aload_n 0, 1) := by decide +kernel
theorem dX9_cleared_13 : decode cX9_cleared 13 = .ok (.getfield 62, 3) := by decide +kernel
theorem dX9_cleared_16 : decode cX9_cleared 16 = .ok (.ifCond .ne 6, 3) := by decide +kernel
theorem dX9_cleared_19 : decode cX9_cleared 19 = .ok (.bipush (-3), 2) := by decide +kernel
theorem dX9_cleared_21 : decode cX9_cleared 21 = .ok (.ireturn, 1) := by decide +kernel
theorem dX9_cleared_22 : decode cX9_cleared 22 = .ok (.iconst 0, 1) := by decide +kernel
theorem dX9_cleared_23 : decode cX9_cleared 23 = .ok (.istore_n 2, 1) := by decide +kernel
theorem dX9_cleared_24 : decode cX9_cleared 24 = .ok (.iconst 0, 1) := by decide +kernel
theorem dX9_cleared_25 : decode cX9_cleared 25 = .ok (.istore_n 3, 1) := by decide +kernel
theorem dX9_cleared_26 : decode cX9_cleared 26 = .ok (.iconst 0, 1) := by decide +kernel
theorem dX9_cleared_27 : decode cX9_cleared 27 = .ok (.istore 4, 2) := by decide +kernel
theorem dX9_cleared_29 : decode cX9_cleared 29 = .ok (.iload 4, 2) := by decide +kernel
theorem dX9_cleared_31 : decode cX9_cleared 31 = .ok (.aload_n 0, 1) := by decide +kernel
theorem dX9_cleared_32 : decode cX9_cleared 32 = .ok (.getfield 62, 3) := by decide +kernel
theorem dX9_cleared_35 : decode cX9_cleared 35 = .ok (.if_icmp .ge 51, 3) := by decide +kernel
theorem dX9_cleared_38 : decode cX9_cleared 38 = .ok (.iload_n 2, 1) := by decide +kernel
theorem dX9_cleared_39 : decode cX9_cleared 39 = .ok (.aload_n 0, 1) := by decide +kernel
theorem dX9_cleared_40 : decode cX9_cleared 40 = .ok (.iload 4, 2) := by decide +kernel
theorem dX9_cleared_42 : decode cX9_cleared 42 = .ok (.invokevirtual 171, 3) := by decide +kernel
theorem dX9_cleared_45 : decode cX9_cleared 45 = .ok (.ifCond .le 12, 3) := by decide +kernel
theorem dX9_cleared_48 : decode cX9_cleared 48 = .ok (.aload_n 0, 1) := by decide +kernel
theorem dX9_cleared_49 : decode cX9_cleared 49 = .ok (.iload 4, 2) := by decide +kernel
theorem dX9_cleared_51 : decode cX9_cleared 51 = .ok (.invokevirtual 171, 3) := by decide +kernel
theorem dX9_cleared_54 : decode cX9_cleared 54 = .ok (.goto 4, 3) := by decide +kernel
theorem dX9_cleared_57 : decode cX9_cleared 57 = .ok (.iconst 0, 1) := by decide +kernel
theorem dX9_cleared_58 : decode cX9_cleared 58 = .ok (.iadd, 1) := by decide +kernel
theorem dX9_cleared_59 : decode cX9_cleared 59 = .ok (.istore_n 2, 1) := by decide +kernel
theorem dX9_cleared_60 : decode cX9_cleared 60 = .ok (.iload_n 3, 1) := by decide +kernel
theorem dX9_cleared_61 : decode cX9_cleared 61 = .ok (.aload_n 0, 1) := by decide +kernel
theorem dX9_cleared_62 : decode cX9_cleared 62 = .ok (.iload 4, 2) := by decide +kernel
theorem dX9_cleared_64 : decode cX9_cleared 64 = .ok (.invokevirtual 171, 3) := by decide +kernel
theorem dX9_cleared_67 : decode cX9_cleared 67 = .ok (.ifCond .ne 7, 3) := by decide +kernel
theorem dX9_cleared_70 : decode cX9_cleared 70 = .ok (.iconst 0, 1) := by decide +kernel
theorem dX9_cleared_71 : decode cX9_cleared 71 = .ok (.goto 7, 3) := by decide +kernel
theorem dX9_cleared_74 : decode cX9_cleared 74 = .ok (.iconst 1, 1) := by decide +kernel
theorem dX9_cleared_75 : decode cX9_cleared 75 = .ok (.iload 4, 2) := by decide +kernel
theorem dX9_cleared_77 : decode cX9_cleared 77 = .ok (.ishl, 1) := by decide +kernel
theorem dX9_cleared_78 : decode cX9_cleared 78 = .ok (.ior, 1) := by decide +kernel
theorem dX9_cleared_79 : decode cX9_cleared 79 = .ok (.istore_n 3, 1) := by decide +kernel
theorem dX9_cleared_80 : decode cX9_cleared 80 = .ok (.iinc 4 1, 3) := by decide +kernel
theorem dX9_cleared_83 : decode cX9_cleared 83 = .ok (.goto (-54), 3) := by decide +kernel
theorem dX9_cleared_86 : decode cX9_cleared 86 = .ok (.iload_n 1, 1) := by decide +kernel
theorem dX9_cleared_87 : decode cX9_cleared 87 = .ok (.ifCond .eq 7, 3) := by decide +kernel
theorem dX9_cleared_90 : decode cX9_cleared 90 = .ok (.iload_n 3, 1) := by decide +kernel
theorem dX9_cleared_91 : decode cX9_cleared 91 = .ok (.ifCond .ne 5, 3) := by decide +kernel
theorem dX9_cleared_94 : decode cX9_cleared 94 = .ok (.iload_n 2, 1) := by decide +kernel
theorem dX9_cleared_95 : decode cX9_cleared 95 = .ok (.ireturn, 1) := by decide +kernel
theorem dX9_cleared_96 : decode cX9_cleared 96 = .ok (.iload_n 3, 1) := by decide +kernel
theorem dX9_cleared_97 : decode cX9_cleared 97 = .ok (.invokestatic 148, 3) := by decide +kernel
theorem dX9_cleared_100 : decode cX9_cleared 100 = .ok (.aload_n 0, 1) := by decide +kernel
theorem dX9_cleared_101 : decode cX9_cleared 101 = .ok (.iload_n 3, 1) := by decide +kernel
theorem dX9_cleared_102 : decode cX9_cleared 102 = .ok (.invokevirtual 177, 3) := by decide +kernel
theorem dX9_cleared_105 : decode cX9_cleared 105 = .ok (.isub, 1) := by decide +kernel
theorem dX9_cleared_106 : decode cX9_cleared 106 = .ok (.ireturn, 1) := by decide +kernel
theorem dX9_were_0 : decode cX9_were 0 = .ok (.aload_n 0, 1) := by decide +kernel
theorem dX9_were_1 : decode cX9_were 1 = .ok (.iload_n 1, 1) := by decide +kernel
theorem dX9_were_2 : decode cX9_were 2 = .ok (.invokevirtual 120, 3) := by decide +kernel
theorem dX9_were_5 : decode cX9_were 5 = .ok (.ifCond .ne 5, 3) := by decide +kernel
theorem dX9_were_8 : decode cX9_were 8 = .ok (.iconst (-1), 1) := by decide +kernel
theorem dX9_were_9 : decode cX9_were 9 = .ok (.ireturn, 1) := by decide +kernel
theorem dX9_were_10 : decode cX9_were 10 = .ok (.iload_n 2, 1) := by decide +kernel
theorem dX9_were_11 : decode cX9_were 11 = .ok (.iconst 0, 1) := by decide +kernel
theorem dX9_were_12 : decode cX9_were 12 = .ok (.bipush 18, 2) := by decide +kernel
theorem dX9_were_14 : decode cX9_were 14 = .ok (.invokestatic 58, 3) := by decide +kernel
theorem dX9_were_17 : decode cX9_were 17 = .ok (.ifCond .eq 12, 3) := by decide +kernel
theorem dX9_were_20 : decode cX9_were 20 = .ok (.iload_n 3, 1) := by decide +kernel
theorem dX9_were_21 : decode cX9_were 21 = .ok (.iconst 0, 1) := by decide +kernel
theorem dX9_were_22 : decode cX9_were 22 = .ok (.iconst 2, 1) := by decide +kernel
theorem dX9_were_23 : decode cX9_were 23 = .ok (.invokestatic 58, 3) := by decide +kernel
theorem dX9_were_26 : decode cX9_were 26 = .ok (.ifCond .ne 6, 3) := by decide +kernel
theorem dX9_were_29 : decode cX9_were 29 = .ok (.bipush (-2), 2) := by decide +kernel
theorem dX9_were_31 : decode cX9_were 31 = .ok (.ireturn, 1) := by decide +kernel
theorem dX9_were_32 : decode cX9_were 32 = .ok (.iconst 0, 1) := by decide +kernel
theorem dX9_were_33 : decode cX9_were 33 = .ok (.istore 4, 2) := by decide +kernel
theorem dX9_were_35 : decode cX9_were 35 = .ok (.bipush (-9), 2) := by decide +kernel
theorem dX9_were_37 : decode cX9_were 37 = .ok (.istore 5, 2) := by decide +kernel
theorem dX9_were_39 : decode cX9_were 39 = .ok (.iconst 1, 1) := by decide +kernel
theorem dX9_were_40 : decode cX9_were 40 = .ok (.aload_n 0, 1) := by decide +kernel
theorem dX9_were_41 : decode cX9_were 41 = .ok (.getfield 62, 3) := by decide +kernel
theorem dX9_were_44 : decode cX9_were 44 = .ok (.ishl, 1) := by decide +kernel
theorem dX9_were_45 : decode cX9_were 45 = .ok (.iconst 1, 1) := by decide +kernel
theorem dX9_were_46 : decode cX9_were 46 = .ok (.isub, 1) := by decide +kernel
theorem dX9_were_47 : decode cX9_were 47 = .ok (.istore 6, 2) := by decide +kernel
theorem dX9_were_49 : decode cX9_were 49 = .ok (.iconst 1, 1) := by decide +kernel
theorem dX9_were_50 : decode cX9_were 50 = .ok (.istore 7, 2) := by decide +kernel
theorem dX9_were_52 : decode cX9_were 52 = .ok (.iload 7, 2) := by decide +kernel
theorem dX9_were_54 : decode cX9_were 54 = .ok (.iconst 1, 1) := by decide +kernel
theorem dX9_were_55 : decode cX9_were 55 = .ok (.aload_n 0, 1) := by decide +kernel
theorem dX9_were_56 : decode cX9_were 56 = .ok (.getfield 62, 3) := by decide +kernel
theorem dX9_were_59 : decode cX9_were 59 = .ok (.ishl, 1) := by decide +kernel
theorem dX9_were_60 : decode cX9_were 60 = .ok (.if_icmp .ge 62, 3) := by decide +kernel
theorem dX9_were_63 : decode cX9_were 63 = .ok (.iload 7, 2) := by decide +kernel
theorem dX9_were_65 : decode cX9_were 65 = .ok (.iload_n 1, 1) := by decide +kernel
theorem dX9_were_66 : decode cX9_were 66 = .ok (.invokestatic 139, 3) := by decide +kernel
theorem dX9_were_69 : decode cX9_were 69 = .ok (.ifCond .eq 47, 3) := by decide +kernel
theorem dX9_were_72 : decode cX9_were 72 = .ok (.aload_n 0, 1) := by decide +kernel
theorem dX9_were_73 : decode cX9_were 73 = .ok (.iload 7, 2) := by decide +kernel
theorem dX9_were_75 : decode cX9_were 75 = .ok (.invokevirtual 145, 3) := by decide +kernel
theorem dX9_were_78 : decode cX9_were 78 = .ok (.iload_n 1, 1) := by decide +kernel
theorem dX9_were_79 : decode cX9_were 79 = .ok (.if_icmp .ne 37, 3) := by decide +kernel
theorem dX9_were_82 : decode cX9_were 82 = .ok (.aload_n 0, 1) := by decide +kernel
theorem dX9_were_83 : decode cX9_were 83 = .ok (.getfield 130, 3) := by decide +kernel
theorem dX9_were_86 : decode cX9_were 86 = .ok (.iload_n 2, 1) := by decide +kernel
theorem dX9_were_87 : decode cX9_were 87 = .ok (.if_icmp .ne 29, 3) := by decide +kernel
theorem dX9_were_90 : decode cX9_were 90 = .ok (.iinc 4 1, 3) := by decide +kernel
theorem dX9_were_93 : decode cX9_were 93 = .ok (.iload 5, 2) := by decide +kernel
theorem dX9_were_95 : decode cX9_were 95 = .ok (.bipush (-9), 2) := by decide +kernel
theorem dX9_were_97 : decode cX9_were 97 = .ok (.if_icmp .ne 8, 3) := by decide +kernel
theorem dX9_were_100 : decode cX9_were 100 = .ok (.iload 7, 2) := by decide +kernel
theorem dX9_were_102 : decode cX9_were 102 = .ok (.goto 5, 3) := by decide +kernel
theorem dX9_were_105 : decode cX9_were 105 = .ok (.iload 5, 2) := by decide +kernel
theorem dX9_were_107 : decode cX9_were 107 = .ok (.istore 5, 2) := by decide +kernel
theorem dX9_were_109 : decode cX9_were 109 = .ok (.iload 6, 2) := by decide +kernel
theorem dX9_were_111 : decode cX9_were 111 = .ok (.iload 7, 2) := by decide +kernel
theorem dX9_were_113 : decode cX9_were 113 = .ok (.iand, 1) := by decide +kernel
theorem dX9_were_114 : decode cX9_were 114 = .ok (.istore 6, 2) := by decide +kernel
theorem dX9_were_116 : decode cX9_were 116 = .ok (.iinc 7 1, 3) := by decide +kernel
theorem dX9_were_119 : decode cX9_were 119 = .ok (.goto (-67), 3) := by decide +kernel
theorem dX9_were_122 : decode cX9_were 122 = .ok (.iload_n 3, 1) := by decide +kernel
theorem dX9_were_123 : decode cX9_were 123 = .ok (.ifCond .ne 8, 3) := by decide +kernel
theorem dX9_were_126 : decode cX9_were 126 = .ok (.iload 4, 2) := by decide +kernel
theorem dX9_were_128 : decode cX9_were 128 = .ok (.goto 20, 3) := by decide +kernel
theorem dX9_were_131 : decode cX9_were 131 = .ok (.iload_n 3, 1) := by decide +kernel
theorem dX9_were_132 : decode cX9_were 132 = .ok (.iconst 1, 1) := by decide +kernel
theorem dX9_were_133 : decode cX9_were 133 = .ok (.if_icmp .eq 8, 3) := by decide +kernel
theorem dX9_were_136 : decode cX9_were 136 = .ok (.iload 4, 2) := by decide +kernel
theorem dX9_were_138 : decode cX9_were 138 = .ok (.ifCond .ne 8, 3) := by decide +kernel
theorem dX9_were_141 : decode cX9_were 141 = .ok (.iload 5, 2) := by decide +kernel
theorem dX9_were_143 : decode cX9_were 143 = .ok (.goto 5, 3) := by decide +kernel
theorem dX9_were_146 : decode cX9_were 146 = .ok (.iload 6, 2) := by decide +kernel
theorem dX9_were_148 : decode cX9_were 148 = .ok (.ireturn, 1) := by decide +kernel
theorem dX9_reading_0 : decode cX9_reading 0 = .ok (.aload_n 0, 1) := by decide +kernel
theorem dX9_reading_1 : decode cX9_reading 1 = .ok (.iload_n 1, 1) := by decide +kernel
theorem dX9_reading_2 : decode cX9_reading 2 = .ok (.invokevirtual 120, 3) := by decide +kernel
theorem dX9_reading_5 : decode cX9_reading 5 = .ok (.ifCond .ne 5, 3) := by decide +kernel
theorem dX9_reading_8 : decode cX9_reading 8 = .ok (.iconst (-1), 1) := by decide +kernel
theorem dX9_reading_9 : decode cX9_reading 9 = .ok (.ireturn, 1) := by decide +kernel
theorem dX9_reading_10 : decode cX9_reading 10 = .ok (.iload_n 2, 1) := by decide +kernel
theorem dX9_reading_11 : decode cX9_reading 11 = .ok (.iconst 0, 1) := by decide +kernel
theorem dX9_reading_12 : decode cX9_reading 12 = .ok (.bipush 18, 2) := by decide +kernel
theorem dX9_reading_14 : decode cX9_reading 14 = .ok (.invokestatic 58, 3) := by decide +kernel
theorem dX9_reading_17 : decode cX9_reading 17 = .ok (.ifCond .eq 12, 3) := by decide +kernel
theorem dX9_reading_20 : decode cX9_reading 20 = .ok (.iload_n 3, 1) := by decide +kernel
theorem dX9_reading_21 : decode cX9_reading 21 = .ok (.iconst 0, 1) := by decide +kernel
theorem dX9_reading_22 : decode cX9_reading 22 = .ok (.iconst 1, 1) := by decide +kernel
theorem dX9_reading_23 : decode cX9_reading 23 = .ok (.invokestatic 58, 3) := by decide +kernel
theorem dX9_reading_26 : decode cX9_reading 26 = .ok (.ifCond .ne 6, 3) := by decide +kernel
theorem dX9_reading_29 : decode cX9_reading 29 = .ok (.bipush (-2), 2) := by decide +kernel
theorem dX9_reading_31 : decode cX9_reading 31 = .ok (.ireturn, 1) := by decide +kernel
theorem dX9_reading_32 : decode cX9_reading 32 = .ok (.aload_n 0, 1) := by decide +kernel
theorem dX9_reading_33 : decode cX9_reading 33 = .ok (.getfield 104, 3) := by decide +kernel
theorem dX9_reading_36 : decode cX9_reading 36 = .ok (.bipush 8, 2) := by decide +kernel
theorem dX9_reading_38 : decode cX9_reading 38 = .ok (.if_icmp .ne 6, 3) := by decide +kernel
theorem dX9_reading_41 : decode cX9_reading 41 = .ok (.bipush (-4), 2) := by decide +kernel
theorem dX9_reading_43 : decode cX9_reading 43 = .ok (.ireturn, 1) := by decide +kernel
theorem dX9_reading_44 : decode cX9_reading 44 = .ok (.aload_n 0, 1) := by decide +kernel
theorem dX9_reading_45 : decode cX9_reading 45 = .ok (.getfield 43, 3) := by decide +kernel
theorem dX9_reading_48 : decode cX9_reading 48 = .ok (.aload_n 0, 1) := by decide +kernel
theorem dX9_reading_49 : decode cX9_reading 49 = .ok (.getfield 104, 3) := by decide +kernel
theorem dX9_reading_52 : decode cX9_reading 52 = .ok (.iload_n 1, 1) := by decide +kernel
theorem dX9_reading_53 : decode cX9_reading 53 = .ok (.iastore, 1) := by decide +kernel
theorem dX9_reading_54 : decode cX9_reading 54 = .ok (.aload_n 0, 1) := by decide +kernel
theorem dX9_reading_55 : decode cX9_reading 55 = .ok (.getfield 46, 3) := by decide +kernel
theorem dX9_reading_58 : decode cX9_reading 58 = .ok (.aload_n 0, 1) := by decide +kernel
theorem dX9_reading_59 : decode cX9_reading 59 = .ok (.getfield 104, 3) := by decide +kernel
theorem dX9_reading_62 : decode cX9_reading 62 = .ok (.iload_n 2, 1) := by decide +kernel
theorem dX9_reading_63 : decode cX9_reading 63 = .ok (.iastore, 1) := by decide +kernel
theorem dX9_reading_64 : decode cX9_reading 64 = .ok (.aload_n 0, 1) := by decide +kernel
theorem dX9_reading_65 : decode cX9_reading 65 = .ok (.getfield 49, 3) := by decide +kernel
theorem dX9_reading_68 : decode cX9_reading 68 = .ok (.aload_n 0, 1) := by decide +kernel
theorem dX9_reading_69 : decode cX9_reading 69 = .ok (.getfield 104, 3) := by decide +kernel
theorem dX9_reading_72 : decode cX9_reading 72 = .ok (.iload_n 3, 1) := by decide +kernel
theorem dX9_reading_73 : decode cX9_reading 73 = .ok (.iastore, 1) := by decide +kernel
theorem dX9_reading_74 : decode cX9_reading 74 = .ok (.aload_n 0, 1) := by decide +kernel
theorem dX9_reading_75 : decode cX9_reading 75 = .ok (.dup, 1) := by decide +kernel
theorem dX9_reading_76 : decode cX9_reading 76 = .ok (.getfield 104, 3) := by decide +kernel
theorem dX9_reading_79 : decode cX9_reading 79 = .ok (.iconst 1, 1) := by decide +kernel
theorem dX9_reading_80 : decode cX9_reading 80 = .ok (.iadd, 1) := by decide +kernel
theorem dX9_reading_81 : decode cX9_reading 81 = .ok (.putfield 104, 3) := by decide +kernel
theorem dX9_reading_84 : decode cX9_reading 84 = .ok (.aload_n 0, 1) := by decide +kernel
theorem dX9_reading_85 : decode cX9_reading 85 = .ok (.getfield 104, 3) := by decide +kernel
theorem dX9_reading_88 : decode cX9_reading 88 = .ok (.iconst 1, 1) := by decide +kernel
theorem dX9_reading_89 : decode cX9_reading 89 = .ok (.isub, 1) := by decide +kernel
theorem dX9_reading_90 : decode cX9_reading 90 = .ok (.ireturn, 1) := by decide +kernel
theorem dX9_back_0 : decode cX9_back 0 = .ok (.iload_n 1, 1) := by decide +kernel
theorem dX9_back_1 : decode cX9_back 1 = .ok (.iconst 0, 1) := by decide +kernel
theorem dX9_back_2 : decode cX9_back 2 = .ok (.aload_n 0, 1) := by decide +kernel
theorem dX9_back_3 : decode cX9_back 3 = .ok (.getfield 104, 3) := by decide +kernel
theorem dX9_back_6 : decode cX9_back 6 = .ok (.invokestatic 58, 3) := by decide +kernel
theorem dX9_back_9 : decode cX9_back 9 = .ok (.ifCond .ne 6, 3) := by decide +kernel
theorem dX9_back_12 : decode cX9_back 12 = .ok (.bipush (-2), 2) := by decide +kernel
theorem dX9_back_14 : decode cX9_back 14 = .ok (.ireturn, 1) := by decide +kernel
theorem dX9_back_15 : decode cX9_back 15 = .ok (.aload_n 0, 1) := by decide +kernel
theorem dX9_back_16 : decode cX9_back 16 = .ok (.dup, 1) := by decide +kernel
theorem dX9_back_17 : decode cX9_back 17 = .ok (.getfield 104, 3) := by decide +kernel
theorem dX9_back_20 : decode cX9_back 20 = .ok (.iload_n 1, 1) := by decide +kernel
theorem dX9_back_21 : decode cX9_back 21 = .ok (.isub, 1) := by decide +kernel
theorem dX9_back_22 : decode cX9_back 22 = .ok (.putfield 104, 3) := by decide +kernel
theorem dX9_back_25 : decode cX9_back 25 = .ok (.aload_n 0, 1) := by decide +kernel
theorem dX9_back_26 : decode cX9_back 26 = .ok (.getfield 104, 3) := by decide +kernel
theorem dX9_back_29 : decode cX9_back 29 = .ok (.ireturn, 1) := by decide +kernel
theorem dX9_areSo_0 : decode cX9_areSo 0 = .ok (.iconst 0, 1) := by decide +kernel
theorem dX9_areSo_1 : decode cX9_areSo 1 = .ok (.istore_n 1, 1) := by decide +kernel
theorem dX9_areSo_2 : decode cX9_areSo 2 = .ok (.iload_n 1, 1) := by decide +kernel
theorem dX9_areSo_3 : decode cX9_areSo 3 = .ok (.aload_n 0, 1) := by decide +kernel
theorem dX9_areSo_4 : decode cX9_areSo 4 = .ok (.getfield 104, 3) := by decide +kernel
theorem dX9_areSo_7 : decode cX9_areSo 7 = .ok (.if_icmp .ge 46, 3) := by decide +kernel
theorem dX9_areSo_10 : decode cX9_areSo 10 = .ok (.aload_n 0, 1) := by decide +kernel
theorem dX9_areSo_11 : decode cX9_areSo 11 = .ok (.aload_n 0, 1) := by decide +kernel
theorem dX9_areSo_12 : decode cX9_areSo 12 = .ok (.getfield 43, 3) := by decide +kernel
theorem dX9_areSo_15 : decode cX9_areSo 15 = .ok (.iload_n 1, 1) := by decide +kernel
theorem dX9_areSo_16 : decode cX9_areSo 16 = .ok (.iaload, 1) := by decide +kernel
theorem dX9_areSo_17 : decode cX9_areSo 17 = .ok (.invokevirtual 123, 3) := by decide +kernel
theorem dX9_areSo_20 : decode cX9_areSo 20 = .ok (.aload_n 0, 1) := by decide +kernel
theorem dX9_areSo_21 : decode cX9_areSo 21 = .ok (.getfield 46, 3) := by decide +kernel
theorem dX9_areSo_24 : decode cX9_areSo 24 = .ok (.iload_n 1, 1) := by decide +kernel
theorem dX9_areSo_25 : decode cX9_areSo 25 = .ok (.iaload, 1) := by decide +kernel
theorem dX9_areSo_26 : decode cX9_areSo 26 = .ok (.if_icmp .le 7, 3) := by decide +kernel
theorem dX9_areSo_29 : decode cX9_areSo 29 = .ok (.iconst 1, 1) := by decide +kernel
theorem dX9_areSo_30 : decode cX9_areSo 30 = .ok (.goto 4, 3) := by decide +kernel
theorem dX9_areSo_33 : decode cX9_areSo 33 = .ok (.iconst 0, 1) := by decide +kernel
theorem dX9_areSo_34 : decode cX9_areSo 34 = .ok (.istore_n 2, 1) := by decide +kernel
theorem dX9_areSo_35 : decode cX9_areSo 35 = .ok (.iload_n 2, 1) := by decide +kernel
theorem dX9_areSo_36 : decode cX9_areSo 36 = .ok (.aload_n 0, 1) := by decide +kernel
theorem dX9_areSo_37 : decode cX9_areSo 37 = .ok (.getfield 49, 3) := by decide +kernel
theorem dX9_areSo_40 : decode cX9_areSo 40 = .ok (.iload_n 1, 1) := by decide +kernel
theorem dX9_areSo_41 : decode cX9_areSo 41 = .ok (.iaload, 1) := by decide +kernel
theorem dX9_areSo_42 : decode cX9_areSo 42 = .ok (.if_icmp .eq 5, 3) := by decide +kernel
theorem dX9_areSo_45 : decode cX9_areSo 45 = .ok (.iconst 0, 1) := by decide +kernel
theorem dX9_areSo_46 : decode cX9_areSo 46 = .ok (.ireturn, 1) := by decide +kernel
theorem dX9_areSo_47 : decode cX9_areSo 47 = .ok (.iinc 1 1, 3) := by decide +kernel
theorem dX9_areSo_50 : decode cX9_areSo 50 = .ok (.goto (-48), 3) := by decide +kernel
theorem dX9_areSo_53 : decode cX9_areSo 53 = .ok (.iconst 1, 1) := by decide +kernel
theorem dX9_areSo_54 : decode cX9_areSo 54 = .ok (.ireturn, 1) := by decide +kernel
theorem dX9_hastes_0 : decode cX9_hastes 0 = .ok (.aload_n 0, 1) := by decide +kernel
theorem dX9_hastes_1 : decode cX9_hastes 1 = .ok (.iload_n 1, 1) := by decide +kernel
theorem dX9_hastes_2 : decode cX9_hastes 2 = .ok (.invokevirtual 120, 3) := by decide +kernel
theorem dX9_hastes_5 : decode cX9_hastes 5 = .ok (.ifCond .ne 5, 3) := by decide +kernel
theorem dX9_hastes_8 : decode cX9_hastes 8 = .ok (.iconst (-1), 1) := by decide +kernel
theorem dX9_hastes_9 : decode cX9_hastes 9 = .ok (.ireturn, 1) := by decide +kernel
theorem dX9_hastes_10 : decode cX9_hastes 10 = .ok (.aload_n 0, 1) := by decide +kernel
theorem dX9_hastes_11 : decode cX9_hastes 11 = .ok (.getfield 22, 3) := by decide +kernel
theorem dX9_hastes_14 : decode cX9_hastes 14 = .ok (.iload_n 1, 1) := by decide +kernel
theorem dX9_hastes_15 : decode cX9_hastes 15 = .ok (.iaload, 1) := by decide +kernel
theorem dX9_hastes_16 : decode cX9_hastes 16 = .ok (.istore_n 2, 1) := by decide +kernel
theorem dX9_hastes_17 : decode cX9_hastes 17 = .ok (.iconst 0, 1) := by decide +kernel
theorem dX9_hastes_18 : decode cX9_hastes 18 = .ok (.istore_n 3, 1) := by decide +kernel
theorem dX9_hastes_19 : decode cX9_hastes 19 = .ok (.iconst 0, 1) := by decide +kernel
theorem dX9_hastes_20 : decode cX9_hastes 20 = .ok (.istore 4, 2) := by decide +kernel
theorem dX9_hastes_22 : decode cX9_hastes 22 = .ok (.iload 4, 2) := by decide +kernel
theorem dX9_hastes_24 : decode cX9_hastes 24 = .ok (.bipush 9, 2) := by decide +kernel
theorem dX9_hastes_26 : decode cX9_hastes 26 = .ok (.if_icmp .gt 35, 3) := by decide +kernel
theorem dX9_hastes_29 : decode cX9_hastes 29 = .ok (.aload_n 0, 1) := by decide +kernel
theorem dX9_hastes_30 : decode cX9_hastes 30 = .ok (.getfield 22, 3) := by decide +kernel
theorem dX9_hastes_33 : decode cX9_hastes 33 = .ok (.iload_n 1, 1) := by decide +kernel
theorem dX9_hastes_34 : decode cX9_hastes 34 = .ok (.iload 4, 2) := by decide +kernel
theorem dX9_hastes_36 : decode cX9_hastes 36 = .ok (.iastore, 1) := by decide +kernel
theorem dX9_hastes_37 : decode cX9_hastes 37 = .ok (.iload_n 3, 1) := by decide +kernel
theorem dX9_hastes_38 : decode cX9_hastes 38 = .ok (.aload_n 0, 1) := by decide +kernel
theorem dX9_hastes_39 : decode cX9_hastes 39 = .ok (.invokevirtual 180, 3) := by decide +kernel
theorem dX9_hastes_42 : decode cX9_hastes 42 = .ok (.ifCond .eq 10, 3) := by decide +kernel
theorem dX9_hastes_45 : decode cX9_hastes 45 = .ok (.iconst 1, 1) := by decide +kernel
theorem dX9_hastes_46 : decode cX9_hastes 46 = .ok (.iload 4, 2) := by decide +kernel
theorem dX9_hastes_48 : decode cX9_hastes 48 = .ok (.ishl, 1) := by decide +kernel
theorem dX9_hastes_49 : decode cX9_hastes 49 = .ok (.goto 4, 3) := by decide +kernel
theorem dX9_hastes_52 : decode cX9_hastes 52 = .ok (.iconst 0, 1) := by decide +kernel
theorem dX9_hastes_53 : decode cX9_hastes 53 = .ok (.ior, 1) := by decide +kernel
theorem dX9_hastes_54 : decode cX9_hastes 54 = .ok (.istore_n 3, 1) := by decide +kernel
theorem dX9_hastes_55 : decode cX9_hastes 55 = .ok (.iinc 4 1, 3) := by decide +kernel
theorem dX9_hastes_58 : decode cX9_hastes 58 = .ok (.goto (-36), 3) := by decide +kernel
theorem dX9_hastes_61 : decode cX9_hastes 61 = .ok (.aload_n 0, 1) := by decide +kernel
theorem dX9_hastes_62 : decode cX9_hastes 62 = .ok (.getfield 22, 3) := by decide +kernel
theorem dX9_hastes_65 : decode cX9_hastes 65 = .ok (.iload_n 1, 1) := by decide +kernel
theorem dX9_hastes_66 : decode cX9_hastes 66 = .ok (.iload_n 2, 1) := by decide +kernel
theorem dX9_hastes_67 : decode cX9_hastes 67 = .ok (.iastore, 1) := by decide +kernel
theorem dX9_hastes_68 : decode cX9_hastes 68 = .ok (.iload_n 3, 1) := by decide +kernel
theorem dX9_hastes_69 : decode cX9_hastes 69 = .ok (.ireturn, 1) := by decide +kernel
theorem dX9_rooms_0 : decode cX9_rooms 0 = .ok (.aload_n 0, 1) := by decide +kernel
theorem dX9_rooms_1 : decode cX9_rooms 1 = .ok (.iload_n 1, 1) := by decide +kernel
theorem dX9_rooms_2 : decode cX9_rooms 2 = .ok (.invokevirtual 120, 3) := by decide +kernel
theorem dX9_rooms_5 : decode cX9_rooms 5 = .ok (.ifCond .ne 5, 3) := by decide +kernel
theorem dX9_rooms_8 : decode cX9_rooms 8 = .ok (.iconst (-1), 1) := by decide +kernel
theorem dX9_rooms_9 : decode cX9_rooms 9 = .ok (.ireturn, 1) := by decide +kernel
theorem dX9_rooms_10 : decode cX9_rooms 10 = .ok (.aload_n 0, 1) := by decide +kernel
theorem dX9_rooms_11 : decode cX9_rooms 11 = .ok (.getfield 25, 3) := by decide +kernel
theorem dX9_rooms_14 : decode cX9_rooms 14 = .ok (.iload_n 1, 1) := by decide +kernel
theorem dX9_rooms_15 : decode cX9_rooms 15 = .ok (.iaload, 1) := by decide +kernel
theorem dX9_rooms_16 : decode cX9_rooms 16 = .ok (.istore_n 2, 1) := by decide +kernel
theorem dX9_rooms_17 : decode cX9_rooms 17 = .ok (.iconst 0, 1) := by decide +kernel
theorem dX9_rooms_18 : decode cX9_rooms 18 = .ok (.istore_n 3, 1) := by decide +kernel
theorem dX9_rooms_19 : decode cX9_rooms 19 = .ok (.iconst 0, 1) := by decide +kernel
theorem dX9_rooms_20 : decode cX9_rooms 20 = .ok (.istore 4, 2) := by decide +kernel
theorem dX9_rooms_22 : decode cX9_rooms 22 = .ok (.iload 4, 2) := by decide +kernel
theorem dX9_rooms_24 : decode cX9_rooms 24 = .ok (.bipush 9, 2) := by decide +kernel
theorem dX9_rooms_26 : decode cX9_rooms 26 = .ok (.if_icmp .gt 35, 3) := by decide +kernel
theorem dX9_rooms_29 : decode cX9_rooms 29 = .ok (.aload_n 0, 1) := by decide +kernel
theorem dX9_rooms_30 : decode cX9_rooms 30 = .ok (.getfield 25, 3) := by decide +kernel
theorem dX9_rooms_33 : decode cX9_rooms 33 = .ok (.iload_n 1, 1) := by decide +kernel
theorem dX9_rooms_34 : decode cX9_rooms 34 = .ok (.iload 4, 2) := by decide +kernel
theorem dX9_rooms_36 : decode cX9_rooms 36 = .ok (.iastore, 1) := by decide +kernel
theorem dX9_rooms_37 : decode cX9_rooms 37 = .ok (.iload_n 3, 1) := by decide +kernel
theorem dX9_rooms_38 : decode cX9_rooms 38 = .ok (.aload_n 0, 1) := by decide +kernel
theorem dX9_rooms_39 : decode cX9_rooms 39 = .ok (.invokevirtual 180, 3) := by decide +kernel
theorem dX9_rooms_42 : decode cX9_rooms 42 = .ok (.ifCond .eq 10, 3) := by decide +kernel
theorem dX9_rooms_45 : decode cX9_rooms 45 = .ok (.iconst 1, 1) := by decide +kernel
theorem dX9_rooms_46 : decode cX9_rooms 46 = .ok (.iload 4, 2) := by decide +kernel
theorem dX9_rooms_48 : decode cX9_rooms 48 = .ok (.ishl, 1) := by decide +kernel
theorem dX9_rooms_49 : decode cX9_rooms 49 = .ok (.goto 4, 3) := by decide +kernel
theorem dX9_rooms_52 : decode cX9_rooms 52 = .ok (.iconst 0, 1) := by decide +kernel
theorem dX9_rooms_53 : decode cX9_rooms 53 = .ok (.ior, 1) := by decide +kernel
theorem dX9_rooms_54 : decode cX9_rooms 54 = .ok (.istore_n 3, 1) := by decide +kernel
theorem dX9_rooms_55 : decode cX9_rooms 55 = .ok (.iinc 4 1, 3) := by decide +kernel
theorem dX9_rooms_58 : decode cX9_rooms 58 = .ok (.goto (-36), 3) := by decide +kernel
theorem dX9_rooms_61 : decode cX9_rooms 61 = .ok (.aload_n 0, 1) := by decide +kernel
theorem dX9_rooms_62 : decode cX9_rooms 62 = .ok (.getfield 25, 3) := by decide +kernel
theorem dX9_rooms_65 : decode cX9_rooms 65 = .ok (.iload_n 1, 1) := by decide +kernel
theorem dX9_rooms_66 : decode cX9_rooms 66 = .ok (.iload_n 2, 1) := by decide +kernel
theorem dX9_rooms_67 : decode cX9_rooms 67 = .ok (.iastore, 1) := by decide +kernel
theorem dX9_rooms_68 : decode cX9_rooms 68 = .ok (.iload_n 3, 1) := by decide +kernel
theorem dX9_rooms_69 : decode cX9_rooms 69 = .ok (.ireturn, 1) := by decide +kernel
theorem dX9_kinds_0 : decode cX9_kinds 0 = .ok (.aload_n 0, 1) := by decide +kernel
theorem dX9_kinds_1 : decode cX9_kinds 1 = .ok (.iload_n 1, 1) := by decide +kernel
theorem dX9_kinds_2 : decode cX9_kinds 2 = .ok (.invokevirtual 120, 3) := by decide +kernel
theorem dX9_kinds_5 : decode cX9_kinds 5 = .ok (.ifCond .ne 5, 3) := by decide +kernel
theorem dX9_kinds_8 : decode cX9_kinds 8 = .ok (.iconst (-1), 1) := by decide +kernel
theorem dX9_kinds_9 : decode cX9_kinds 9 = .ok (.ireturn, 1) := by decide +kernel
theorem dX9_kinds_10 : decode cX9_kinds 10 = .ok (.aload_n 0, 1) := by decide +kernel
theorem dX9_kinds_11 : decode cX9_kinds 11 = .ok (.getfield 19, 3) := by decide +kernel
theorem dX9_kinds_14 : decode cX9_kinds 14 = .ok (.iload_n 1, 1) := by decide +kernel
theorem dX9_kinds_15 : decode cX9_kinds 15 = .ok (.iaload, 1) := by decide +kernel
theorem dX9_kinds_16 : decode cX9_kinds 16 = .ok (.istore_n 2, 1) := by decide +kernel
theorem dX9_kinds_17 : decode cX9_kinds 17 = .ok (.iconst 0, 1) := by decide +kernel
theorem dX9_kinds_18 : decode cX9_kinds 18 = .ok (.istore_n 3, 1) := by decide +kernel
theorem dX9_kinds_19 : decode cX9_kinds 19 = .ok (.iconst 0, 1) := by decide +kernel
theorem dX9_kinds_20 : decode cX9_kinds 20 = .ok (.istore 4, 2) := by decide +kernel
theorem dX9_kinds_22 : decode cX9_kinds 22 = .ok (.iload 4, 2) := by decide +kernel
theorem dX9_kinds_24 : decode cX9_kinds 24 = .ok (.iconst 3, 1) := by decide +kernel
theorem dX9_kinds_25 : decode cX9_kinds 25 = .ok (.if_icmp .ge 35, 3) := by decide +kernel
theorem dX9_kinds_28 : decode cX9_kinds 28 = .ok (.aload_n 0, 1) := by decide +kernel
theorem dX9_kinds_29 : decode cX9_kinds 29 = .ok (.getfield 19, 3) := by decide +kernel
theorem dX9_kinds_32 : decode cX9_kinds 32 = .ok (.iload_n 1, 1) := by decide +kernel
theorem dX9_kinds_33 : decode cX9_kinds 33 = .ok (.iload 4, 2) := by decide +kernel
theorem dX9_kinds_35 : decode cX9_kinds 35 = .ok (.iastore, 1) := by decide +kernel
theorem dX9_kinds_36 : decode cX9_kinds 36 = .ok (.iload_n 3, 1) := by decide +kernel
theorem dX9_kinds_37 : decode cX9_kinds 37 = .ok (.aload_n 0, 1) := by decide +kernel
theorem dX9_kinds_38 : decode cX9_kinds 38 = .ok (.invokevirtual 180, 3) := by decide +kernel
theorem dX9_kinds_41 : decode cX9_kinds 41 = .ok (.ifCond .eq 10, 3) := by decide +kernel
theorem dX9_kinds_44 : decode cX9_kinds 44 = .ok (.iconst 1, 1) := by decide +kernel
theorem dX9_kinds_45 : decode cX9_kinds 45 = .ok (.iload 4, 2) := by decide +kernel
theorem dX9_kinds_47 : decode cX9_kinds 47 = .ok (.ishl, 1) := by decide +kernel
theorem dX9_kinds_48 : decode cX9_kinds 48 = .ok (.goto 4, 3) := by decide +kernel
theorem dX9_kinds_51 : decode cX9_kinds 51 = .ok (.iconst 0, 1) := by decide +kernel
theorem dX9_kinds_52 : decode cX9_kinds 52 = .ok (.ior, 1) := by decide +kernel
theorem dX9_kinds_53 : decode cX9_kinds 53 = .ok (.istore_n 3, 1) := by decide +kernel
theorem dX9_kinds_54 : decode cX9_kinds 54 = .ok (.iinc 4 1, 3) := by decide +kernel
theorem dX9_kinds_57 : decode cX9_kinds 57 = .ok (.goto (-35), 3) := by decide +kernel
theorem dX9_kinds_60 : decode cX9_kinds 60 = .ok (.aload_n 0, 1) := by decide +kernel
theorem dX9_kinds_61 : decode cX9_kinds 61 = .ok (.getfield 19, 3) := by decide +kernel
theorem dX9_kinds_64 : decode cX9_kinds 64 = .ok (.iload_n 1, 1) := by decide +kernel
theorem dX9_kinds_65 : decode cX9_kinds 65 = .ok (.iload_n 2, 1) := by decide +kernel
theorem dX9_kinds_66 : decode cX9_kinds 66 = .ok (.iastore, 1) := by decide +kernel
theorem dX9_kinds_67 : decode cX9_kinds 67 = .ok (.iload_n 3, 1) := by decide +kernel
theorem dX9_kinds_68 : decode cX9_kinds 68 = .ok (.ireturn, 1) := by decide +kernel
theorem dX9_inLeastTerms_0 : decode cX9_inLeastTerms 0 = .ok (.lload_n 0, 1) := by decide +kernel
theorem dX9_inLeastTerms_1 : decode cX9_inLeastTerms 1 = .ok (.lstore 5, 2) := by decide +kernel
theorem dX9_inLeastTerms_3 : decode cX9_inLeastTerms 3 = .ok (.lload_n 2, 1) := by decide +kernel
theorem dX9_inLeastTerms_4 : decode cX9_inLeastTerms 4 = .ok (.lstore 7, 2) := by decide +kernel
theorem dX9_inLeastTerms_6 : decode cX9_inLeastTerms 6 = .ok (.lload 7, 2) := by decide +kernel
theorem dX9_inLeastTerms_8 : decode cX9_inLeastTerms 8 = .ok (.lconst 0, 1) := by decide +kernel
theorem dX9_inLeastTerms_9 : decode cX9_inLeastTerms 9 = .ok (.lcmp, 1) := by decide +kernel
theorem dX9_inLeastTerms_10 : decode cX9_inLeastTerms 10 = .ok (.ifCond .eq 21, 3) := by decide +kernel
theorem dX9_inLeastTerms_13 : decode cX9_inLeastTerms 13 = .ok (.lload 5, 2) := by decide +kernel
theorem dX9_inLeastTerms_15 : decode cX9_inLeastTerms 15 = .ok (.lload 7, 2) := by decide +kernel
theorem dX9_inLeastTerms_17 : decode cX9_inLeastTerms 17 = .ok (.lrem, 1) := by decide +kernel
theorem dX9_inLeastTerms_18 : decode cX9_inLeastTerms 18 = .ok (.lstore 9, 2) := by decide +kernel
theorem dX9_inLeastTerms_20 : decode cX9_inLeastTerms 20 = .ok (.lload 7, 2) := by decide +kernel
theorem dX9_inLeastTerms_22 : decode cX9_inLeastTerms 22 = .ok (.lstore 5, 2) := by decide +kernel
theorem dX9_inLeastTerms_24 : decode cX9_inLeastTerms 24 = .ok (.lload 9, 2) := by decide +kernel
theorem dX9_inLeastTerms_26 : decode cX9_inLeastTerms 26 = .ok (.lstore 7, 2) := by decide +kernel
theorem dX9_inLeastTerms_28 : decode cX9_inLeastTerms 28 = .ok (.goto (-22), 3) := by decide +kernel
theorem dX9_inLeastTerms_31 : decode cX9_inLeastTerms 31 = .ok (.iload 4, 2) := by decide +kernel
theorem dX9_inLeastTerms_33 : decode cX9_inLeastTerms 33 = .ok (.ifCond .ne 10, 3) := by decide +kernel
theorem dX9_inLeastTerms_36 : decode cX9_inLeastTerms 36 = .ok (.lload_n 0, 1) := by decide +kernel
theorem dX9_inLeastTerms_37 : decode cX9_inLeastTerms 37 = .ok (.lload 5, 2) := by decide +kernel
theorem dX9_inLeastTerms_39 : decode cX9_inLeastTerms 39 = .ok (.ldiv, 1) := by decide +kernel
theorem dX9_inLeastTerms_40 : decode cX9_inLeastTerms 40 = .ok (.goto 7, 3) := by decide +kernel
theorem dX9_inLeastTerms_43 : decode cX9_inLeastTerms 43 = .ok (.lload_n 2, 1) := by decide +kernel
theorem dX9_inLeastTerms_44 : decode cX9_inLeastTerms 44 = .ok (.lload 5, 2) := by decide +kernel
theorem dX9_inLeastTerms_46 : decode cX9_inLeastTerms 46 = .ok (.ldiv, 1) := by decide +kernel
theorem dX9_inLeastTerms_47 : decode cX9_inLeastTerms 47 = .ok (.lreturn, 1) := by decide +kernel
theorem dX9_odds_0 : decode cX9_odds 0 = .ok (.aload_n 0, 1) := by decide +kernel
theorem dX9_odds_1 : decode cX9_odds 1 = .ok (.iload_n 1, 1) := by decide +kernel
theorem dX9_odds_2 : decode cX9_odds 2 = .ok (.invokevirtual 120, 3) := by decide +kernel
theorem dX9_odds_5 : decode cX9_odds 5 = .ok (.ifCond .eq 12, 3) := by decide +kernel
theorem dX9_odds_8 : decode cX9_odds 8 = .ok (.iload_n 2, 1) := by decide +kernel
theorem dX9_odds_9 : decode cX9_odds 9 = .ok (.iconst 0, 1) := by decide +kernel
theorem dX9_odds_10 : decode cX9_odds 10 = .ok (.iconst 1, 1) := by decide +kernel
theorem dX9_odds_11 : decode cX9_odds 11 = .ok (.invokestatic 58, 3) := by decide +kernel
theorem dX9_odds_14 : decode cX9_odds 14 = .ok (.ifCond .ne 7, 3) := by decide +kernel
theorem dX9_odds_17 : decode cX9_odds 17 = .ok (.ldc2_w 56, 3) := by decide +kernel
theorem dX9_odds_20 : decode cX9_odds 20 = .ok (.lreturn, 1) := by decide +kernel
theorem dX9_odds_21 : decode cX9_odds 21 = .ok (.iconst 0, 1) := by decide +kernel
theorem dX9_odds_22 : decode cX9_odds 22 = .ok (.istore_n 3, 1) := by decide +kernel
theorem dX9_odds_23 : decode cX9_odds 23 = .ok (.iconst 1, 1) := by decide +kernel
theorem dX9_odds_24 : decode cX9_odds 24 = .ok (.istore 4, 2) := by decide +kernel
theorem dX9_odds_26 : decode cX9_odds 26 = .ok (.iload 4, 2) := by decide +kernel
theorem dX9_odds_28 : decode cX9_odds 28 = .ok (.iconst 1, 1) := by decide +kernel
theorem dX9_odds_29 : decode cX9_odds 29 = .ok (.aload_n 0, 1) := by decide +kernel
theorem dX9_odds_30 : decode cX9_odds 30 = .ok (.getfield 62, 3) := by decide +kernel
theorem dX9_odds_33 : decode cX9_odds 33 = .ok (.ishl, 1) := by decide +kernel
theorem dX9_odds_34 : decode cX9_odds 34 = .ok (.if_icmp .ge 27, 3) := by decide +kernel
theorem dX9_odds_37 : decode cX9_odds 37 = .ok (.iload_n 3, 1) := by decide +kernel
theorem dX9_odds_38 : decode cX9_odds 38 = .ok (.aload_n 0, 1) := by decide +kernel
theorem dX9_odds_39 : decode cX9_odds 39 = .ok (.iload 4, 2) := by decide +kernel
theorem dX9_odds_41 : decode cX9_odds 41 = .ok (.invokevirtual 145, 3) := by decide +kernel
theorem dX9_odds_44 : decode cX9_odds 44 = .ok (.iload_n 1, 1) := by decide +kernel
theorem dX9_odds_45 : decode cX9_odds 45 = .ok (.if_icmp .ne 7, 3) := by decide +kernel
theorem dX9_odds_48 : decode cX9_odds 48 = .ok (.iconst 1, 1) := by decide +kernel
theorem dX9_odds_49 : decode cX9_odds 49 = .ok (.goto 4, 3) := by decide +kernel
theorem dX9_odds_52 : decode cX9_odds 52 = .ok (.iconst 0, 1) := by decide +kernel
theorem dX9_odds_53 : decode cX9_odds 53 = .ok (.iadd, 1) := by decide +kernel
theorem dX9_odds_54 : decode cX9_odds 54 = .ok (.istore_n 3, 1) := by decide +kernel
theorem dX9_odds_55 : decode cX9_odds 55 = .ok (.iinc 4 1, 3) := by decide +kernel
theorem dX9_odds_58 : decode cX9_odds 58 = .ok (.goto (-32), 3) := by decide +kernel
theorem dX9_odds_61 : decode cX9_odds 61 = .ok (.iload_n 3, 1) := by decide +kernel
theorem dX9_odds_62 : decode cX9_odds 62 = .ok (.i2l, 1) := by decide +kernel
theorem dX9_odds_63 : decode cX9_odds 63 = .ok (.lconst 1, 1) := by decide +kernel
theorem dX9_odds_64 : decode cX9_odds 64 = .ok (.aload_n 0, 1) := by decide +kernel
theorem dX9_odds_65 : decode cX9_odds 65 = .ok (.getfield 62, 3) := by decide +kernel
theorem dX9_odds_68 : decode cX9_odds 68 = .ok (.lshl, 1) := by decide +kernel
theorem dX9_odds_69 : decode cX9_odds 69 = .ok (.iload_n 2, 1) := by decide +kernel
theorem dX9_odds_70 : decode cX9_odds 70 = .ok (.invokestatic 184, 3) := by decide +kernel
theorem dX9_odds_73 : decode cX9_odds 73 = .ok (.lreturn, 1) := by decide +kernel
theorem dX9_sheet_0 : decode cX9_sheet 0 = .ok (.aload_n 0, 1) := by decide +kernel
theorem dX9_sheet_1 : decode cX9_sheet 1 = .ok (.iconst 0, 1) := by decide +kernel
theorem dX9_sheet_2 : decode cX9_sheet 2 = .ok (.putfield 52, 3) := by decide +kernel
theorem dX9_sheet_5 : decode cX9_sheet 5 = .ok (.iload_n 1, 1) := by decide +kernel
theorem dX9_sheet_6 : decode cX9_sheet 6 = .ok (.invokestatic 68, 3) := by decide +kernel
theorem dX9_sheet_9 : decode cX9_sheet 9 = .ok (.ifCond .ne 5, 3) := by decide +kernel
theorem dX9_sheet_12 : decode cX9_sheet 12 = .ok (.iconst (-1), 1) := by decide +kernel
theorem dX9_sheet_13 : decode cX9_sheet 13 = .ok (.ireturn, 1) := by decide +kernel
theorem dX9_sheet_14 : decode cX9_sheet 14 = .ok (.iload_n 2, 1) := by decide +kernel
theorem dX9_sheet_15 : decode cX9_sheet 15 = .ok (.invokestatic 72, 3) := by decide +kernel
theorem dX9_sheet_18 : decode cX9_sheet 18 = .ok (.ifCond .eq 9, 3) := by decide +kernel
theorem dX9_sheet_21 : decode cX9_sheet 21 = .ok (.iload_n 3, 1) := by decide +kernel
theorem dX9_sheet_22 : decode cX9_sheet 22 = .ok (.bipush 60, 2) := by decide +kernel
theorem dX9_sheet_24 : decode cX9_sheet 24 = .ok (.if_icmp .le 6, 3) := by decide +kernel
theorem dX9_sheet_27 : decode cX9_sheet 27 = .ok (.bipush (-2), 2) := by decide +kernel
theorem dX9_sheet_29 : decode cX9_sheet 29 = .ok (.ireturn, 1) := by decide +kernel
theorem dX9_sheet_30 : decode cX9_sheet 30 = .ok (.iload_n 3, 1) := by decide +kernel
theorem dX9_sheet_31 : decode cX9_sheet 31 = .ok (.ifCond .ge 9, 3) := by decide +kernel
theorem dX9_sheet_34 : decode cX9_sheet 34 = .ok (.aload_n 0, 1) := by decide +kernel
theorem dX9_sheet_35 : decode cX9_sheet 35 = .ok (.iconst 4, 1) := by decide +kernel
theorem dX9_sheet_36 : decode cX9_sheet 36 = .ok (.invokevirtual 79, 3) := by decide +kernel
theorem dX9_sheet_39 : decode cX9_sheet 39 = .ok (.ireturn, 1) := by decide +kernel
theorem dX9_sheet_40 : decode cX9_sheet 40 = .ok (.aload_n 0, 1) := by decide +kernel
theorem dX9_sheet_41 : decode cX9_sheet 41 = .ok (.getfield 9, 3) := by decide +kernel
theorem dX9_sheet_44 : decode cX9_sheet 44 = .ok (.iload_n 1, 1) := by decide +kernel
theorem dX9_sheet_45 : decode cX9_sheet 45 = .ok (.iload_n 2, 1) := by decide +kernel
theorem dX9_sheet_46 : decode cX9_sheet 46 = .ok (.iastore, 1) := by decide +kernel
theorem dX9_sheet_47 : decode cX9_sheet 47 = .ok (.aload_n 0, 1) := by decide +kernel
theorem dX9_sheet_48 : decode cX9_sheet 48 = .ok (.getfield 13, 3) := by decide +kernel
theorem dX9_sheet_51 : decode cX9_sheet 51 = .ok (.iload_n 1, 1) := by decide +kernel
theorem dX9_sheet_52 : decode cX9_sheet 52 = .ok (.iload_n 3, 1) := by decide +kernel
theorem dX9_sheet_53 : decode cX9_sheet 53 = .ok (.iastore, 1) := by decide +kernel
theorem dX9_sheet_54 : decode cX9_sheet 54 = .ok (.iconst 0, 1) := by decide +kernel
theorem dX9_sheet_55 : decode cX9_sheet 55 = .ok (.istore 4, 2) := by decide +kernel
theorem dX9_sheet_57 : decode cX9_sheet 57 = .ok (.iload 4, 2) := by decide +kernel
theorem dX9_sheet_59 : decode cX9_sheet 59 = .ok (.bipush 60, 2) := by decide +kernel
theorem dX9_sheet_61 : decode cX9_sheet 61 = .ok (.if_icmp .ge 22, 3) := by decide +kernel
theorem dX9_sheet_64 : decode cX9_sheet 64 = .ok (.aload_n 0, 1) := by decide +kernel
theorem dX9_sheet_65 : decode cX9_sheet 65 = .ok (.getfield 16, 3) := by decide +kernel
theorem dX9_sheet_68 : decode cX9_sheet 68 = .ok (.bipush 60, 2) := by decide +kernel
theorem dX9_sheet_70 : decode cX9_sheet 70 = .ok (.iload_n 1, 1) := by decide +kernel
theorem dX9_sheet_71 : decode cX9_sheet 71 = .ok (.imul, 1) := by decide +kernel
theorem dX9_sheet_72 : decode cX9_sheet 72 = .ok (.iload 4, 2) := by decide +kernel
theorem dX9_sheet_74 : decode cX9_sheet 74 = .ok (.iadd, 1) := by decide +kernel
theorem dX9_sheet_75 : decode cX9_sheet 75 = .ok (.iconst 0, 1) := by decide +kernel
theorem dX9_sheet_76 : decode cX9_sheet 76 = .ok (.iastore, 1) := by decide +kernel
theorem dX9_sheet_77 : decode cX9_sheet 77 = .ok (.iinc 4 1, 3) := by decide +kernel
theorem dX9_sheet_80 : decode cX9_sheet 80 = .ok (.goto (-23), 3) := by decide +kernel
theorem dX9_sheet_83 : decode cX9_sheet 83 = .ok (.iconst 1, 1) := by decide +kernel
theorem dX9_sheet_84 : decode cX9_sheet 84 = .ok (.ireturn, 1) := by decide +kernel
theorem dX9_lose_0 : decode cX9_lose 0 = .ok (.iload_n 1, 1) := by decide +kernel
theorem dX9_lose_1 : decode cX9_lose 1 = .ok (.invokestatic 68, 3) := by decide +kernel
theorem dX9_lose_4 : decode cX9_lose 4 = .ok (.ifCond .ne 5, 3) := by decide +kernel
theorem dX9_lose_7 : decode cX9_lose 7 = .ok (.iconst (-1), 1) := by decide +kernel
theorem dX9_lose_8 : decode cX9_lose 8 = .ok (.ireturn, 1) := by decide +kernel
theorem dX9_lose_9 : decode cX9_lose 9 = .ok (.aload_n 0, 1) := by decide +kernel
theorem dX9_lose_10 : decode cX9_lose 10 = .ok (.getfield 9, 3) := by decide +kernel
theorem dX9_lose_13 : decode cX9_lose 13 = .ok (.iload_n 1, 1) := by decide +kernel
theorem dX9_lose_14 : decode cX9_lose 14 = .ok (.iaload, 1) := by decide +kernel
theorem dX9_lose_15 : decode cX9_lose 15 = .ok (.bipush (-9), 2) := by decide +kernel
theorem dX9_lose_17 : decode cX9_lose 17 = .ok (.if_icmp .ne 7, 3) := by decide +kernel
theorem dX9_lose_20 : decode cX9_lose 20 = .ok (.iconst 0, 1) := by decide +kernel
theorem dX9_lose_21 : decode cX9_lose 21 = .ok (.goto 4, 3) := by decide +kernel
theorem dX9_lose_24 : decode cX9_lose 24 = .ok (.iconst 1, 1) := by decide +kernel
theorem dX9_lose_25 : decode cX9_lose 25 = .ok (.istore_n 2, 1) := by decide +kernel
theorem dX9_lose_26 : decode cX9_lose 26 = .ok (.aload_n 0, 1) := by decide +kernel
theorem dX9_lose_27 : decode cX9_lose 27 = .ok (.getfield 9, 3) := by decide +kernel
theorem dX9_lose_30 : decode cX9_lose 30 = .ok (.iload_n 1, 1) := by decide +kernel
theorem dX9_lose_31 : decode cX9_lose 31 = .ok (.bipush (-9), 2) := by decide +kernel
theorem dX9_lose_33 : decode cX9_lose 33 = .ok (.iastore, 1) := by decide +kernel
theorem dX9_lose_34 : decode cX9_lose 34 = .ok (.iload_n 2, 1) := by decide +kernel
theorem dX9_lose_35 : decode cX9_lose 35 = .ok (.ireturn, 1) := by decide +kernel
theorem dX9_put_0 : decode cX9_put 0 = .ok (.aload_n 0, 1) := by decide +kernel
theorem dX9_put_1 : decode cX9_put 1 = .ok (.iconst 0, 1) := by decide +kernel
theorem dX9_put_2 : decode cX9_put 2 = .ok (.putfield 52, 3) := by decide +kernel
theorem dX9_put_5 : decode cX9_put 5 = .ok (.iload_n 1, 1) := by decide +kernel
theorem dX9_put_6 : decode cX9_put 6 = .ok (.invokestatic 68, 3) := by decide +kernel
theorem dX9_put_9 : decode cX9_put 9 = .ok (.ifCond .ne 5, 3) := by decide +kernel
theorem dX9_put_12 : decode cX9_put 12 = .ok (.iconst (-1), 1) := by decide +kernel
theorem dX9_put_13 : decode cX9_put 13 = .ok (.ireturn, 1) := by decide +kernel
theorem dX9_put_14 : decode cX9_put 14 = .ok (.aload_n 0, 1) := by decide +kernel
theorem dX9_put_15 : decode cX9_put 15 = .ok (.getfield 9, 3) := by decide +kernel
theorem dX9_put_18 : decode cX9_put 18 = .ok (.iload_n 1, 1) := by decide +kernel
theorem dX9_put_19 : decode cX9_put 19 = .ok (.iaload, 1) := by decide +kernel
theorem dX9_put_20 : decode cX9_put 20 = .ok (.bipush (-9), 2) := by decide +kernel
theorem dX9_put_22 : decode cX9_put 22 = .ok (.if_icmp .ne 9, 3) := by decide +kernel
theorem dX9_put_25 : decode cX9_put 25 = .ok (.aload_n 0, 1) := by decide +kernel
theorem dX9_put_26 : decode cX9_put 26 = .ok (.iconst 1, 1) := by decide +kernel
theorem dX9_put_27 : decode cX9_put 27 = .ok (.invokevirtual 79, 3) := by decide +kernel
theorem dX9_put_30 : decode cX9_put 30 = .ok (.ireturn, 1) := by decide +kernel
theorem dX9_put_31 : decode cX9_put 31 = .ok (.iload_n 2, 1) := by decide +kernel
theorem dX9_put_32 : decode cX9_put 32 = .ok (.iconst 0, 1) := by decide +kernel
theorem dX9_put_33 : decode cX9_put 33 = .ok (.aload_n 0, 1) := by decide +kernel
theorem dX9_put_34 : decode cX9_put 34 = .ok (.getfield 13, 3) := by decide +kernel
theorem dX9_put_37 : decode cX9_put 37 = .ok (.iload_n 1, 1) := by decide +kernel
theorem dX9_put_38 : decode cX9_put 38 = .ok (.iaload, 1) := by decide +kernel
theorem dX9_put_39 : decode cX9_put 39 = .ok (.iconst 1, 1) := by decide +kernel
theorem dX9_put_40 : decode cX9_put 40 = .ok (.isub, 1) := by decide +kernel
theorem dX9_put_41 : decode cX9_put 41 = .ok (.invokestatic 58, 3) := by decide +kernel
theorem dX9_put_44 : decode cX9_put 44 = .ok (.ifCond .ne 9, 3) := by decide +kernel
theorem dX9_put_47 : decode cX9_put 47 = .ok (.aload_n 0, 1) := by decide +kernel
theorem dX9_put_48 : decode cX9_put 48 = .ok (.iconst 3, 1) := by decide +kernel
theorem dX9_put_49 : decode cX9_put 49 = .ok (.invokevirtual 79, 3) := by decide +kernel
theorem dX9_put_52 : decode cX9_put 52 = .ok (.ireturn, 1) := by decide +kernel
theorem dX9_put_53 : decode cX9_put 53 = .ok (.aload_n 0, 1) := by decide +kernel
theorem dX9_put_54 : decode cX9_put 54 = .ok (.getfield 16, 3) := by decide +kernel
theorem dX9_put_57 : decode cX9_put 57 = .ok (.bipush 60, 2) := by decide +kernel
theorem dX9_put_59 : decode cX9_put 59 = .ok (.iload_n 1, 1) := by decide +kernel
theorem dX9_put_60 : decode cX9_put 60 = .ok (.imul, 1) := by decide +kernel
theorem dX9_put_61 : decode cX9_put 61 = .ok (.iload_n 2, 1) := by decide +kernel
theorem dX9_put_62 : decode cX9_put 62 = .ok (.iadd, 1) := by decide +kernel
theorem dX9_put_63 : decode cX9_put 63 = .ok (.aload_n 0, 1) := by decide +kernel
theorem dX9_put_64 : decode cX9_put 64 = .ok (.getfield 9, 3) := by decide +kernel
theorem dX9_put_67 : decode cX9_put 67 = .ok (.iload_n 1, 1) := by decide +kernel
theorem dX9_put_68 : decode cX9_put 68 = .ok (.iaload, 1) := by decide +kernel
theorem dX9_put_69 : decode cX9_put 69 = .ok (.ifCond .ne 8, 3) := by decide +kernel
theorem dX9_put_72 : decode cX9_put 72 = .ok (.iload_n 3, 1) := by decide +kernel
theorem dX9_put_73 : decode cX9_put 73 = .ok (.i2b, 1) := by decide +kernel
theorem dX9_put_74 : decode cX9_put 74 = .ok (.goto 19, 3) := by decide +kernel
theorem dX9_put_77 : decode cX9_put 77 = .ok (.aload_n 0, 1) := by decide +kernel
theorem dX9_put_78 : decode cX9_put 78 = .ok (.getfield 9, 3) := by decide +kernel
theorem dX9_put_81 : decode cX9_put 81 = .ok (.iload_n 1, 1) := by decide +kernel
theorem dX9_put_82 : decode cX9_put 82 = .ok (.iaload, 1) := by decide +kernel
theorem dX9_put_83 : decode cX9_put 83 = .ok (.iconst 1, 1) := by decide +kernel
theorem dX9_put_84 : decode cX9_put 84 = .ok (.if_icmp .ne 8, 3) := by decide +kernel
theorem dX9_put_87 : decode cX9_put 87 = .ok (.iload_n 3, 1) := by decide +kernel
theorem dX9_put_88 : decode cX9_put 88 = .ok (.i2s, 1) := by decide +kernel
theorem dX9_put_89 : decode cX9_put 89 = .ok (.goto 4, 3) := by decide +kernel
theorem dX9_put_92 : decode cX9_put 92 = .ok (.iload_n 3, 1) := by decide +kernel
theorem dX9_put_93 : decode cX9_put 93 = .ok (.iastore, 1) := by decide +kernel
theorem dX9_put_94 : decode cX9_put 94 = .ok (.iconst 1, 1) := by decide +kernel
theorem dX9_put_95 : decode cX9_put 95 = .ok (.ireturn, 1) := by decide +kernel
theorem dX9_cell_0 : decode cX9_cell 0 = .ok (.aload_n 0, 1) := by decide +kernel
theorem dX9_cell_1 : decode cX9_cell 1 = .ok (.iconst 0, 1) := by decide +kernel
theorem dX9_cell_2 : decode cX9_cell 2 = .ok (.putfield 52, 3) := by decide +kernel
theorem dX9_cell_5 : decode cX9_cell 5 = .ok (.iload_n 1, 1) := by decide +kernel
theorem dX9_cell_6 : decode cX9_cell 6 = .ok (.invokestatic 68, 3) := by decide +kernel
theorem dX9_cell_9 : decode cX9_cell 9 = .ok (.ifCond .eq 10, 3) := by decide +kernel
theorem dX9_cell_12 : decode cX9_cell 12 = .ok (.iload_n 3, 1) := by decide +kernel
theorem dX9_cell_13 : decode cX9_cell 13 = .ok (.invokestatic 72, 3) := by decide +kernel
theorem dX9_cell_16 : decode cX9_cell 16 = .ok (.ifCond .ne 7, 3) := by decide +kernel
theorem dX9_cell_19 : decode cX9_cell 19 = .ok (.ldc2_w 56, 3) := by decide +kernel
theorem dX9_cell_22 : decode cX9_cell 22 = .ok (.lreturn, 1) := by decide +kernel
theorem dX9_cell_23 : decode cX9_cell 23 = .ok (.aload_n 0, 1) := by decide +kernel
theorem dX9_cell_24 : decode cX9_cell 24 = .ok (.getfield 9, 3) := by decide +kernel
theorem dX9_cell_27 : decode cX9_cell 27 = .ok (.iload_n 1, 1) := by decide +kernel
theorem dX9_cell_28 : decode cX9_cell 28 = .ok (.iaload, 1) := by decide +kernel
theorem dX9_cell_29 : decode cX9_cell 29 = .ok (.bipush (-9), 2) := by decide +kernel
theorem dX9_cell_31 : decode cX9_cell 31 = .ok (.if_icmp .eq 19, 3) := by decide +kernel
theorem dX9_cell_34 : decode cX9_cell 34 = .ok (.aload_n 0, 1) := by decide +kernel
theorem dX9_cell_35 : decode cX9_cell 35 = .ok (.getfield 9, 3) := by decide +kernel
theorem dX9_cell_38 : decode cX9_cell 38 = .ok (.iload_n 1, 1) := by decide +kernel
theorem dX9_cell_39 : decode cX9_cell 39 = .ok (.iaload, 1) := by decide +kernel
theorem dX9_cell_40 : decode cX9_cell 40 = .ok (.iload_n 3, 1) := by decide +kernel
theorem dX9_cell_41 : decode cX9_cell 41 = .ok (.if_icmp .eq 9, 3) := by decide +kernel
theorem dX9_cell_44 : decode cX9_cell 44 = .ok (.aload_n 0, 1) := by decide +kernel
theorem dX9_cell_45 : decode cX9_cell 45 = .ok (.iconst 2, 1) := by decide +kernel
theorem dX9_cell_46 : decode cX9_cell 46 = .ok (.invokevirtual 188, 3) := by decide +kernel
theorem dX9_cell_49 : decode cX9_cell 49 = .ok (.lreturn, 1) := by decide +kernel
theorem dX9_cell_50 : decode cX9_cell 50 = .ok (.aload_n 0, 1) := by decide +kernel
theorem dX9_cell_51 : decode cX9_cell 51 = .ok (.getfield 9, 3) := by decide +kernel
theorem dX9_cell_54 : decode cX9_cell 54 = .ok (.iload_n 1, 1) := by decide +kernel
theorem dX9_cell_55 : decode cX9_cell 55 = .ok (.iaload, 1) := by decide +kernel
theorem dX9_cell_56 : decode cX9_cell 56 = .ok (.bipush (-9), 2) := by decide +kernel
theorem dX9_cell_58 : decode cX9_cell 58 = .ok (.if_icmp .ne 9, 3) := by decide +kernel
theorem dX9_cell_61 : decode cX9_cell 61 = .ok (.aload_n 0, 1) := by decide +kernel
theorem dX9_cell_62 : decode cX9_cell 62 = .ok (.iconst 1, 1) := by decide +kernel
theorem dX9_cell_63 : decode cX9_cell 63 = .ok (.invokevirtual 188, 3) := by decide +kernel
theorem dX9_cell_66 : decode cX9_cell 66 = .ok (.lreturn, 1) := by decide +kernel
theorem dX9_cell_67 : decode cX9_cell 67 = .ok (.iload_n 2, 1) := by decide +kernel
theorem dX9_cell_68 : decode cX9_cell 68 = .ok (.iconst 0, 1) := by decide +kernel
theorem dX9_cell_69 : decode cX9_cell 69 = .ok (.aload_n 0, 1) := by decide +kernel
theorem dX9_cell_70 : decode cX9_cell 70 = .ok (.getfield 13, 3) := by decide +kernel
theorem dX9_cell_73 : decode cX9_cell 73 = .ok (.iload_n 1, 1) := by decide +kernel
theorem dX9_cell_74 : decode cX9_cell 74 = .ok (.iaload, 1) := by decide +kernel
theorem dX9_cell_75 : decode cX9_cell 75 = .ok (.iconst 1, 1) := by decide +kernel
theorem dX9_cell_76 : decode cX9_cell 76 = .ok (.isub, 1) := by decide +kernel
theorem dX9_cell_77 : decode cX9_cell 77 = .ok (.invokestatic 58, 3) := by decide +kernel
theorem dX9_cell_80 : decode cX9_cell 80 = .ok (.ifCond .ne 9, 3) := by decide +kernel
theorem dX9_cell_83 : decode cX9_cell 83 = .ok (.aload_n 0, 1) := by decide +kernel
theorem dX9_cell_84 : decode cX9_cell 84 = .ok (.iconst 3, 1) := by decide +kernel
theorem dX9_cell_85 : decode cX9_cell 85 = .ok (.invokevirtual 188, 3) := by decide +kernel
theorem dX9_cell_88 : decode cX9_cell 88 = .ok (.lreturn, 1) := by decide +kernel
theorem dX9_cell_89 : decode cX9_cell 89 = .ok (.aload_n 0, 1) := by decide +kernel
theorem dX9_cell_90 : decode cX9_cell 90 = .ok (.getfield 16, 3) := by decide +kernel
theorem dX9_cell_93 : decode cX9_cell 93 = .ok (.bipush 60, 2) := by decide +kernel
theorem dX9_cell_95 : decode cX9_cell 95 = .ok (.iload_n 1, 1) := by decide +kernel
theorem dX9_cell_96 : decode cX9_cell 96 = .ok (.imul, 1) := by decide +kernel
theorem dX9_cell_97 : decode cX9_cell 97 = .ok (.iload_n 2, 1) := by decide +kernel
theorem dX9_cell_98 : decode cX9_cell 98 = .ok (.iadd, 1) := by decide +kernel
theorem dX9_cell_99 : decode cX9_cell 99 = .ok (.iaload, 1) := by decide +kernel
theorem dX9_cell_100 : decode cX9_cell 100 = .ok (.i2l, 1) := by decide +kernel
theorem dX9_cell_101 : decode cX9_cell 101 = .ok (.lreturn, 1) := by decide +kernel
theorem dX9_copy_0 : decode cX9_copy 0 = .ok (.aload_n 0, 1) := by decide +kernel
theorem dX9_copy_1 : decode cX9_copy 1 = .ok (.iconst 0, 1) := by decide +kernel
theorem dX9_copy_2 : decode cX9_copy 2 = .ok (.putfield 52, 3) := by decide +kernel
theorem dX9_copy_5 : decode cX9_copy 5 = .ok (.iload_n 1, 1) := by decide +kernel
theorem dX9_copy_6 : decode cX9_copy 6 = .ok (.invokestatic 68, 3) := by decide +kernel
theorem dX9_copy_9 : decode cX9_copy 9 = .ok (.ifCond .eq 10, 3) := by decide +kernel
theorem dX9_copy_12 : decode cX9_copy 12 = .ok (.iload_n 3, 1) := by decide +kernel
theorem dX9_copy_13 : decode cX9_copy 13 = .ok (.invokestatic 68, 3) := by decide +kernel
theorem dX9_copy_16 : decode cX9_copy 16 = .ok (.ifCond .ne 5, 3) := by decide +kernel
theorem dX9_copy_19 : decode cX9_copy 19 = .ok (.iconst (-1), 1) := by decide +kernel
theorem dX9_copy_20 : decode cX9_copy 20 = .ok (.ireturn, 1) := by decide +kernel
theorem dX9_copy_21 : decode cX9_copy 21 = .ok (.aload_n 0, 1) := by decide +kernel
theorem dX9_copy_22 : decode cX9_copy 22 = .ok (.getfield 9, 3) := by decide +kernel
theorem dX9_copy_25 : decode cX9_copy 25 = .ok (.iload_n 1, 1) := by decide +kernel
theorem dX9_copy_26 : decode cX9_copy 26 = .ok (.iaload, 1) := by decide +kernel
theorem dX9_copy_27 : decode cX9_copy 27 = .ok (.bipush (-9), 2) := by decide +kernel
theorem dX9_copy_29 : decode cX9_copy 29 = .ok (.if_icmp .eq 14, 3) := by decide +kernel
theorem dX9_copy_32 : decode cX9_copy 32 = .ok (.aload_n 0, 1) := by decide +kernel
theorem dX9_copy_33 : decode cX9_copy 33 = .ok (.getfield 9, 3) := by decide +kernel
theorem dX9_copy_36 : decode cX9_copy 36 = .ok (.iload_n 3, 1) := by decide +kernel
theorem dX9_copy_37 : decode cX9_copy 37 = .ok (.iaload, 1) := by decide +kernel
theorem dX9_copy_38 : decode cX9_copy 38 = .ok (.bipush (-9), 2) := by decide +kernel
theorem dX9_copy_40 : decode cX9_copy 40 = .ok (.if_icmp .ne 9, 3) := by decide +kernel
theorem dX9_copy_43 : decode cX9_copy 43 = .ok (.aload_n 0, 1) := by decide +kernel
theorem dX9_copy_44 : decode cX9_copy 44 = .ok (.iconst 1, 1) := by decide +kernel
theorem dX9_copy_45 : decode cX9_copy 45 = .ok (.invokevirtual 79, 3) := by decide +kernel
theorem dX9_copy_48 : decode cX9_copy 48 = .ok (.ireturn, 1) := by decide +kernel
theorem dX9_copy_49 : decode cX9_copy 49 = .ok (.aload_n 0, 1) := by decide +kernel
theorem dX9_copy_50 : decode cX9_copy 50 = .ok (.getfield 9, 3) := by decide +kernel
theorem dX9_copy_53 : decode cX9_copy 53 = .ok (.iload_n 1, 1) := by decide +kernel
theorem dX9_copy_54 : decode cX9_copy 54 = .ok (.iaload, 1) := by decide +kernel
theorem dX9_copy_55 : decode cX9_copy 55 = .ok (.aload_n 0, 1) := by decide +kernel
theorem dX9_copy_56 : decode cX9_copy 56 = .ok (.getfield 9, 3) := by decide +kernel
theorem dX9_copy_59 : decode cX9_copy 59 = .ok (.iload_n 3, 1) := by decide +kernel
theorem dX9_copy_60 : decode cX9_copy 60 = .ok (.iaload, 1) := by decide +kernel
theorem dX9_copy_61 : decode cX9_copy 61 = .ok (.if_icmp .eq 9, 3) := by decide +kernel
theorem dX9_copy_64 : decode cX9_copy 64 = .ok (.aload_n 0, 1) := by decide +kernel
theorem dX9_copy_65 : decode cX9_copy 65 = .ok (.iconst 2, 1) := by decide +kernel
theorem dX9_copy_66 : decode cX9_copy 66 = .ok (.invokevirtual 79, 3) := by decide +kernel
theorem dX9_copy_69 : decode cX9_copy 69 = .ok (.ireturn, 1) := by decide +kernel
theorem dX9_copy_70 : decode cX9_copy 70 = .ok (.iload_n 2, 1) := by decide +kernel
theorem dX9_copy_71 : decode cX9_copy 71 = .ok (.ifCond .lt 38, 3) := by decide +kernel
theorem dX9_copy_74 : decode cX9_copy 74 = .ok (.iload 4, 2) := by decide +kernel
theorem dX9_copy_76 : decode cX9_copy 76 = .ok (.ifCond .lt 33, 3) := by decide +kernel
theorem dX9_copy_79 : decode cX9_copy 79 = .ok (.iload 5, 2) := by decide +kernel
theorem dX9_copy_81 : decode cX9_copy 81 = .ok (.ifCond .lt 28, 3) := by decide +kernel
theorem dX9_copy_84 : decode cX9_copy 84 = .ok (.iload_n 2, 1) := by decide +kernel
theorem dX9_copy_85 : decode cX9_copy 85 = .ok (.aload_n 0, 1) := by decide +kernel
theorem dX9_copy_86 : decode cX9_copy 86 = .ok (.getfield 13, 3) := by decide +kernel
theorem dX9_copy_89 : decode cX9_copy 89 = .ok (.iload_n 1, 1) := by decide +kernel
theorem dX9_copy_90 : decode cX9_copy 90 = .ok (.iaload, 1) := by decide +kernel
theorem dX9_copy_91 : decode cX9_copy 91 = .ok (.if_icmp .gt 18, 3) := by decide +kernel
theorem dX9_copy_94 : decode cX9_copy 94 = .ok (.iload 4, 2) := by decide +kernel
theorem dX9_copy_96 : decode cX9_copy 96 = .ok (.aload_n 0, 1) := by decide +kernel
theorem dX9_copy_97 : decode cX9_copy 97 = .ok (.getfield 13, 3) := by decide +kernel
theorem dX9_copy_100 : decode cX9_copy 100 = .ok (.iload_n 3, 1) := by decide +kernel
theorem dX9_copy_101 : decode cX9_copy 101 = .ok (.iaload, 1) := by decide +kernel
theorem dX9_copy_102 : decode cX9_copy 102 = .ok (.if_icmp .gt 7, 3) := by decide +kernel
theorem dX9_copy_105 : decode cX9_copy 105 = .ok (.iconst 1, 1) := by decide +kernel
theorem dX9_copy_106 : decode cX9_copy 106 = .ok (.goto 4, 3) := by decide +kernel
theorem dX9_copy_109 : decode cX9_copy 109 = .ok (.iconst 0, 1) := by decide +kernel
theorem dX9_copy_110 : decode cX9_copy 110 = .ok (.istore 6, 2) := by decide +kernel
theorem dX9_copy_112 : decode cX9_copy 112 = .ok (.iload 6, 2) := by decide +kernel
theorem dX9_copy_114 : decode cX9_copy 114 = .ok (.ifCond .eq 30, 3) := by decide +kernel
theorem dX9_copy_117 : decode cX9_copy 117 = .ok (.iload 5, 2) := by decide +kernel
theorem dX9_copy_119 : decode cX9_copy 119 = .ok (.aload_n 0, 1) := by decide +kernel
theorem dX9_copy_120 : decode cX9_copy 120 = .ok (.getfield 13, 3) := by decide +kernel
theorem dX9_copy_123 : decode cX9_copy 123 = .ok (.iload_n 1, 1) := by decide +kernel
theorem dX9_copy_124 : decode cX9_copy 124 = .ok (.iaload, 1) := by decide +kernel
theorem dX9_copy_125 : decode cX9_copy 125 = .ok (.iload_n 2, 1) := by decide +kernel
theorem dX9_copy_126 : decode cX9_copy 126 = .ok (.isub, 1) := by decide +kernel
theorem dX9_copy_127 : decode cX9_copy 127 = .ok (.if_icmp .gt 17, 3) := by decide +kernel
theorem dX9_copy_130 : decode cX9_copy 130 = .ok (.iload 5, 2) := by decide +kernel
theorem dX9_copy_132 : decode cX9_copy 132 = .ok (.aload_n 0, 1) := by decide +kernel
theorem dX9_copy_133 : decode cX9_copy 133 = .ok (.getfield 13, 3) := by decide +kernel
theorem dX9_copy_136 : decode cX9_copy 136 = .ok (.iload_n 3, 1) := by decide +kernel
theorem dX9_copy_137 : decode cX9_copy 137 = .ok (.iaload, 1) := by decide +kernel
theorem dX9_copy_138 : decode cX9_copy 138 = .ok (.iload 4, 2) := by decide +kernel
theorem dX9_copy_140 : decode cX9_copy 140 = .ok (.isub, 1) := by decide +kernel
theorem dX9_copy_141 : decode cX9_copy 141 = .ok (.if_icmp .le 9, 3) := by decide +kernel
theorem dX9_copy_144 : decode cX9_copy 144 = .ok (.aload_n 0, 1) := by decide +kernel
theorem dX9_copy_145 : decode cX9_copy 145 = .ok (.iconst 3, 1) := by decide +kernel
theorem dX9_copy_146 : decode cX9_copy 146 = .ok (.invokevirtual 79, 3) := by decide +kernel
theorem dX9_copy_149 : decode cX9_copy 149 = .ok (.ireturn, 1) := by decide +kernel
theorem dX9_copy_150 : decode cX9_copy 150 = .ok (.iload_n 2, 1) := by decide +kernel
theorem dX9_copy_151 : decode cX9_copy 151 = .ok (.iload 4, 2) := by decide +kernel
theorem dX9_copy_153 : decode cX9_copy 153 = .ok (.if_icmp .ge 7, 3) := by decide +kernel
theorem dX9_copy_156 : decode cX9_copy 156 = .ok (.iconst 1, 1) := by decide +kernel
theorem dX9_copy_157 : decode cX9_copy 157 = .ok (.goto 4, 3) := by decide +kernel
theorem dX9_copy_160 : decode cX9_copy 160 = .ok (.iconst 0, 1) := by decide +kernel
theorem dX9_copy_161 : decode cX9_copy 161 = .ok (.istore 7, 2) := by decide +kernel
theorem dX9_copy_163 : decode cX9_copy 163 = .ok (.iconst 0, 1) := by decide +kernel
theorem dX9_copy_164 : decode cX9_copy 164 = .ok (.istore 8, 2) := by decide +kernel
theorem dX9_copy_166 : decode cX9_copy 166 = .ok (.iload 8, 2) := by decide +kernel
theorem dX9_copy_168 : decode cX9_copy 168 = .ok (.iload 5, 2) := by decide +kernel
theorem dX9_copy_170 : decode cX9_copy 170 = .ok (.if_icmp .ge 57, 3) := by decide +kernel
theorem dX9_copy_173 : decode cX9_copy 173 = .ok (.iload 7, 2) := by decide +kernel
theorem dX9_copy_175 : decode cX9_copy 175 = .ok (.ifCond .eq 13, 3) := by decide +kernel
theorem dX9_copy_178 : decode cX9_copy 178 = .ok (.iload 5, 2) := by decide +kernel
theorem dX9_copy_180 : decode cX9_copy 180 = .ok (.iconst 1, 1) := by decide +kernel
theorem dX9_copy_181 : decode cX9_copy 181 = .ok (.isub, 1) := by decide +kernel
theorem dX9_copy_182 : decode cX9_copy 182 = .ok (.iload 8, 2) := by decide +kernel
theorem dX9_copy_184 : decode cX9_copy 184 = .ok (.isub, 1) := by decide +kernel
theorem dX9_copy_185 : decode cX9_copy 185 = .ok (.goto 5, 3) := by decide +kernel
theorem dX9_copy_188 : decode cX9_copy 188 = .ok (.iload 8, 2) := by decide +kernel
theorem dX9_copy_190 : decode cX9_copy 190 = .ok (.istore 9, 2) := by decide +kernel
theorem dX9_copy_192 : decode cX9_copy 192 = .ok (.aload_n 0, 1) := by decide +kernel
theorem dX9_copy_193 : decode cX9_copy 193 = .ok (.getfield 16, 3) := by decide +kernel
theorem dX9_copy_196 : decode cX9_copy 196 = .ok (.bipush 60, 2) := by decide +kernel
theorem dX9_copy_198 : decode cX9_copy 198 = .ok (.iload_n 3, 1) := by decide +kernel
theorem dX9_copy_199 : decode cX9_copy 199 = .ok (.imul, 1) := by decide +kernel
theorem dX9_copy_200 : decode cX9_copy 200 = .ok (.iload 4, 2) := by decide +kernel
theorem dX9_copy_202 : decode cX9_copy 202 = .ok (.iadd, 1) := by decide +kernel
theorem dX9_copy_203 : decode cX9_copy 203 = .ok (.iload 9, 2) := by decide +kernel
theorem dX9_copy_205 : decode cX9_copy 205 = .ok (.iadd, 1) := by decide +kernel
theorem dX9_copy_206 : decode cX9_copy 206 = .ok (.aload_n 0, 1) := by decide +kernel
theorem dX9_copy_207 : decode cX9_copy 207 = .ok (.getfield 16, 3) := by decide +kernel
theorem dX9_copy_210 : decode cX9_copy 210 = .ok (.bipush 60, 2) := by decide +kernel
theorem dX9_copy_212 : decode cX9_copy 212 = .ok (.iload_n 1, 1) := by decide +kernel
theorem dX9_copy_213 : decode cX9_copy 213 = .ok (.imul, 1) := by decide +kernel
theorem dX9_copy_214 : decode cX9_copy 214 = .ok (.iload_n 2, 1) := by decide +kernel
theorem dX9_copy_215 : decode cX9_copy 215 = .ok (.iadd, 1) := by decide +kernel
theorem dX9_copy_216 : decode cX9_copy 216 = .ok (.iload 9, 2) := by decide +kernel
theorem dX9_copy_218 : decode cX9_copy 218 = .ok (.iadd, 1) := by decide +kernel
theorem dX9_copy_219 : decode cX9_copy 219 = .ok (.iaload, 1) := by decide +kernel
theorem dX9_copy_220 : decode cX9_copy 220 = .ok (.iastore, 1) := by decide +kernel
theorem dX9_copy_221 : decode cX9_copy 221 = .ok (.iinc 8 1, 3) := by decide +kernel
theorem dX9_copy_224 : decode cX9_copy 224 = .ok (.goto (-58), 3) := by decide +kernel
theorem dX9_copy_227 : decode cX9_copy 227 = .ok (.iload 5, 2) := by decide +kernel
theorem dX9_copy_229 : decode cX9_copy 229 = .ok (.ireturn, 1) := by decide +kernel
theorem dX9_begins_0 : decode cX9_begins 0 = .ok (.aload_n 0, 1) := by decide +kernel
theorem dX9_begins_1 : decode cX9_begins 1 = .ok (.bipush 31, 2) := by decide +kernel
theorem dX9_begins_3 : decode cX9_begins 3 = .ok (.aload_n 0, 1) := by decide +kernel
theorem dX9_begins_4 : decode cX9_begins 4 = .ok (.getfield 192, 3) := by decide +kernel
theorem dX9_begins_7 : decode cX9_begins 7 = .ok (.imul, 1) := by decide +kernel
theorem dX9_begins_8 : decode cX9_begins 8 = .ok (.iload_n 1, 1) := by decide +kernel
theorem dX9_begins_9 : decode cX9_begins 9 = .ok (.iadd, 1) := by decide +kernel
theorem dX9_begins_10 : decode cX9_begins 10 = .ok (.putfield 192, 3) := by decide +kernel
theorem dX9_begins_13 : decode cX9_begins 13 = .ok (.return_, 1) := by decide +kernel
theorem dX9_tell_0 : decode cX9_tell 0 = .ok (.aload_n 0, 1) := by decide +kernel
theorem dX9_tell_1 : decode cX9_tell 1 = .ok (.iload_n 1, 1) := by decide +kernel
theorem dX9_tell_2 : decode cX9_tell 2 = .ok (.invokevirtual 120, 3) := by decide +kernel
theorem dX9_tell_5 : decode cX9_tell 5 = .ok (.ifCond .ne 5, 3) := by decide +kernel
theorem dX9_tell_8 : decode cX9_tell 8 = .ok (.iconst (-1), 1) := by decide +kernel
theorem dX9_tell_9 : decode cX9_tell 9 = .ok (.ireturn, 1) := by decide +kernel
theorem dX9_tell_10 : decode cX9_tell 10 = .ok (.aload_n 0, 1) := by decide +kernel
theorem dX9_tell_11 : decode cX9_tell 11 = .ok (.getfield 22, 3) := by decide +kernel
theorem dX9_tell_14 : decode cX9_tell 14 = .ok (.iload_n 1, 1) := by decide +kernel
theorem dX9_tell_15 : decode cX9_tell 15 = .ok (.iaload, 1) := by decide +kernel
theorem dX9_tell_16 : decode cX9_tell 16 = .ok (.istore_n 2, 1) := by decide +kernel
theorem dX9_tell_17 : decode cX9_tell 17 = .ok (.aload_n 0, 1) := by decide +kernel
theorem dX9_tell_18 : decode cX9_tell 18 = .ok (.getfield 19, 3) := by decide +kernel
theorem dX9_tell_21 : decode cX9_tell 21 = .ok (.iload_n 1, 1) := by decide +kernel
theorem dX9_tell_22 : decode cX9_tell 22 = .ok (.iaload, 1) := by decide +kernel
theorem dX9_tell_23 : decode cX9_tell 23 = .ok (.lookupswitch 67 #[(1, 25), (2, 40)], 25) := by decide +kernel
theorem dX9_tell_48 : decode cX9_tell 48 = .ok (.aload_n 0, 1) := by decide +kernel
theorem dX9_tell_49 : decode cX9_tell 49 = .ok (.iconst 2, 1) := by decide +kernel
theorem dX9_tell_50 : decode cX9_tell 50 = .ok (.invokevirtual 195, 3) := by decide +kernel
theorem dX9_tell_53 : decode cX9_tell 53 = .ok (.aload_n 0, 1) := by decide +kernel
theorem dX9_tell_54 : decode cX9_tell 54 = .ok (.iconst 1, 1) := by decide +kernel
theorem dX9_tell_55 : decode cX9_tell 55 = .ok (.invokevirtual 195, 3) := by decide +kernel
theorem dX9_tell_58 : decode cX9_tell 58 = .ok (.iload_n 2, 1) := by decide +kernel
theorem dX9_tell_59 : decode cX9_tell 59 = .ok (.bipush 100, 2) := by decide +kernel
theorem dX9_tell_61 : decode cX9_tell 61 = .ok (.iadd, 1) := by decide +kernel
theorem dX9_tell_62 : decode cX9_tell 62 = .ok (.ireturn, 1) := by decide +kernel
theorem dX9_tell_63 : decode cX9_tell 63 = .ok (.aload_n 0, 1) := by decide +kernel
theorem dX9_tell_64 : decode cX9_tell 64 = .ok (.iconst 3, 1) := by decide +kernel
theorem dX9_tell_65 : decode cX9_tell 65 = .ok (.invokevirtual 195, 3) := by decide +kernel
theorem dX9_tell_68 : decode cX9_tell 68 = .ok (.aload_n 0, 1) := by decide +kernel
theorem dX9_tell_69 : decode cX9_tell 69 = .ok (.iconst 2, 1) := by decide +kernel
theorem dX9_tell_70 : decode cX9_tell 70 = .ok (.invokevirtual 195, 3) := by decide +kernel
theorem dX9_tell_73 : decode cX9_tell 73 = .ok (.aload_n 0, 1) := by decide +kernel
theorem dX9_tell_74 : decode cX9_tell 74 = .ok (.iconst 1, 1) := by decide +kernel
theorem dX9_tell_75 : decode cX9_tell 75 = .ok (.invokevirtual 195, 3) := by decide +kernel
theorem dX9_tell_78 : decode cX9_tell 78 = .ok (.aload_n 0, 1) := by decide +kernel
theorem dX9_tell_79 : decode cX9_tell 79 = .ok (.iconst 1, 1) := by decide +kernel
theorem dX9_tell_80 : decode cX9_tell 80 = .ok (.invokevirtual 195, 3) := by decide +kernel
theorem dX9_tell_83 : decode cX9_tell 83 = .ok (.iconst 2, 1) := by decide +kernel
theorem dX9_tell_84 : decode cX9_tell 84 = .ok (.iload_n 2, 1) := by decide +kernel
theorem dX9_tell_85 : decode cX9_tell 85 = .ok (.imul, 1) := by decide +kernel
theorem dX9_tell_86 : decode cX9_tell 86 = .ok (.bipush 100, 2) := by decide +kernel
theorem dX9_tell_88 : decode cX9_tell 88 = .ok (.iadd, 1) := by decide +kernel
theorem dX9_tell_89 : decode cX9_tell 89 = .ok (.ireturn, 1) := by decide +kernel
theorem dX9_tell_90 : decode cX9_tell 90 = .ok (.aload_n 0, 1) := by decide +kernel
theorem dX9_tell_91 : decode cX9_tell 91 = .ok (.iconst 1, 1) := by decide +kernel
theorem dX9_tell_92 : decode cX9_tell 92 = .ok (.invokevirtual 195, 3) := by decide +kernel
theorem dX9_tell_95 : decode cX9_tell 95 = .ok (.iload_n 2, 1) := by decide +kernel
theorem dX9_tell_96 : decode cX9_tell 96 = .ok (.ireturn, 1) := by decide +kernel
theorem dX9_hear_0 : decode cX9_hear 0 = .ok (.aload_n 0, 1) := by decide +kernel
theorem dX9_hear_1 : decode cX9_hear 1 = .ok (.iload_n 1, 1) := by decide +kernel
theorem dX9_hear_2 : decode cX9_hear 2 = .ok (.invokevirtual 120, 3) := by decide +kernel
theorem dX9_hear_5 : decode cX9_hear 5 = .ok (.ifCond .ne 5, 3) := by decide +kernel
theorem dX9_hear_8 : decode cX9_hear 8 = .ok (.iconst (-1), 1) := by decide +kernel
theorem dX9_hear_9 : decode cX9_hear 9 = .ok (.ireturn, 1) := by decide +kernel
theorem dX9_hear_10 : decode cX9_hear 10 = .ok (.aload_n 0, 1) := by decide +kernel
theorem dX9_hear_11 : decode cX9_hear 11 = .ok (.aload_n 0, 1) := by decide +kernel
theorem dX9_hear_12 : decode cX9_hear 12 = .ok (.getfield 19, 3) := by decide +kernel
theorem dX9_hear_15 : decode cX9_hear 15 = .ok (.iload_n 1, 1) := by decide +kernel
theorem dX9_hear_16 : decode cX9_hear 16 = .ok (.iaload, 1) := by decide +kernel
theorem dX9_hear_17 : decode cX9_hear 17 = .ok (.iconst 2, 1) := by decide +kernel
theorem dX9_hear_18 : decode cX9_hear 18 = .ok (.if_icmp .ne 7, 3) := by decide +kernel
theorem dX9_hear_21 : decode cX9_hear 21 = .ok (.iconst 5, 1) := by decide +kernel
theorem dX9_hear_22 : decode cX9_hear 22 = .ok (.goto 4, 3) := by decide +kernel
theorem dX9_hear_25 : decode cX9_hear 25 = .ok (.iconst 4, 1) := by decide +kernel
theorem dX9_hear_26 : decode cX9_hear 26 = .ok (.invokevirtual 195, 3) := by decide +kernel
theorem dX9_hear_29 : decode cX9_hear 29 = .ok (.aload_n 0, 1) := by decide +kernel
theorem dX9_hear_30 : decode cX9_hear 30 = .ok (.getfield 19, 3) := by decide +kernel
theorem dX9_hear_33 : decode cX9_hear 33 = .ok (.iload_n 1, 1) := by decide +kernel
theorem dX9_hear_34 : decode cX9_hear 34 = .ok (.iaload, 1) := by decide +kernel
theorem dX9_hear_35 : decode cX9_hear 35 = .ok (.iconst 2, 1) := by decide +kernel
theorem dX9_hear_36 : decode cX9_hear 36 = .ok (.if_icmp .ne 8, 3) := by decide +kernel
theorem dX9_hear_39 : decode cX9_hear 39 = .ok (.bipush 20, 2) := by decide +kernel
theorem dX9_hear_41 : decode cX9_hear 41 = .ok (.goto 4, 3) := by decide +kernel
theorem dX9_hear_44 : decode cX9_hear 44 = .ok (.iload_n 1, 1) := by decide +kernel
theorem dX9_hear_45 : decode cX9_hear 45 = .ok (.ireturn, 1) := by decide +kernel
theorem dX9_as_0 : decode cX9_as 0 = .ok (.aload_n 0, 1) := by decide +kernel
theorem dX9_as_1 : decode cX9_as 1 = .ok (.iconst 0, 1) := by decide +kernel
theorem dX9_as_2 : decode cX9_as 2 = .ok (.putfield 52, 3) := by decide +kernel
theorem dX9_as_5 : decode cX9_as 5 = .ok (.aload_n 0, 1) := by decide +kernel
theorem dX9_as_6 : decode cX9_as 6 = .ok (.iload_n 1, 1) := by decide +kernel
theorem dX9_as_7 : decode cX9_as 7 = .ok (.invokevirtual 120, 3) := by decide +kernel
theorem dX9_as_10 : decode cX9_as 10 = .ok (.ifCond .ne 5, 3) := by decide +kernel
theorem dX9_as_13 : decode cX9_as 13 = .ok (.iconst (-1), 1) := by decide +kernel
theorem dX9_as_14 : decode cX9_as 14 = .ok (.ireturn, 1) := by decide +kernel
theorem dX9_as_15 : decode cX9_as 15 = .ok (.iload_n 2, 1) := by decide +kernel
theorem dX9_as_16 : decode cX9_as 16 = .ok (.iconst 0, 1) := by decide +kernel
theorem dX9_as_17 : decode cX9_as 17 = .ok (.iconst 2, 1) := by decide +kernel
theorem dX9_as_18 : decode cX9_as 18 = .ok (.invokestatic 58, 3) := by decide +kernel
theorem dX9_as_21 : decode cX9_as 21 = .ok (.ifCond .ne 6, 3) := by decide +kernel
theorem dX9_as_24 : decode cX9_as 24 = .ok (.bipush (-2), 2) := by decide +kernel
theorem dX9_as_26 : decode cX9_as 26 = .ok (.ireturn, 1) := by decide +kernel
theorem dX9_as_27 : decode cX9_as 27 = .ok (.aload_n 0, 1) := by decide +kernel
theorem dX9_as_28 : decode cX9_as 28 = .ok (.getfield 19, 3) := by decide +kernel
theorem dX9_as_31 : decode cX9_as 31 = .ok (.iload_n 1, 1) := by decide +kernel
theorem dX9_as_32 : decode cX9_as 32 = .ok (.iaload, 1) := by decide +kernel
theorem dX9_as_33 : decode cX9_as 33 = .ok (.iload_n 2, 1) := by decide +kernel
theorem dX9_as_34 : decode cX9_as 34 = .ok (.if_icmp .lt 7, 3) := by decide +kernel
theorem dX9_as_37 : decode cX9_as 37 = .ok (.iconst 1, 1) := by decide +kernel
theorem dX9_as_38 : decode cX9_as 38 = .ok (.goto 8, 3) := by decide +kernel
theorem dX9_as_41 : decode cX9_as 41 = .ok (.aload_n 0, 1) := by decide +kernel
theorem dX9_as_42 : decode cX9_as 42 = .ok (.iconst 2, 1) := by decide +kernel
theorem dX9_as_43 : decode cX9_as 43 = .ok (.invokevirtual 79, 3) := by decide +kernel
theorem dX9_as_46 : decode cX9_as 46 = .ok (.ireturn, 1) := by decide +kernel
theorem dX9_trace_0 : decode cX9_trace 0 = .ok (.aload_n 0, 1) := by decide +kernel
theorem dX9_trace_1 : decode cX9_trace 1 = .ok (.getfield 192, 3) := by decide +kernel
theorem dX9_trace_4 : decode cX9_trace 4 = .ok (.ireturn, 1) := by decide +kernel
theorem dX9_fault_0 : decode cX9_fault 0 = .ok (.aload_n 0, 1) := by decide +kernel
theorem dX9_fault_1 : decode cX9_fault 1 = .ok (.getfield 52, 3) := by decide +kernel
theorem dX9_fault_4 : decode cX9_fault 4 = .ok (.ireturn, 1) := by decide +kernel
theorem dX9_many_0 : decode cX9_many 0 = .ok (.iload_n 1, 1) := by decide +kernel
theorem dX9_many_1 : decode cX9_many 1 = .ok (.tableswitch 63 0 4 #[35, 40, 45, 53, 58], 35) := by decide +kernel
theorem dX9_many_36 : decode cX9_many 36 = .ok (.aload_n 0, 1) := by decide +kernel
theorem dX9_many_37 : decode cX9_many 37 = .ok (.getfield 62, 3) := by decide +kernel
theorem dX9_many_40 : decode cX9_many 40 = .ok (.ireturn, 1) := by decide +kernel
theorem dX9_many_41 : decode cX9_many 41 = .ok (.aload_n 0, 1) := by decide +kernel
theorem dX9_many_42 : decode cX9_many 42 = .ok (.getfield 92, 3) := by decide +kernel
theorem dX9_many_45 : decode cX9_many 45 = .ok (.ireturn, 1) := by decide +kernel
theorem dX9_many_46 : decode cX9_many 46 = .ok (.aload_n 0, 1) := by decide +kernel
theorem dX9_many_47 : decode cX9_many 47 = .ok (.getfield 98, 3) := by decide +kernel
theorem dX9_many_50 : decode cX9_many 50 = .ok (.invokestatic 148, 3) := by decide +kernel
theorem dX9_many_53 : decode cX9_many 53 = .ok (.ireturn, 1) := by decide +kernel
theorem dX9_many_54 : decode cX9_many 54 = .ok (.aload_n 0, 1) := by decide +kernel
theorem dX9_many_55 : decode cX9_many 55 = .ok (.getfield 101, 3) := by decide +kernel
theorem dX9_many_58 : decode cX9_many 58 = .ok (.ireturn, 1) := by decide +kernel
theorem dX9_many_59 : decode cX9_many 59 = .ok (.aload_n 0, 1) := by decide +kernel
theorem dX9_many_60 : decode cX9_many 60 = .ok (.getfield 104, 3) := by decide +kernel
theorem dX9_many_63 : decode cX9_many 63 = .ok (.ireturn, 1) := by decide +kernel
theorem dX9_many_64 : decode cX9_many 64 = .ok (.bipush (-2), 2) := by decide +kernel
theorem dX9_many_66 : decode cX9_many 66 = .ok (.ireturn, 1) := by decide +kernel
