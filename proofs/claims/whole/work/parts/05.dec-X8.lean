theorem dX8_init_0 : decode cX8_init 0 = .ok (.aload_n 0, 1) := by decide +kernel
theorem dX8_init_1 : decode cX8_init 1 = .ok (.invokespecial 3, 3) := by decide +kernel
theorem dX8_init_4 : decode cX8_init 4 = .ok (.aload_n 0, 1) := by decide +kernel
theorem dX8_init_5 : decode cX8_init 5 = .ok (.iconst 4, 1) := by decide +kernel
theorem dX8_init_6 : decode cX8_init 6 = .ok (.anewarray 11, 3) := by decide +kernel
theorem dX8_init_9 : decode cX8_init 9 = .ok (.putfield 13, 3) := by decide +kernel
theorem dX8_init_12 : decode cX8_init 12 = .ok (.aload_n 0, 1) := by decide +kernel
theorem dX8_init_13 : decode cX8_init 13 = .ok (.bipush 6, 2) := by decide +kernel
theorem dX8_init_15 : decode cX8_init 15 = .ok (.anewarray 17, 3) := by decide +kernel
theorem dX8_init_18 : decode cX8_init 18 = .ok (.putfield 19, 3) := by decide +kernel
theorem dX8_init_21 : decode cX8_init 21 = .ok (.aload_n 0, 1) := by decide +kernel
theorem dX8_init_22 : decode cX8_init 22 = .ok (.bipush 6, 2) := by decide +kernel
theorem dX8_init_24 : decode cX8_init 24 = .ok (.newarray .int, 2) := by decide +kernel
theorem dX8_init_26 : decode cX8_init 26 = .ok (.putfield 23, 3) := by decide +kernel
theorem dX8_init_29 : decode cX8_init 29 = .ok (.aload_n 0, 1) := by decide +kernel
theorem dX8_init_30 : decode cX8_init 30 = .ok (.new 27, 3) := by decide +kernel
theorem dX8_init_33 : decode cX8_init 33 = .ok (.dup, 1) := by decide +kernel
theorem dX8_init_34 : decode cX8_init 34 = .ok (.invokespecial 29, 3) := by decide +kernel
theorem dX8_init_37 : decode cX8_init 37 = .ok (.putfield 30, 3) := by decide +kernel
theorem dX8_init_40 : decode cX8_init 40 = .ok (.aload_n 0, 1) := by decide +kernel
theorem dX8_init_41 : decode cX8_init 41 = .ok (.new 34, 3) := by decide +kernel
theorem dX8_init_44 : decode cX8_init 44 = .ok (.dup, 1) := by decide +kernel
theorem dX8_init_45 : decode cX8_init 45 = .ok (.invokespecial 36, 3) := by decide +kernel
theorem dX8_init_48 : decode cX8_init 48 = .ok (.putfield 37, 3) := by decide +kernel
theorem dX8_init_51 : decode cX8_init 51 = .ok (.aload_n 0, 1) := by decide +kernel
theorem dX8_init_52 : decode cX8_init 52 = .ok (.new 41, 3) := by decide +kernel
theorem dX8_init_55 : decode cX8_init 55 = .ok (.dup, 1) := by decide +kernel
theorem dX8_init_56 : decode cX8_init 56 = .ok (.invokespecial 43, 3) := by decide +kernel
theorem dX8_init_59 : decode cX8_init 59 = .ok (.putfield 44, 3) := by decide +kernel
theorem dX8_init_62 : decode cX8_init 62 = .ok (.aload_n 0, 1) := by decide +kernel
theorem dX8_init_63 : decode cX8_init 63 = .ok (.new 48, 3) := by decide +kernel
theorem dX8_init_66 : decode cX8_init 66 = .ok (.dup, 1) := by decide +kernel
theorem dX8_init_67 : decode cX8_init 67 = .ok (.invokespecial 50, 3) := by decide +kernel
theorem dX8_init_70 : decode cX8_init 70 = .ok (.putfield 51, 3) := by decide +kernel
theorem dX8_init_73 : decode cX8_init 73 = .ok (.iconst 0, 1) := by decide +kernel
theorem dX8_init_74 : decode cX8_init 74 = .ok (.istore_n 1, 1) := by decide +kernel
theorem dX8_init_75 : decode cX8_init 75 = .ok (.iload_n 1, 1) := by decide +kernel
theorem dX8_init_76 : decode cX8_init 76 = .ok (.iconst 4, 1) := by decide +kernel
theorem dX8_init_77 : decode cX8_init 77 = .ok (.if_icmp .ge 22, 3) := by decide +kernel
theorem dX8_init_80 : decode cX8_init 80 = .ok (.aload_n 0, 1) := by decide +kernel
theorem dX8_init_81 : decode cX8_init 81 = .ok (.getfield 13, 3) := by decide +kernel
theorem dX8_init_84 : decode cX8_init 84 = .ok (.iload_n 1, 1) := by decide +kernel
theorem dX8_init_85 : decode cX8_init 85 = .ok (.new 11, 3) := by decide +kernel
theorem dX8_init_88 : decode cX8_init 88 = .ok (.dup, 1) := by decide +kernel
theorem dX8_init_89 : decode cX8_init 89 = .ok (.invokespecial 55, 3) := by decide +kernel
theorem dX8_init_92 : decode cX8_init 92 = .ok (.aastore, 1) := by decide +kernel
theorem dX8_init_93 : decode cX8_init 93 = .ok (.iinc 1 1, 3) := by decide +kernel
theorem dX8_init_96 : decode cX8_init 96 = .ok (.goto (-21), 3) := by decide +kernel
theorem dX8_init_99 : decode cX8_init 99 = .ok (.return_, 1) := by decide +kernel
theorem dX8_line_0 : decode cX8_line 0 = .ok (.aload_n 0, 1) := by decide +kernel
theorem dX8_line_1 : decode cX8_line 1 = .ok (.iconst 0, 1) := by decide +kernel
theorem dX8_line_2 : decode cX8_line 2 = .ok (.putfield 56, 3) := by decide +kernel
theorem dX8_line_5 : decode cX8_line 5 = .ok (.aload_n 0, 1) := by decide +kernel
theorem dX8_line_6 : decode cX8_line 6 = .ok (.iload_n 1, 1) := by decide +kernel
theorem dX8_line_7 : decode cX8_line 7 = .ok (.invokevirtual 60, 3) := by decide +kernel
theorem dX8_line_10 : decode cX8_line 10 = .ok (.astore 5, 2) := by decide +kernel
theorem dX8_line_12 : decode cX8_line 12 = .ok (.aload 5, 2) := by decide +kernel
theorem dX8_line_14 : decode cX8_line 14 = .ok (.ifnonnull 5, 3) := by decide +kernel
theorem dX8_line_17 : decode cX8_line 17 = .ok (.iconst (-1), 1) := by decide +kernel
theorem dX8_line_18 : decode cX8_line 18 = .ok (.ireturn, 1) := by decide +kernel
theorem dX8_line_19 : decode cX8_line 19 = .ok (.iload_n 2, 1) := by decide +kernel
theorem dX8_line_20 : decode cX8_line 20 = .ok (.invokestatic 64, 3) := by decide +kernel
theorem dX8_line_23 : decode cX8_line 23 = .ok (.ifCond .ne 6, 3) := by decide +kernel
theorem dX8_line_26 : decode cX8_line 26 = .ok (.bipush (-2), 2) := by decide +kernel
theorem dX8_line_28 : decode cX8_line 28 = .ok (.ireturn, 1) := by decide +kernel
theorem dX8_line_29 : decode cX8_line 29 = .ok (.aload 5, 2) := by decide +kernel
theorem dX8_line_31 : decode cX8_line 31 = .ok (.iload_n 2, 1) := by decide +kernel
theorem dX8_line_32 : decode cX8_line 32 = .ok (.iload_n 3, 1) := by decide +kernel
theorem dX8_line_33 : decode cX8_line 33 = .ok (.iload 4, 2) := by decide +kernel
theorem dX8_line_35 : decode cX8_line 35 = .ok (.invokestatic 68, 3) := by decide +kernel
theorem dX8_line_38 : decode cX8_line 38 = .ok (.istore 6, 2) := by decide +kernel
theorem dX8_line_40 : decode cX8_line 40 = .ok (.iload 6, 2) := by decide +kernel
theorem dX8_line_42 : decode cX8_line 42 = .ok (.ifCond .eq 10, 3) := by decide +kernel
theorem dX8_line_45 : decode cX8_line 45 = .ok (.aload_n 0, 1) := by decide +kernel
theorem dX8_line_46 : decode cX8_line 46 = .ok (.iload 6, 2) := by decide +kernel
theorem dX8_line_48 : decode cX8_line 48 = .ok (.invokevirtual 72, 3) := by decide +kernel
theorem dX8_line_51 : decode cX8_line 51 = .ok (.ireturn, 1) := by decide +kernel
theorem dX8_line_52 : decode cX8_line 52 = .ok (.aload 5, 2) := by decide +kernel
theorem dX8_line_54 : decode cX8_line 54 = .ok (.iload_n 3, 1) := by decide +kernel
theorem dX8_line_55 : decode cX8_line 55 = .ok (.iload 4, 2) := by decide +kernel
theorem dX8_line_57 : decode cX8_line 57 = .ok (.invokestatic 76, 3) := by decide +kernel
theorem dX8_line_60 : decode cX8_line 60 = .ok (.istore 7, 2) := by decide +kernel
theorem dX8_line_62 : decode cX8_line 62 = .ok (.iload 7, 2) := by decide +kernel
theorem dX8_line_64 : decode cX8_line 64 = .ok (.bipush (-9), 2) := by decide +kernel
theorem dX8_line_66 : decode cX8_line 66 = .ok (.if_icmp .eq 9, 3) := by decide +kernel
theorem dX8_line_69 : decode cX8_line 69 = .ok (.bipush (-100), 2) := by decide +kernel
theorem dX8_line_71 : decode cX8_line 71 = .ok (.iload 7, 2) := by decide +kernel
theorem dX8_line_73 : decode cX8_line 73 = .ok (.isub, 1) := by decide +kernel
theorem dX8_line_74 : decode cX8_line 74 = .ok (.ireturn, 1) := by decide +kernel
theorem dX8_line_75 : decode cX8_line 75 = .ok (.aload_n 0, 1) := by decide +kernel
theorem dX8_line_76 : decode cX8_line 76 = .ok (.aload 5, 2) := by decide +kernel
theorem dX8_line_78 : decode cX8_line 78 = .ok (.iload_n 3, 1) := by decide +kernel
theorem dX8_line_79 : decode cX8_line 79 = .ok (.iload 4, 2) := by decide +kernel
theorem dX8_line_81 : decode cX8_line 81 = .ok (.invokevirtual 80, 3) := by decide +kernel
theorem dX8_line_84 : decode cX8_line 84 = .ok (.aload_n 0, 1) := by decide +kernel
theorem dX8_line_85 : decode cX8_line 85 = .ok (.getfield 84, 3) := by decide +kernel
theorem dX8_line_88 : decode cX8_line 88 = .ok (.ireturn, 1) := by decide +kernel
theorem dX8_ofPerson_0 : decode cX8_ofPerson 0 = .ok (.aload_n 0, 1) := by decide +kernel
theorem dX8_ofPerson_1 : decode cX8_ofPerson 1 = .ok (.iload_n 1, 1) := by decide +kernel
theorem dX8_ofPerson_2 : decode cX8_ofPerson 2 = .ok (.invokevirtual 87, 3) := by decide +kernel
theorem dX8_ofPerson_5 : decode cX8_ofPerson 5 = .ok (.astore_n 3, 1) := by decide +kernel
theorem dX8_ofPerson_6 : decode cX8_ofPerson 6 = .ok (.aload_n 3, 1) := by decide +kernel
theorem dX8_ofPerson_7 : decode cX8_ofPerson 7 = .ok (.ifnonnull 5, 3) := by decide +kernel
theorem dX8_ofPerson_10 : decode cX8_ofPerson 10 = .ok (.iconst (-1), 1) := by decide +kernel
theorem dX8_ofPerson_11 : decode cX8_ofPerson 11 = .ok (.ireturn, 1) := by decide +kernel
theorem dX8_ofPerson_12 : decode cX8_ofPerson 12 = .ok (.iload_n 2, 1) := by decide +kernel
theorem dX8_ofPerson_13 : decode cX8_ofPerson 13 = .ok (.tableswitch 126 0 7 #[47, 52, 57, 62, 74, 91, 108, 117], 47) := by decide +kernel
theorem dX8_ofPerson_60 : decode cX8_ofPerson 60 = .ok (.aload_n 3, 1) := by decide +kernel
theorem dX8_ofPerson_61 : decode cX8_ofPerson 61 = .ok (.invokevirtual 91, 3) := by decide +kernel
theorem dX8_ofPerson_64 : decode cX8_ofPerson 64 = .ok (.ireturn, 1) := by decide +kernel
theorem dX8_ofPerson_65 : decode cX8_ofPerson 65 = .ok (.aload_n 3, 1) := by decide +kernel
theorem dX8_ofPerson_66 : decode cX8_ofPerson 66 = .ok (.getfield 95, 3) := by decide +kernel
theorem dX8_ofPerson_69 : decode cX8_ofPerson 69 = .ok (.ireturn, 1) := by decide +kernel
theorem dX8_ofPerson_70 : decode cX8_ofPerson 70 = .ok (.aload_n 3, 1) := by decide +kernel
theorem dX8_ofPerson_71 : decode cX8_ofPerson 71 = .ok (.getfield 98, 3) := by decide +kernel
theorem dX8_ofPerson_74 : decode cX8_ofPerson 74 = .ok (.ireturn, 1) := by decide +kernel
theorem dX8_ofPerson_75 : decode cX8_ofPerson 75 = .ok (.aload_n 3, 1) := by decide +kernel
theorem dX8_ofPerson_76 : decode cX8_ofPerson 76 = .ok (.invokevirtual 91, 3) := by decide +kernel
theorem dX8_ofPerson_79 : decode cX8_ofPerson 79 = .ok (.aload_n 3, 1) := by decide +kernel
theorem dX8_ofPerson_80 : decode cX8_ofPerson 80 = .ok (.getfield 95, 3) := by decide +kernel
theorem dX8_ofPerson_83 : decode cX8_ofPerson 83 = .ok (.invokestatic 101, 3) := by decide +kernel
theorem dX8_ofPerson_86 : decode cX8_ofPerson 86 = .ok (.ireturn, 1) := by decide +kernel
theorem dX8_ofPerson_87 : decode cX8_ofPerson 87 = .ok (.aload_n 0, 1) := by decide +kernel
theorem dX8_ofPerson_88 : decode cX8_ofPerson 88 = .ok (.aload_n 3, 1) := by decide +kernel
theorem dX8_ofPerson_89 : decode cX8_ofPerson 89 = .ok (.invokevirtual 91, 3) := by decide +kernel
theorem dX8_ofPerson_92 : decode cX8_ofPerson 92 = .ok (.aload_n 3, 1) := by decide +kernel
theorem dX8_ofPerson_93 : decode cX8_ofPerson 93 = .ok (.getfield 95, 3) := by decide +kernel
theorem dX8_ofPerson_96 : decode cX8_ofPerson 96 = .ok (.aload_n 3, 1) := by decide +kernel
theorem dX8_ofPerson_97 : decode cX8_ofPerson 97 = .ok (.getfield 98, 3) := by decide +kernel
theorem dX8_ofPerson_100 : decode cX8_ofPerson 100 = .ok (.invokevirtual 105, 3) := by decide +kernel
theorem dX8_ofPerson_103 : decode cX8_ofPerson 103 = .ok (.ireturn, 1) := by decide +kernel
theorem dX8_ofPerson_104 : decode cX8_ofPerson 104 = .ok (.aload_n 0, 1) := by decide +kernel
theorem dX8_ofPerson_105 : decode cX8_ofPerson 105 = .ok (.getfield 109, 3) := by decide +kernel
theorem dX8_ofPerson_108 : decode cX8_ofPerson 108 = .ok (.iload_n 1, 1) := by decide +kernel
theorem dX8_ofPerson_109 : decode cX8_ofPerson 109 = .ok (.invokestatic 112, 3) := by decide +kernel
theorem dX8_ofPerson_112 : decode cX8_ofPerson 112 = .ok (.ifCond .eq 7, 3) := by decide +kernel
theorem dX8_ofPerson_115 : decode cX8_ofPerson 115 = .ok (.iconst 1, 1) := by decide +kernel
theorem dX8_ofPerson_116 : decode cX8_ofPerson 116 = .ok (.goto 4, 3) := by decide +kernel
theorem dX8_ofPerson_119 : decode cX8_ofPerson 119 = .ok (.iconst 0, 1) := by decide +kernel
theorem dX8_ofPerson_120 : decode cX8_ofPerson 120 = .ok (.ireturn, 1) := by decide +kernel
theorem dX8_ofPerson_121 : decode cX8_ofPerson 121 = .ok (.aload_n 0, 1) := by decide +kernel
theorem dX8_ofPerson_122 : decode cX8_ofPerson 122 = .ok (.getfield 37, 3) := by decide +kernel
theorem dX8_ofPerson_125 : decode cX8_ofPerson 125 = .ok (.iload_n 1, 1) := by decide +kernel
theorem dX8_ofPerson_126 : decode cX8_ofPerson 126 = .ok (.invokevirtual 116, 3) := by decide +kernel
theorem dX8_ofPerson_129 : decode cX8_ofPerson 129 = .ok (.ireturn, 1) := by decide +kernel
theorem dX8_ofPerson_130 : decode cX8_ofPerson 130 = .ok (.aload_n 0, 1) := by decide +kernel
theorem dX8_ofPerson_131 : decode cX8_ofPerson 131 = .ok (.getfield 37, 3) := by decide +kernel
theorem dX8_ofPerson_134 : decode cX8_ofPerson 134 = .ok (.iload_n 1, 1) := by decide +kernel
theorem dX8_ofPerson_135 : decode cX8_ofPerson 135 = .ok (.invokevirtual 119, 3) := by decide +kernel
theorem dX8_ofPerson_138 : decode cX8_ofPerson 138 = .ok (.ireturn, 1) := by decide +kernel
theorem dX8_ofPerson_139 : decode cX8_ofPerson 139 = .ok (.bipush (-2), 2) := by decide +kernel
theorem dX8_ofPerson_141 : decode cX8_ofPerson 141 = .ok (.ireturn, 1) := by decide +kernel
theorem dX8_hurry_0 : decode cX8_hurry 0 = .ok (.aload_n 0, 1) := by decide +kernel
theorem dX8_hurry_1 : decode cX8_hurry 1 = .ok (.iload_n 1, 1) := by decide +kernel
theorem dX8_hurry_2 : decode cX8_hurry 2 = .ok (.invokevirtual 87, 3) := by decide +kernel
theorem dX8_hurry_5 : decode cX8_hurry 5 = .ok (.astore_n 3, 1) := by decide +kernel
theorem dX8_hurry_6 : decode cX8_hurry 6 = .ok (.aload_n 3, 1) := by decide +kernel
theorem dX8_hurry_7 : decode cX8_hurry 7 = .ok (.ifnonnull 5, 3) := by decide +kernel
theorem dX8_hurry_10 : decode cX8_hurry 10 = .ok (.iconst (-1), 1) := by decide +kernel
theorem dX8_hurry_11 : decode cX8_hurry 11 = .ok (.ireturn, 1) := by decide +kernel
theorem dX8_hurry_12 : decode cX8_hurry 12 = .ok (.iload_n 2, 1) := by decide +kernel
theorem dX8_hurry_13 : decode cX8_hurry 13 = .ok (.iconst 0, 1) := by decide +kernel
theorem dX8_hurry_14 : decode cX8_hurry 14 = .ok (.bipush 9, 2) := by decide +kernel
theorem dX8_hurry_16 : decode cX8_hurry 16 = .ok (.invokestatic 122, 3) := by decide +kernel
theorem dX8_hurry_19 : decode cX8_hurry 19 = .ok (.ifCond .ne 6, 3) := by decide +kernel
theorem dX8_hurry_22 : decode cX8_hurry 22 = .ok (.bipush (-2), 2) := by decide +kernel
theorem dX8_hurry_24 : decode cX8_hurry 24 = .ok (.ireturn, 1) := by decide +kernel
theorem dX8_hurry_25 : decode cX8_hurry 25 = .ok (.aload_n 3, 1) := by decide +kernel
theorem dX8_hurry_26 : decode cX8_hurry 26 = .ok (.getfield 95, 3) := by decide +kernel
theorem dX8_hurry_29 : decode cX8_hurry 29 = .ok (.istore 4, 2) := by decide +kernel
theorem dX8_hurry_31 : decode cX8_hurry 31 = .ok (.aload_n 3, 1) := by decide +kernel
theorem dX8_hurry_32 : decode cX8_hurry 32 = .ok (.iload_n 2, 1) := by decide +kernel
theorem dX8_hurry_33 : decode cX8_hurry 33 = .ok (.putfield 95, 3) := by decide +kernel
theorem dX8_hurry_36 : decode cX8_hurry 36 = .ok (.iload 4, 2) := by decide +kernel
theorem dX8_hurry_38 : decode cX8_hurry 38 = .ok (.ireturn, 1) := by decide +kernel
theorem dX8_wall_0 : decode cX8_wall 0 = .ok (.aload_n 0, 1) := by decide +kernel
theorem dX8_wall_1 : decode cX8_wall 1 = .ok (.iload_n 1, 1) := by decide +kernel
theorem dX8_wall_2 : decode cX8_wall 2 = .ok (.invokevirtual 87, 3) := by decide +kernel
theorem dX8_wall_5 : decode cX8_wall 5 = .ok (.astore_n 3, 1) := by decide +kernel
theorem dX8_wall_6 : decode cX8_wall 6 = .ok (.aload_n 3, 1) := by decide +kernel
theorem dX8_wall_7 : decode cX8_wall 7 = .ok (.ifnonnull 5, 3) := by decide +kernel
theorem dX8_wall_10 : decode cX8_wall 10 = .ok (.iconst (-1), 1) := by decide +kernel
theorem dX8_wall_11 : decode cX8_wall 11 = .ok (.ireturn, 1) := by decide +kernel
theorem dX8_wall_12 : decode cX8_wall 12 = .ok (.iload_n 2, 1) := by decide +kernel
theorem dX8_wall_13 : decode cX8_wall 13 = .ok (.iconst 0, 1) := by decide +kernel
theorem dX8_wall_14 : decode cX8_wall 14 = .ok (.bipush 9, 2) := by decide +kernel
theorem dX8_wall_16 : decode cX8_wall 16 = .ok (.invokestatic 122, 3) := by decide +kernel
theorem dX8_wall_19 : decode cX8_wall 19 = .ok (.ifCond .ne 6, 3) := by decide +kernel
theorem dX8_wall_22 : decode cX8_wall 22 = .ok (.bipush (-2), 2) := by decide +kernel
theorem dX8_wall_24 : decode cX8_wall 24 = .ok (.ireturn, 1) := by decide +kernel
theorem dX8_wall_25 : decode cX8_wall 25 = .ok (.aload_n 3, 1) := by decide +kernel
theorem dX8_wall_26 : decode cX8_wall 26 = .ok (.getfield 98, 3) := by decide +kernel
theorem dX8_wall_29 : decode cX8_wall 29 = .ok (.istore 4, 2) := by decide +kernel
theorem dX8_wall_31 : decode cX8_wall 31 = .ok (.aload_n 3, 1) := by decide +kernel
theorem dX8_wall_32 : decode cX8_wall 32 = .ok (.iload_n 2, 1) := by decide +kernel
theorem dX8_wall_33 : decode cX8_wall 33 = .ok (.putfield 98, 3) := by decide +kernel
theorem dX8_wall_36 : decode cX8_wall 36 = .ok (.iload 4, 2) := by decide +kernel
theorem dX8_wall_38 : decode cX8_wall 38 = .ok (.ireturn, 1) := by decide +kernel
theorem dX8_lease_0 : decode cX8_lease 0 = .ok (.iload_n 1, 1) := by decide +kernel
theorem dX8_lease_1 : decode cX8_lease 1 = .ok (.iconst 0, 1) := by decide +kernel
theorem dX8_lease_2 : decode cX8_lease 2 = .ok (.bipush 9, 2) := by decide +kernel
theorem dX8_lease_4 : decode cX8_lease 4 = .ok (.invokestatic 122, 3) := by decide +kernel
theorem dX8_lease_7 : decode cX8_lease 7 = .ok (.ifCond .ne 6, 3) := by decide +kernel
theorem dX8_lease_10 : decode cX8_lease 10 = .ok (.bipush (-2), 2) := by decide +kernel
theorem dX8_lease_12 : decode cX8_lease 12 = .ok (.ireturn, 1) := by decide +kernel
theorem dX8_lease_13 : decode cX8_lease 13 = .ok (.aload_n 0, 1) := by decide +kernel
theorem dX8_lease_14 : decode cX8_lease 14 = .ok (.getfield 84, 3) := by decide +kernel
theorem dX8_lease_17 : decode cX8_lease 17 = .ok (.ifCond .ne 6, 3) := by decide +kernel
theorem dX8_lease_20 : decode cX8_lease 20 = .ok (.bipush (-3), 2) := by decide +kernel
theorem dX8_lease_22 : decode cX8_lease 22 = .ok (.ireturn, 1) := by decide +kernel
theorem dX8_lease_23 : decode cX8_lease 23 = .ok (.aload_n 0, 1) := by decide +kernel
theorem dX8_lease_24 : decode cX8_lease 24 = .ok (.getfield 126, 3) := by decide +kernel
theorem dX8_lease_27 : decode cX8_lease 27 = .ok (.istore_n 2, 1) := by decide +kernel
theorem dX8_lease_28 : decode cX8_lease 28 = .ok (.aload_n 0, 1) := by decide +kernel
theorem dX8_lease_29 : decode cX8_lease 29 = .ok (.iload_n 1, 1) := by decide +kernel
theorem dX8_lease_30 : decode cX8_lease 30 = .ok (.putfield 126, 3) := by decide +kernel
theorem dX8_lease_33 : decode cX8_lease 33 = .ok (.iload_n 2, 1) := by decide +kernel
theorem dX8_lease_34 : decode cX8_lease 34 = .ok (.ireturn, 1) := by decide +kernel
theorem dX8_go_0 : decode cX8_go 0 = .ok (.aload_n 0, 1) := by decide +kernel
theorem dX8_go_1 : decode cX8_go 1 = .ok (.getfield 109, 3) := by decide +kernel
theorem dX8_go_4 : decode cX8_go 4 = .ok (.ifCond .ne 6, 3) := by decide +kernel
theorem dX8_go_7 : decode cX8_go 7 = .ok (.bipush (-3), 2) := by decide +kernel
theorem dX8_go_9 : decode cX8_go 9 = .ok (.ireturn, 1) := by decide +kernel
theorem dX8_go_10 : decode cX8_go 10 = .ok (.aload_n 0, 1) := by decide +kernel
theorem dX8_go_11 : decode cX8_go 11 = .ok (.getfield 30, 3) := by decide +kernel
theorem dX8_go_14 : decode cX8_go 14 = .ok (.aload_n 0, 1) := by decide +kernel
theorem dX8_go_15 : decode cX8_go 15 = .ok (.invokevirtual 129, 3) := by decide +kernel
theorem dX8_go_18 : decode cX8_go 18 = .ok (.aload_n 0, 1) := by decide +kernel
theorem dX8_go_19 : decode cX8_go 19 = .ok (.getfield 109, 3) := by decide +kernel
theorem dX8_go_22 : decode cX8_go 22 = .ok (.invokevirtual 133, 3) := by decide +kernel
theorem dX8_go_25 : decode cX8_go 25 = .ok (.istore_n 1, 1) := by decide +kernel
theorem dX8_go_26 : decode cX8_go 26 = .ok (.aload_n 0, 1) := by decide +kernel
theorem dX8_go_27 : decode cX8_go 27 = .ok (.dup, 1) := by decide +kernel
theorem dX8_go_28 : decode cX8_go 28 = .ok (.getfield 109, 3) := by decide +kernel
theorem dX8_go_31 : decode cX8_go 31 = .ok (.iload_n 1, 1) := by decide +kernel
theorem dX8_go_32 : decode cX8_go 32 = .ok (.invokestatic 137, 3) := by decide +kernel
theorem dX8_go_35 : decode cX8_go 35 = .ok (.iconst (-1), 1) := by decide +kernel
theorem dX8_go_36 : decode cX8_go 36 = .ok (.ixor, 1) := by decide +kernel
theorem dX8_go_37 : decode cX8_go 37 = .ok (.iand, 1) := by decide +kernel
theorem dX8_go_38 : decode cX8_go 38 = .ok (.putfield 109, 3) := by decide +kernel
theorem dX8_go_41 : decode cX8_go 41 = .ok (.aload_n 0, 1) := by decide +kernel
theorem dX8_go_42 : decode cX8_go 42 = .ok (.getfield 37, 3) := by decide +kernel
theorem dX8_go_45 : decode cX8_go 45 = .ok (.iload_n 1, 1) := by decide +kernel
theorem dX8_go_46 : decode cX8_go 46 = .ok (.aload_n 0, 1) := by decide +kernel
theorem dX8_go_47 : decode cX8_go 47 = .ok (.getfield 30, 3) := by decide +kernel
theorem dX8_go_50 : decode cX8_go 50 = .ok (.getfield 140, 3) := by decide +kernel
theorem dX8_go_53 : decode cX8_go 53 = .ok (.aload_n 0, 1) := by decide +kernel
theorem dX8_go_54 : decode cX8_go 54 = .ok (.getfield 30, 3) := by decide +kernel
theorem dX8_go_57 : decode cX8_go 57 = .ok (.getfield 143, 3) := by decide +kernel
theorem dX8_go_60 : decode cX8_go 60 = .ok (.invokevirtual 146, 3) := by decide +kernel
theorem dX8_go_63 : decode cX8_go 63 = .ok (.iload_n 1, 1) := by decide +kernel
theorem dX8_go_64 : decode cX8_go 64 = .ok (.ireturn, 1) := by decide +kernel
theorem dX8_morning_0 : decode cX8_morning 0 = .ok (.aload_n 0, 1) := by decide +kernel
theorem dX8_morning_1 : decode cX8_morning 1 = .ok (.getfield 84, 3) := by decide +kernel
theorem dX8_morning_4 : decode cX8_morning 4 = .ok (.ifCond .ne 6, 3) := by decide +kernel
theorem dX8_morning_7 : decode cX8_morning 7 = .ok (.bipush (-3), 2) := by decide +kernel
theorem dX8_morning_9 : decode cX8_morning 9 = .ok (.ireturn, 1) := by decide +kernel
theorem dX8_morning_10 : decode cX8_morning 10 = .ok (.aload_n 0, 1) := by decide +kernel
theorem dX8_morning_11 : decode cX8_morning 11 = .ok (.getfield 84, 3) := by decide +kernel
theorem dX8_morning_14 : decode cX8_morning 14 = .ok (.aload_n 0, 1) := by decide +kernel
theorem dX8_morning_15 : decode cX8_morning 15 = .ok (.getfield 109, 3) := by decide +kernel
theorem dX8_morning_18 : decode cX8_morning 18 = .ok (.invokestatic 150, 3) := by decide +kernel
theorem dX8_morning_21 : decode cX8_morning 21 = .ok (.isub, 1) := by decide +kernel
theorem dX8_morning_22 : decode cX8_morning 22 = .ok (.istore_n 1, 1) := by decide +kernel
theorem dX8_morning_23 : decode cX8_morning 23 = .ok (.aload_n 0, 1) := by decide +kernel
theorem dX8_morning_24 : decode cX8_morning 24 = .ok (.aload_n 0, 1) := by decide +kernel
theorem dX8_morning_25 : decode cX8_morning 25 = .ok (.invokevirtual 155, 3) := by decide +kernel
theorem dX8_morning_28 : decode cX8_morning 28 = .ok (.putfield 109, 3) := by decide +kernel
theorem dX8_morning_31 : decode cX8_morning 31 = .ok (.aload_n 0, 1) := by decide +kernel
theorem dX8_morning_32 : decode cX8_morning 32 = .ok (.dup, 1) := by decide +kernel
theorem dX8_morning_33 : decode cX8_morning 33 = .ok (.getfield 158, 3) := by decide +kernel
theorem dX8_morning_36 : decode cX8_morning 36 = .ok (.iconst 1, 1) := by decide +kernel
theorem dX8_morning_37 : decode cX8_morning 37 = .ok (.iadd, 1) := by decide +kernel
theorem dX8_morning_38 : decode cX8_morning 38 = .ok (.putfield 158, 3) := by decide +kernel
theorem dX8_morning_41 : decode cX8_morning 41 = .ok (.iload_n 1, 1) := by decide +kernel
theorem dX8_morning_42 : decode cX8_morning 42 = .ok (.ireturn, 1) := by decide +kernel
theorem dX8_owes_0 : decode cX8_owes 0 = .ok (.aload_n 0, 1) := by decide +kernel
theorem dX8_owes_1 : decode cX8_owes 1 = .ok (.iload_n 1, 1) := by decide +kernel
theorem dX8_owes_2 : decode cX8_owes 2 = .ok (.iload_n 2, 1) := by decide +kernel
theorem dX8_owes_3 : decode cX8_owes 3 = .ok (.invokevirtual 161, 3) := by decide +kernel
theorem dX8_owes_6 : decode cX8_owes 6 = .ok (.ifCond .ne 5, 3) := by decide +kernel
theorem dX8_owes_9 : decode cX8_owes 9 = .ok (.iconst (-1), 1) := by decide +kernel
theorem dX8_owes_10 : decode cX8_owes 10 = .ok (.ireturn, 1) := by decide +kernel
theorem dX8_owes_11 : decode cX8_owes 11 = .ok (.aload_n 0, 1) := by decide +kernel
theorem dX8_owes_12 : decode cX8_owes 12 = .ok (.getfield 37, 3) := by decide +kernel
theorem dX8_owes_15 : decode cX8_owes 15 = .ok (.iload_n 1, 1) := by decide +kernel
theorem dX8_owes_16 : decode cX8_owes 16 = .ok (.iload_n 2, 1) := by decide +kernel
theorem dX8_owes_17 : decode cX8_owes 17 = .ok (.invokevirtual 164, 3) := by decide +kernel
theorem dX8_owes_20 : decode cX8_owes 20 = .ok (.ireturn, 1) := by decide +kernel
theorem dX8_pays_0 : decode cX8_pays 0 = .ok (.aload_n 0, 1) := by decide +kernel
theorem dX8_pays_1 : decode cX8_pays 1 = .ok (.iload_n 1, 1) := by decide +kernel
theorem dX8_pays_2 : decode cX8_pays 2 = .ok (.iload_n 2, 1) := by decide +kernel
theorem dX8_pays_3 : decode cX8_pays 3 = .ok (.invokevirtual 161, 3) := by decide +kernel
theorem dX8_pays_6 : decode cX8_pays 6 = .ok (.ifCond .ne 5, 3) := by decide +kernel
theorem dX8_pays_9 : decode cX8_pays 9 = .ok (.iconst (-1), 1) := by decide +kernel
theorem dX8_pays_10 : decode cX8_pays 10 = .ok (.ireturn, 1) := by decide +kernel
theorem dX8_pays_11 : decode cX8_pays 11 = .ok (.iload_n 3, 1) := by decide +kernel
theorem dX8_pays_12 : decode cX8_pays 12 = .ok (.iconst 1, 1) := by decide +kernel
theorem dX8_pays_13 : decode cX8_pays 13 = .ok (.bipush 99, 2) := by decide +kernel
theorem dX8_pays_15 : decode cX8_pays 15 = .ok (.invokestatic 122, 3) := by decide +kernel
theorem dX8_pays_18 : decode cX8_pays 18 = .ok (.ifCond .ne 6, 3) := by decide +kernel
theorem dX8_pays_21 : decode cX8_pays 21 = .ok (.bipush (-2), 2) := by decide +kernel
theorem dX8_pays_23 : decode cX8_pays 23 = .ok (.ireturn, 1) := by decide +kernel
theorem dX8_pays_24 : decode cX8_pays 24 = .ok (.aload_n 0, 1) := by decide +kernel
theorem dX8_pays_25 : decode cX8_pays 25 = .ok (.getfield 37, 3) := by decide +kernel
theorem dX8_pays_28 : decode cX8_pays 28 = .ok (.iload_n 1, 1) := by decide +kernel
theorem dX8_pays_29 : decode cX8_pays 29 = .ok (.iload_n 2, 1) := by decide +kernel
theorem dX8_pays_30 : decode cX8_pays 30 = .ok (.invokevirtual 164, 3) := by decide +kernel
theorem dX8_pays_33 : decode cX8_pays 33 = .ok (.iload_n 3, 1) := by decide +kernel
theorem dX8_pays_34 : decode cX8_pays 34 = .ok (.if_icmp .ge 6, 3) := by decide +kernel
theorem dX8_pays_37 : decode cX8_pays 37 = .ok (.bipush (-3), 2) := by decide +kernel
theorem dX8_pays_39 : decode cX8_pays 39 = .ok (.ireturn, 1) := by decide +kernel
theorem dX8_pays_40 : decode cX8_pays 40 = .ok (.aload_n 0, 1) := by decide +kernel
theorem dX8_pays_41 : decode cX8_pays 41 = .ok (.getfield 37, 3) := by decide +kernel
theorem dX8_pays_44 : decode cX8_pays 44 = .ok (.iload_n 1, 1) := by decide +kernel
theorem dX8_pays_45 : decode cX8_pays 45 = .ok (.iload_n 2, 1) := by decide +kernel
theorem dX8_pays_46 : decode cX8_pays 46 = .ok (.iload_n 3, 1) := by decide +kernel
theorem dX8_pays_47 : decode cX8_pays 47 = .ok (.ineg, 1) := by decide +kernel
theorem dX8_pays_48 : decode cX8_pays 48 = .ok (.invokevirtual 146, 3) := by decide +kernel
theorem dX8_pays_51 : decode cX8_pays 51 = .ok (.aload_n 0, 1) := by decide +kernel
theorem dX8_pays_52 : decode cX8_pays 52 = .ok (.getfield 37, 3) := by decide +kernel
theorem dX8_pays_55 : decode cX8_pays 55 = .ok (.iload_n 1, 1) := by decide +kernel
theorem dX8_pays_56 : decode cX8_pays 56 = .ok (.iload_n 2, 1) := by decide +kernel
theorem dX8_pays_57 : decode cX8_pays 57 = .ok (.invokevirtual 164, 3) := by decide +kernel
theorem dX8_pays_60 : decode cX8_pays 60 = .ok (.ireturn, 1) := by decide +kernel
theorem dX8_calls_0 : decode cX8_calls 0 = .ok (.aload_n 0, 1) := by decide +kernel
theorem dX8_calls_1 : decode cX8_calls 1 = .ok (.iconst 0, 1) := by decide +kernel
theorem dX8_calls_2 : decode cX8_calls 2 = .ok (.putfield 56, 3) := by decide +kernel
theorem dX8_calls_5 : decode cX8_calls 5 = .ok (.aload_n 0, 1) := by decide +kernel
theorem dX8_calls_6 : decode cX8_calls 6 = .ok (.iload_n 1, 1) := by decide +kernel
theorem dX8_calls_7 : decode cX8_calls 7 = .ok (.invokevirtual 60, 3) := by decide +kernel
theorem dX8_calls_10 : decode cX8_calls 10 = .ok (.astore 6, 2) := by decide +kernel
theorem dX8_calls_12 : decode cX8_calls 12 = .ok (.aload 6, 2) := by decide +kernel
theorem dX8_calls_14 : decode cX8_calls 14 = .ok (.ifnonnull 5, 3) := by decide +kernel
theorem dX8_calls_17 : decode cX8_calls 17 = .ok (.iconst (-1), 1) := by decide +kernel
theorem dX8_calls_18 : decode cX8_calls 18 = .ok (.ireturn, 1) := by decide +kernel
theorem dX8_calls_19 : decode cX8_calls 19 = .ok (.iload_n 2, 1) := by decide +kernel
theorem dX8_calls_20 : decode cX8_calls 20 = .ok (.invokestatic 64, 3) := by decide +kernel
theorem dX8_calls_23 : decode cX8_calls 23 = .ok (.ifCond .eq 24, 3) := by decide +kernel
theorem dX8_calls_26 : decode cX8_calls 26 = .ok (.iload 4, 2) := by decide +kernel
theorem dX8_calls_28 : decode cX8_calls 28 = .ok (.iconst 0, 1) := by decide +kernel
theorem dX8_calls_29 : decode cX8_calls 29 = .ok (.bipush 20, 2) := by decide +kernel
theorem dX8_calls_31 : decode cX8_calls 31 = .ok (.invokestatic 122, 3) := by decide +kernel
theorem dX8_calls_34 : decode cX8_calls 34 = .ok (.ifCond .eq 13, 3) := by decide +kernel
theorem dX8_calls_37 : decode cX8_calls 37 = .ok (.iload 5, 2) := by decide +kernel
theorem dX8_calls_39 : decode cX8_calls 39 = .ok (.iconst 0, 1) := by decide +kernel
theorem dX8_calls_40 : decode cX8_calls 40 = .ok (.iconst 3, 1) := by decide +kernel
theorem dX8_calls_41 : decode cX8_calls 41 = .ok (.invokestatic 122, 3) := by decide +kernel
theorem dX8_calls_44 : decode cX8_calls 44 = .ok (.ifCond .ne 6, 3) := by decide +kernel
theorem dX8_calls_47 : decode cX8_calls 47 = .ok (.bipush (-2), 2) := by decide +kernel
theorem dX8_calls_49 : decode cX8_calls 49 = .ok (.ireturn, 1) := by decide +kernel
theorem dX8_calls_50 : decode cX8_calls 50 = .ok (.aload 6, 2) := by decide +kernel
theorem dX8_calls_52 : decode cX8_calls 52 = .ok (.iload_n 2, 1) := by decide +kernel
theorem dX8_calls_53 : decode cX8_calls 53 = .ok (.iload_n 3, 1) := by decide +kernel
theorem dX8_calls_54 : decode cX8_calls 54 = .ok (.iconst 2, 1) := by decide +kernel
theorem dX8_calls_55 : decode cX8_calls 55 = .ok (.iload 4, 2) := by decide +kernel
theorem dX8_calls_57 : decode cX8_calls 57 = .ok (.imul, 1) := by decide +kernel
theorem dX8_calls_58 : decode cX8_calls 58 = .ok (.invokestatic 68, 3) := by decide +kernel
theorem dX8_calls_61 : decode cX8_calls 61 = .ok (.istore 7, 2) := by decide +kernel
theorem dX8_calls_63 : decode cX8_calls 63 = .ok (.iload 7, 2) := by decide +kernel
theorem dX8_calls_65 : decode cX8_calls 65 = .ok (.ifCond .eq 10, 3) := by decide +kernel
theorem dX8_calls_68 : decode cX8_calls 68 = .ok (.aload_n 0, 1) := by decide +kernel
theorem dX8_calls_69 : decode cX8_calls 69 = .ok (.iload 7, 2) := by decide +kernel
theorem dX8_calls_71 : decode cX8_calls 71 = .ok (.invokevirtual 72, 3) := by decide +kernel
theorem dX8_calls_74 : decode cX8_calls 74 = .ok (.ireturn, 1) := by decide +kernel
theorem dX8_calls_75 : decode cX8_calls 75 = .ok (.aload_n 0, 1) := by decide +kernel
theorem dX8_calls_76 : decode cX8_calls 76 = .ok (.getfield 84, 3) := by decide +kernel
theorem dX8_calls_79 : decode cX8_calls 79 = .ok (.ifCond .ne 6, 3) := by decide +kernel
theorem dX8_calls_82 : decode cX8_calls 82 = .ok (.bipush (-3), 2) := by decide +kernel
theorem dX8_calls_84 : decode cX8_calls 84 = .ok (.ireturn, 1) := by decide +kernel
theorem dX8_calls_85 : decode cX8_calls 85 = .ok (.aload_n 0, 1) := by decide +kernel
theorem dX8_calls_86 : decode cX8_calls 86 = .ok (.aload 6, 2) := by decide +kernel
theorem dX8_calls_88 : decode cX8_calls 88 = .ok (.iload_n 3, 1) := by decide +kernel
theorem dX8_calls_89 : decode cX8_calls 89 = .ok (.iload 4, 2) := by decide +kernel
theorem dX8_calls_91 : decode cX8_calls 91 = .ok (.invokevirtual 167, 3) := by decide +kernel
theorem dX8_calls_94 : decode cX8_calls 94 = .ok (.ifCond .ne 5, 3) := by decide +kernel
theorem dX8_calls_97 : decode cX8_calls 97 = .ok (.iconst (-1), 1) := by decide +kernel
theorem dX8_calls_98 : decode cX8_calls 98 = .ok (.ireturn, 1) := by decide +kernel
theorem dX8_calls_99 : decode cX8_calls 99 = .ok (.aload_n 0, 1) := by decide +kernel
theorem dX8_calls_100 : decode cX8_calls 100 = .ok (.aload 6, 2) := by decide +kernel
theorem dX8_calls_102 : decode cX8_calls 102 = .ok (.iload_n 3, 1) := by decide +kernel
theorem dX8_calls_103 : decode cX8_calls 103 = .ok (.iload 4, 2) := by decide +kernel
theorem dX8_calls_105 : decode cX8_calls 105 = .ok (.iload 5, 2) := by decide +kernel
theorem dX8_calls_107 : decode cX8_calls 107 = .ok (.invokevirtual 171, 3) := by decide +kernel
theorem dX8_calls_110 : decode cX8_calls 110 = .ok (.ireturn, 1) := by decide +kernel
theorem dX8_order_0 : decode cX8_order 0 = .ok (.iload_n 1, 1) := by decide +kernel
theorem dX8_order_1 : decode cX8_order 1 = .ok (.iconst 0, 1) := by decide +kernel
theorem dX8_order_2 : decode cX8_order 2 = .ok (.iconst 5, 1) := by decide +kernel
theorem dX8_order_3 : decode cX8_order 3 = .ok (.invokestatic 122, 3) := by decide +kernel
theorem dX8_order_6 : decode cX8_order 6 = .ok (.ifCond .eq 12, 3) := by decide +kernel
theorem dX8_order_9 : decode cX8_order 9 = .ok (.iload_n 2, 1) := by decide +kernel
theorem dX8_order_10 : decode cX8_order 10 = .ok (.iconst 0, 1) := by decide +kernel
theorem dX8_order_11 : decode cX8_order 11 = .ok (.iconst 1, 1) := by decide +kernel
theorem dX8_order_12 : decode cX8_order 12 = .ok (.invokestatic 122, 3) := by decide +kernel
theorem dX8_order_15 : decode cX8_order 15 = .ok (.ifCond .ne 6, 3) := by decide +kernel
theorem dX8_order_18 : decode cX8_order 18 = .ok (.bipush (-2), 2) := by decide +kernel
theorem dX8_order_20 : decode cX8_order 20 = .ok (.ireturn, 1) := by decide +kernel
theorem dX8_order_21 : decode cX8_order 21 = .ok (.aload_n 0, 1) := by decide +kernel
theorem dX8_order_22 : decode cX8_order 22 = .ok (.getfield 84, 3) := by decide +kernel
theorem dX8_order_25 : decode cX8_order 25 = .ok (.ifCond .ne 6, 3) := by decide +kernel
theorem dX8_order_28 : decode cX8_order 28 = .ok (.bipush (-3), 2) := by decide +kernel
theorem dX8_order_30 : decode cX8_order 30 = .ok (.ireturn, 1) := by decide +kernel
theorem dX8_order_31 : decode cX8_order 31 = .ok (.aload_n 0, 1) := by decide +kernel
theorem dX8_order_32 : decode cX8_order 32 = .ok (.getfield 30, 3) := by decide +kernel
theorem dX8_order_35 : decode cX8_order 35 = .ok (.aload_n 0, 1) := by decide +kernel
theorem dX8_order_36 : decode cX8_order 36 = .ok (.invokevirtual 129, 3) := by decide +kernel
theorem dX8_order_39 : decode cX8_order 39 = .ok (.aload_n 0, 1) := by decide +kernel
theorem dX8_order_40 : decode cX8_order 40 = .ok (.getfield 109, 3) := by decide +kernel
theorem dX8_order_43 : decode cX8_order 43 = .ok (.invokevirtual 174, 3) := by decide +kernel
theorem dX8_order_46 : decode cX8_order 46 = .ok (.istore_n 3, 1) := by decide +kernel
theorem dX8_order_47 : decode cX8_order 47 = .ok (.iload_n 1, 1) := by decide +kernel
theorem dX8_order_48 : decode cX8_order 48 = .ok (.iload_n 3, 1) := by decide +kernel
theorem dX8_order_49 : decode cX8_order 49 = .ok (.if_icmp .lt 6, 3) := by decide +kernel
theorem dX8_order_52 : decode cX8_order 52 = .ok (.bipush (-9), 2) := by decide +kernel
theorem dX8_order_54 : decode cX8_order 54 = .ok (.ireturn, 1) := by decide +kernel
theorem dX8_order_55 : decode cX8_order 55 = .ok (.iload_n 2, 1) := by decide +kernel
theorem dX8_order_56 : decode cX8_order 56 = .ok (.ifCond .ne 15, 3) := by decide +kernel
theorem dX8_order_59 : decode cX8_order 59 = .ok (.aload_n 0, 1) := by decide +kernel
theorem dX8_order_60 : decode cX8_order 60 = .ok (.getfield 30, 3) := by decide +kernel
theorem dX8_order_63 : decode cX8_order 63 = .ok (.getfield 177, 3) := by decide +kernel
theorem dX8_order_66 : decode cX8_order 66 = .ok (.iload_n 1, 1) := by decide +kernel
theorem dX8_order_67 : decode cX8_order 67 = .ok (.iaload, 1) := by decide +kernel
theorem dX8_order_68 : decode cX8_order 68 = .ok (.goto 12, 3) := by decide +kernel
theorem dX8_order_71 : decode cX8_order 71 = .ok (.aload_n 0, 1) := by decide +kernel
theorem dX8_order_72 : decode cX8_order 72 = .ok (.getfield 30, 3) := by decide +kernel
theorem dX8_order_75 : decode cX8_order 75 = .ok (.getfield 180, 3) := by decide +kernel
theorem dX8_order_78 : decode cX8_order 78 = .ok (.iload_n 1, 1) := by decide +kernel
theorem dX8_order_79 : decode cX8_order 79 = .ok (.iaload, 1) := by decide +kernel
theorem dX8_order_80 : decode cX8_order 80 = .ok (.ireturn, 1) := by decide +kernel
theorem dX8_loss_0 : decode cX8_loss 0 = .ok (.iload_n 1, 1) := by decide +kernel
theorem dX8_loss_1 : decode cX8_loss 1 = .ok (.iconst 0, 1) := by decide +kernel
theorem dX8_loss_2 : decode cX8_loss 2 = .ok (.iconst 1, 1) := by decide +kernel
theorem dX8_loss_3 : decode cX8_loss 3 = .ok (.invokestatic 122, 3) := by decide +kernel
theorem dX8_loss_6 : decode cX8_loss 6 = .ok (.ifCond .ne 6, 3) := by decide +kernel
theorem dX8_loss_9 : decode cX8_loss 9 = .ok (.bipush (-2), 2) := by decide +kernel
theorem dX8_loss_11 : decode cX8_loss 11 = .ok (.ireturn, 1) := by decide +kernel
theorem dX8_loss_12 : decode cX8_loss 12 = .ok (.aload_n 0, 1) := by decide +kernel
theorem dX8_loss_13 : decode cX8_loss 13 = .ok (.getfield 84, 3) := by decide +kernel
theorem dX8_loss_16 : decode cX8_loss 16 = .ok (.ifCond .ne 6, 3) := by decide +kernel
theorem dX8_loss_19 : decode cX8_loss 19 = .ok (.bipush (-3), 2) := by decide +kernel
theorem dX8_loss_21 : decode cX8_loss 21 = .ok (.ireturn, 1) := by decide +kernel
theorem dX8_loss_22 : decode cX8_loss 22 = .ok (.iload_n 1, 1) := by decide +kernel
theorem dX8_loss_23 : decode cX8_loss 23 = .ok (.ifCond .ne 10, 3) := by decide +kernel
theorem dX8_loss_26 : decode cX8_loss 26 = .ok (.aload_n 0, 1) := by decide +kernel
theorem dX8_loss_27 : decode cX8_loss 27 = .ok (.invokevirtual 183, 3) := by decide +kernel
theorem dX8_loss_30 : decode cX8_loss 30 = .ok (.goto 7, 3) := by decide +kernel
theorem dX8_loss_33 : decode cX8_loss 33 = .ok (.aload_n 0, 1) := by decide +kernel
theorem dX8_loss_34 : decode cX8_loss 34 = .ok (.invokevirtual 186, 3) := by decide +kernel
theorem dX8_loss_37 : decode cX8_loss 37 = .ok (.ireturn, 1) := by decide +kernel
theorem dX8_let_0 : decode cX8_let 0 = .ok (.aload_n 0, 1) := by decide +kernel
theorem dX8_let_1 : decode cX8_let 1 = .ok (.iload_n 1, 1) := by decide +kernel
theorem dX8_let_2 : decode cX8_let 2 = .ok (.invokevirtual 87, 3) := by decide +kernel
theorem dX8_let_5 : decode cX8_let 5 = .ok (.astore_n 3, 1) := by decide +kernel
theorem dX8_let_6 : decode cX8_let 6 = .ok (.aload_n 3, 1) := by decide +kernel
theorem dX8_let_7 : decode cX8_let 7 = .ok (.ifnonnull 5, 3) := by decide +kernel
theorem dX8_let_10 : decode cX8_let 10 = .ok (.iconst (-1), 1) := by decide +kernel
theorem dX8_let_11 : decode cX8_let 11 = .ok (.ireturn, 1) := by decide +kernel
theorem dX8_let_12 : decode cX8_let 12 = .ok (.iload_n 2, 1) := by decide +kernel
theorem dX8_let_13 : decode cX8_let 13 = .ok (.iconst 0, 1) := by decide +kernel
theorem dX8_let_14 : decode cX8_let 14 = .ok (.iconst 5, 1) := by decide +kernel
theorem dX8_let_15 : decode cX8_let 15 = .ok (.invokestatic 122, 3) := by decide +kernel
theorem dX8_let_18 : decode cX8_let 18 = .ok (.ifCond .ne 6, 3) := by decide +kernel
theorem dX8_let_21 : decode cX8_let 21 = .ok (.bipush (-2), 2) := by decide +kernel
theorem dX8_let_23 : decode cX8_let 23 = .ok (.ireturn, 1) := by decide +kernel
theorem dX8_let_24 : decode cX8_let 24 = .ok (.aload_n 0, 1) := by decide +kernel
theorem dX8_let_25 : decode cX8_let 25 = .ok (.getfield 109, 3) := by decide +kernel
theorem dX8_let_28 : decode cX8_let 28 = .ok (.iload_n 1, 1) := by decide +kernel
theorem dX8_let_29 : decode cX8_let 29 = .ok (.invokestatic 112, 3) := by decide +kernel
theorem dX8_let_32 : decode cX8_let 32 = .ok (.ifCond .ne 6, 3) := by decide +kernel
theorem dX8_let_35 : decode cX8_let 35 = .ok (.bipush (-3), 2) := by decide +kernel
theorem dX8_let_37 : decode cX8_let 37 = .ok (.ireturn, 1) := by decide +kernel
theorem dX8_let_38 : decode cX8_let 38 = .ok (.aload_n 0, 1) := by decide +kernel
theorem dX8_let_39 : decode cX8_let 39 = .ok (.invokevirtual 129, 3) := by decide +kernel
theorem dX8_let_42 : decode cX8_let 42 = .ok (.astore 4, 2) := by decide +kernel
theorem dX8_let_44 : decode cX8_let 44 = .ok (.iconst 0, 1) := by decide +kernel
theorem dX8_let_45 : decode cX8_let 45 = .ok (.istore 5, 2) := by decide +kernel
theorem dX8_let_47 : decode cX8_let 47 = .ok (.iload 5, 2) := by decide +kernel
theorem dX8_let_49 : decode cX8_let 49 = .ok (.bipush 9, 2) := by decide +kernel
theorem dX8_let_51 : decode cX8_let 51 = .ok (.if_icmp .gt 48, 3) := by decide +kernel
theorem dX8_let_54 : decode cX8_let 54 = .ok (.aload 4, 2) := by decide +kernel
theorem dX8_let_56 : decode cX8_let 56 = .ok (.iload_n 1, 1) := by decide +kernel
theorem dX8_let_57 : decode cX8_let 57 = .ok (.aload_n 0, 1) := by decide +kernel
theorem dX8_let_58 : decode cX8_let 58 = .ok (.aload_n 3, 1) := by decide +kernel
theorem dX8_let_59 : decode cX8_let 59 = .ok (.invokevirtual 91, 3) := by decide +kernel
theorem dX8_let_62 : decode cX8_let 62 = .ok (.aload_n 3, 1) := by decide +kernel
theorem dX8_let_63 : decode cX8_let 63 = .ok (.getfield 95, 3) := by decide +kernel
theorem dX8_let_66 : decode cX8_let 66 = .ok (.iload 5, 2) := by decide +kernel
theorem dX8_let_68 : decode cX8_let 68 = .ok (.invokevirtual 105, 3) := by decide +kernel
theorem dX8_let_71 : decode cX8_let 71 = .ok (.iastore, 1) := by decide +kernel
theorem dX8_let_72 : decode cX8_let 72 = .ok (.aload_n 0, 1) := by decide +kernel
theorem dX8_let_73 : decode cX8_let 73 = .ok (.getfield 30, 3) := by decide +kernel
theorem dX8_let_76 : decode cX8_let 76 = .ok (.iload_n 1, 1) := by decide +kernel
theorem dX8_let_77 : decode cX8_let 77 = .ok (.aload 4, 2) := by decide +kernel
theorem dX8_let_79 : decode cX8_let 79 = .ok (.aload_n 0, 1) := by decide +kernel
theorem dX8_let_80 : decode cX8_let 80 = .ok (.getfield 109, 3) := by decide +kernel
theorem dX8_let_83 : decode cX8_let 83 = .ok (.invokevirtual 189, 3) := by decide +kernel
theorem dX8_let_86 : decode cX8_let 86 = .ok (.iload_n 2, 1) := by decide +kernel
theorem dX8_let_87 : decode cX8_let 87 = .ok (.if_icmp .gt 6, 3) := by decide +kernel
theorem dX8_let_90 : decode cX8_let 90 = .ok (.iload 5, 2) := by decide +kernel
theorem dX8_let_92 : decode cX8_let 92 = .ok (.ireturn, 1) := by decide +kernel
theorem dX8_let_93 : decode cX8_let 93 = .ok (.iinc 5 1, 3) := by decide +kernel
theorem dX8_let_96 : decode cX8_let 96 = .ok (.goto (-49), 3) := by decide +kernel
theorem dX8_let_99 : decode cX8_let 99 = .ok (.bipush (-9), 2) := by decide +kernel
theorem dX8_let_101 : decode cX8_let 101 = .ok (.ireturn, 1) := by decide +kernel
theorem dX8_balance_0 : decode cX8_balance 0 = .ok (.aload_n 0, 1) := by decide +kernel
theorem dX8_balance_1 : decode cX8_balance 1 = .ok (.iload_n 1, 1) := by decide +kernel
theorem dX8_balance_2 : decode cX8_balance 2 = .ok (.invokevirtual 87, 3) := by decide +kernel
theorem dX8_balance_5 : decode cX8_balance 5 = .ok (.ifnonnull 5, 3) := by decide +kernel
theorem dX8_balance_8 : decode cX8_balance 8 = .ok (.iconst (-1), 1) := by decide +kernel
theorem dX8_balance_9 : decode cX8_balance 9 = .ok (.ireturn, 1) := by decide +kernel
theorem dX8_balance_10 : decode cX8_balance 10 = .ok (.aload_n 0, 1) := by decide +kernel
theorem dX8_balance_11 : decode cX8_balance 11 = .ok (.getfield 37, 3) := by decide +kernel
theorem dX8_balance_14 : decode cX8_balance 14 = .ok (.iload_n 1, 1) := by decide +kernel
theorem dX8_balance_15 : decode cX8_balance 15 = .ok (.invokevirtual 193, 3) := by decide +kernel
theorem dX8_balance_18 : decode cX8_balance 18 = .ok (.sipush 10000, 3) := by decide +kernel
theorem dX8_balance_21 : decode cX8_balance 21 = .ok (.iadd, 1) := by decide +kernel
theorem dX8_balance_22 : decode cX8_balance 22 = .ok (.ireturn, 1) := by decide +kernel
theorem dX8_cleared_0 : decode cX8_cleared 0 = .ok (.iload_n 1, 1) := by decide +kernel
theorem dX8_cleared_1 : decode cX8_cleared 1 = .ok (.iconst 0, 1) := by decide +kernel
theorem dX8_cleared_2 : decode cX8_cleared 2 = .ok (.iconst 1, 1) := by decide +kernel
theorem dX8_cleared_3 : decode cX8_cleared 3 = .ok (.invokestatic 122, 3) := by decide +kernel
theorem dX8_cleared_6 : decode cX8_cleared 6 = .ok (.ifCond .ne 6, 3) := by decide +kernel
theorem dX8_cleared_9 : decode cX8_cleared 9 = .ok (.bipush (-2), 2) := by decide +kernel
theorem dX8_cleared_11 : decode cX8_cleared 11 = .ok (.ireturn, 1) := by decide +kernel
theorem dX8_cleared_12 : decode cX8_cleared 12 = .ok (.aload_n 0, 1) := by decide +kernel
theorem dX8_cleared_13 : decode cX8_cleared 13 = .ok (.getfield 84, 3) := by decide +kernel
theorem dX8_cleared_16 : decode cX8_cleared 16 = .ok (.ifCond .ne 6, 3) := by decide +kernel
theorem dX8_cleared_19 : decode cX8_cleared 19 = .ok (.bipush (-3), 2) := by decide +kernel
theorem dX8_cleared_21 : decode cX8_cleared 21 = .ok (.ireturn, 1) := by decide +kernel
theorem dX8_cleared_22 : decode cX8_cleared 22 = .ok (.iload_n 1, 1) := by decide +kernel
theorem dX8_cleared_23 : decode cX8_cleared 23 = .ok (.ifCond .ne 13, 3) := by decide +kernel
theorem dX8_cleared_26 : decode cX8_cleared 26 = .ok (.aload_n 0, 1) := by decide +kernel
theorem dX8_cleared_27 : decode cX8_cleared 27 = .ok (.getfield 37, 3) := by decide +kernel
theorem dX8_cleared_30 : decode cX8_cleared 30 = .ok (.invokevirtual 196, 3) := by decide +kernel
theorem dX8_cleared_33 : decode cX8_cleared 33 = .ok (.goto 10, 3) := by decide +kernel
theorem dX8_cleared_36 : decode cX8_cleared 36 = .ok (.aload_n 0, 1) := by decide +kernel
theorem dX8_cleared_37 : decode cX8_cleared 37 = .ok (.getfield 37, 3) := by decide +kernel
theorem dX8_cleared_40 : decode cX8_cleared 40 = .ok (.invokevirtual 199, 3) := by decide +kernel
theorem dX8_cleared_43 : decode cX8_cleared 43 = .ok (.ireturn, 1) := by decide +kernel
theorem dX8_were_0 : decode cX8_were 0 = .ok (.aload_n 0, 1) := by decide +kernel
theorem dX8_were_1 : decode cX8_were 1 = .ok (.iload_n 1, 1) := by decide +kernel
theorem dX8_were_2 : decode cX8_were 2 = .ok (.invokevirtual 87, 3) := by decide +kernel
theorem dX8_were_5 : decode cX8_were 5 = .ok (.ifnonnull 5, 3) := by decide +kernel
theorem dX8_were_8 : decode cX8_were 8 = .ok (.iconst (-1), 1) := by decide +kernel
theorem dX8_were_9 : decode cX8_were 9 = .ok (.ireturn, 1) := by decide +kernel
theorem dX8_were_10 : decode cX8_were 10 = .ok (.iload_n 2, 1) := by decide +kernel
theorem dX8_were_11 : decode cX8_were 11 = .ok (.iconst 0, 1) := by decide +kernel
theorem dX8_were_12 : decode cX8_were 12 = .ok (.bipush 18, 2) := by decide +kernel
theorem dX8_were_14 : decode cX8_were 14 = .ok (.invokestatic 122, 3) := by decide +kernel
theorem dX8_were_17 : decode cX8_were 17 = .ok (.ifCond .eq 12, 3) := by decide +kernel
theorem dX8_were_20 : decode cX8_were 20 = .ok (.iload_n 3, 1) := by decide +kernel
theorem dX8_were_21 : decode cX8_were 21 = .ok (.iconst 0, 1) := by decide +kernel
theorem dX8_were_22 : decode cX8_were 22 = .ok (.iconst 2, 1) := by decide +kernel
theorem dX8_were_23 : decode cX8_were 23 = .ok (.invokestatic 122, 3) := by decide +kernel
theorem dX8_were_26 : decode cX8_were 26 = .ok (.ifCond .ne 6, 3) := by decide +kernel
theorem dX8_were_29 : decode cX8_were 29 = .ok (.bipush (-2), 2) := by decide +kernel
theorem dX8_were_31 : decode cX8_were 31 = .ok (.ireturn, 1) := by decide +kernel
theorem dX8_were_32 : decode cX8_were 32 = .ok (.aload_n 0, 1) := by decide +kernel
theorem dX8_were_33 : decode cX8_were 33 = .ok (.invokevirtual 129, 3) := by decide +kernel
theorem dX8_were_36 : decode cX8_were 36 = .ok (.astore 4, 2) := by decide +kernel
theorem dX8_were_38 : decode cX8_were 38 = .ok (.iconst 0, 1) := by decide +kernel
theorem dX8_were_39 : decode cX8_were 39 = .ok (.istore 5, 2) := by decide +kernel
theorem dX8_were_41 : decode cX8_were 41 = .ok (.bipush (-9), 2) := by decide +kernel
theorem dX8_were_43 : decode cX8_were 43 = .ok (.istore 6, 2) := by decide +kernel
theorem dX8_were_45 : decode cX8_were 45 = .ok (.aload_n 0, 1) := by decide +kernel
theorem dX8_were_46 : decode cX8_were 46 = .ok (.invokevirtual 155, 3) := by decide +kernel
theorem dX8_were_49 : decode cX8_were 49 = .ok (.istore 7, 2) := by decide +kernel
theorem dX8_were_51 : decode cX8_were 51 = .ok (.iconst 1, 1) := by decide +kernel
theorem dX8_were_52 : decode cX8_were 52 = .ok (.istore 8, 2) := by decide +kernel
theorem dX8_were_54 : decode cX8_were 54 = .ok (.iload 8, 2) := by decide +kernel
theorem dX8_were_56 : decode cX8_were 56 = .ok (.aload_n 0, 1) := by decide +kernel
theorem dX8_were_57 : decode cX8_were 57 = .ok (.invokevirtual 155, 3) := by decide +kernel
theorem dX8_were_60 : decode cX8_were 60 = .ok (.if_icmp .gt 61, 3) := by decide +kernel
theorem dX8_were_63 : decode cX8_were 63 = .ok (.aload_n 0, 1) := by decide +kernel
theorem dX8_were_64 : decode cX8_were 64 = .ok (.getfield 30, 3) := by decide +kernel
theorem dX8_were_67 : decode cX8_were 67 = .ok (.aload 4, 2) := by decide +kernel
theorem dX8_were_69 : decode cX8_were 69 = .ok (.iload 8, 2) := by decide +kernel
theorem dX8_were_71 : decode cX8_were 71 = .ok (.invokevirtual 133, 3) := by decide +kernel
theorem dX8_were_74 : decode cX8_were 74 = .ok (.iload_n 1, 1) := by decide +kernel
theorem dX8_were_75 : decode cX8_were 75 = .ok (.if_icmp .ne 40, 3) := by decide +kernel
theorem dX8_were_78 : decode cX8_were 78 = .ok (.aload_n 0, 1) := by decide +kernel
theorem dX8_were_79 : decode cX8_were 79 = .ok (.getfield 30, 3) := by decide +kernel
theorem dX8_were_82 : decode cX8_were 82 = .ok (.getfield 143, 3) := by decide +kernel
theorem dX8_were_85 : decode cX8_were 85 = .ok (.iload_n 2, 1) := by decide +kernel
theorem dX8_were_86 : decode cX8_were 86 = .ok (.if_icmp .ne 29, 3) := by decide +kernel
theorem dX8_were_89 : decode cX8_were 89 = .ok (.iinc 5 1, 3) := by decide +kernel
theorem dX8_were_92 : decode cX8_were 92 = .ok (.iload 6, 2) := by decide +kernel
theorem dX8_were_94 : decode cX8_were 94 = .ok (.bipush (-9), 2) := by decide +kernel
theorem dX8_were_96 : decode cX8_were 96 = .ok (.if_icmp .ne 8, 3) := by decide +kernel
theorem dX8_were_99 : decode cX8_were 99 = .ok (.iload 8, 2) := by decide +kernel
theorem dX8_were_101 : decode cX8_were 101 = .ok (.goto 5, 3) := by decide +kernel
theorem dX8_were_104 : decode cX8_were 104 = .ok (.iload 6, 2) := by decide +kernel
theorem dX8_were_106 : decode cX8_were 106 = .ok (.istore 6, 2) := by decide +kernel
theorem dX8_were_108 : decode cX8_were 108 = .ok (.iload 7, 2) := by decide +kernel
theorem dX8_were_110 : decode cX8_were 110 = .ok (.iload 8, 2) := by decide +kernel
theorem dX8_were_112 : decode cX8_were 112 = .ok (.iand, 1) := by decide +kernel
theorem dX8_were_113 : decode cX8_were 113 = .ok (.istore 7, 2) := by decide +kernel
theorem dX8_were_115 : decode cX8_were 115 = .ok (.iinc 8 1, 3) := by decide +kernel
theorem dX8_were_118 : decode cX8_were 118 = .ok (.goto (-64), 3) := by decide +kernel
theorem dX8_were_121 : decode cX8_were 121 = .ok (.iload_n 3, 1) := by decide +kernel
theorem dX8_were_122 : decode cX8_were 122 = .ok (.ifCond .ne 6, 3) := by decide +kernel
theorem dX8_were_125 : decode cX8_were 125 = .ok (.iload 5, 2) := by decide +kernel
theorem dX8_were_127 : decode cX8_were 127 = .ok (.ireturn, 1) := by decide +kernel
theorem dX8_were_128 : decode cX8_were 128 = .ok (.iload 5, 2) := by decide +kernel
theorem dX8_were_130 : decode cX8_were 130 = .ok (.ifCond .ne 6, 3) := by decide +kernel
theorem dX8_were_133 : decode cX8_were 133 = .ok (.bipush (-9), 2) := by decide +kernel
theorem dX8_were_135 : decode cX8_were 135 = .ok (.ireturn, 1) := by decide +kernel
theorem dX8_were_136 : decode cX8_were 136 = .ok (.iload_n 3, 1) := by decide +kernel
theorem dX8_were_137 : decode cX8_were 137 = .ok (.iconst 1, 1) := by decide +kernel
theorem dX8_were_138 : decode cX8_were 138 = .ok (.if_icmp .ne 8, 3) := by decide +kernel
theorem dX8_were_141 : decode cX8_were 141 = .ok (.iload 6, 2) := by decide +kernel
theorem dX8_were_143 : decode cX8_were 143 = .ok (.goto 5, 3) := by decide +kernel
theorem dX8_were_146 : decode cX8_were 146 = .ok (.iload 7, 2) := by decide +kernel
theorem dX8_were_148 : decode cX8_were 148 = .ok (.ireturn, 1) := by decide +kernel
theorem dX8_reading_0 : decode cX8_reading 0 = .ok (.aload_n 0, 1) := by decide +kernel
theorem dX8_reading_1 : decode cX8_reading 1 = .ok (.iload_n 1, 1) := by decide +kernel
theorem dX8_reading_2 : decode cX8_reading 2 = .ok (.invokevirtual 87, 3) := by decide +kernel
theorem dX8_reading_5 : decode cX8_reading 5 = .ok (.ifnonnull 5, 3) := by decide +kernel
theorem dX8_reading_8 : decode cX8_reading 8 = .ok (.iconst (-1), 1) := by decide +kernel
theorem dX8_reading_9 : decode cX8_reading 9 = .ok (.ireturn, 1) := by decide +kernel
theorem dX8_reading_10 : decode cX8_reading 10 = .ok (.iload_n 2, 1) := by decide +kernel
theorem dX8_reading_11 : decode cX8_reading 11 = .ok (.iconst 0, 1) := by decide +kernel
theorem dX8_reading_12 : decode cX8_reading 12 = .ok (.bipush 18, 2) := by decide +kernel
theorem dX8_reading_14 : decode cX8_reading 14 = .ok (.invokestatic 122, 3) := by decide +kernel
theorem dX8_reading_17 : decode cX8_reading 17 = .ok (.ifCond .eq 12, 3) := by decide +kernel
theorem dX8_reading_20 : decode cX8_reading 20 = .ok (.iload_n 3, 1) := by decide +kernel
theorem dX8_reading_21 : decode cX8_reading 21 = .ok (.iconst 0, 1) := by decide +kernel
theorem dX8_reading_22 : decode cX8_reading 22 = .ok (.iconst 1, 1) := by decide +kernel
theorem dX8_reading_23 : decode cX8_reading 23 = .ok (.invokestatic 122, 3) := by decide +kernel
theorem dX8_reading_26 : decode cX8_reading 26 = .ok (.ifCond .ne 6, 3) := by decide +kernel
theorem dX8_reading_29 : decode cX8_reading 29 = .ok (.bipush (-2), 2) := by decide +kernel
theorem dX8_reading_31 : decode cX8_reading 31 = .ok (.ireturn, 1) := by decide +kernel
theorem dX8_reading_32 : decode cX8_reading 32 = .ok (.aload_n 0, 1) := by decide +kernel
theorem dX8_reading_33 : decode cX8_reading 33 = .ok (.getfield 44, 3) := by decide +kernel
theorem dX8_reading_36 : decode cX8_reading 36 = .ok (.getfield 202, 3) := by decide +kernel
theorem dX8_reading_39 : decode cX8_reading 39 = .ok (.bipush 8, 2) := by decide +kernel
theorem dX8_reading_41 : decode cX8_reading 41 = .ok (.if_icmp .lt 6, 3) := by decide +kernel
theorem dX8_reading_44 : decode cX8_reading 44 = .ok (.bipush (-4), 2) := by decide +kernel
theorem dX8_reading_46 : decode cX8_reading 46 = .ok (.ireturn, 1) := by decide +kernel
theorem dX8_reading_47 : decode cX8_reading 47 = .ok (.aload_n 0, 1) := by decide +kernel
theorem dX8_reading_48 : decode cX8_reading 48 = .ok (.getfield 44, 3) := by decide +kernel
theorem dX8_reading_51 : decode cX8_reading 51 = .ok (.iload_n 1, 1) := by decide +kernel
theorem dX8_reading_52 : decode cX8_reading 52 = .ok (.iload_n 2, 1) := by decide +kernel
theorem dX8_reading_53 : decode cX8_reading 53 = .ok (.iload_n 3, 1) := by decide +kernel
theorem dX8_reading_54 : decode cX8_reading 54 = .ok (.iconst 1, 1) := by decide +kernel
theorem dX8_reading_55 : decode cX8_reading 55 = .ok (.if_icmp .ne 7, 3) := by decide +kernel
theorem dX8_reading_58 : decode cX8_reading 58 = .ok (.iconst 1, 1) := by decide +kernel
theorem dX8_reading_59 : decode cX8_reading 59 = .ok (.goto 4, 3) := by decide +kernel
theorem dX8_reading_62 : decode cX8_reading 62 = .ok (.iconst 0, 1) := by decide +kernel
theorem dX8_reading_63 : decode cX8_reading 63 = .ok (.invokevirtual 203, 3) := by decide +kernel
theorem dX8_reading_66 : decode cX8_reading 66 = .ok (.ireturn, 1) := by decide +kernel
theorem dX8_back_0 : decode cX8_back 0 = .ok (.iload_n 1, 1) := by decide +kernel
theorem dX8_back_1 : decode cX8_back 1 = .ok (.iconst 0, 1) := by decide +kernel
theorem dX8_back_2 : decode cX8_back 2 = .ok (.aload_n 0, 1) := by decide +kernel
theorem dX8_back_3 : decode cX8_back 3 = .ok (.getfield 44, 3) := by decide +kernel
theorem dX8_back_6 : decode cX8_back 6 = .ok (.getfield 202, 3) := by decide +kernel
theorem dX8_back_9 : decode cX8_back 9 = .ok (.invokestatic 122, 3) := by decide +kernel
theorem dX8_back_12 : decode cX8_back 12 = .ok (.ifCond .ne 6, 3) := by decide +kernel
theorem dX8_back_15 : decode cX8_back 15 = .ok (.bipush (-2), 2) := by decide +kernel
theorem dX8_back_17 : decode cX8_back 17 = .ok (.ireturn, 1) := by decide +kernel
theorem dX8_back_18 : decode cX8_back 18 = .ok (.aload_n 0, 1) := by decide +kernel
theorem dX8_back_19 : decode cX8_back 19 = .ok (.getfield 44, 3) := by decide +kernel
theorem dX8_back_22 : decode cX8_back 22 = .ok (.dup, 1) := by decide +kernel
theorem dX8_back_23 : decode cX8_back 23 = .ok (.getfield 202, 3) := by decide +kernel
theorem dX8_back_26 : decode cX8_back 26 = .ok (.iload_n 1, 1) := by decide +kernel
theorem dX8_back_27 : decode cX8_back 27 = .ok (.isub, 1) := by decide +kernel
theorem dX8_back_28 : decode cX8_back 28 = .ok (.putfield 202, 3) := by decide +kernel
theorem dX8_back_31 : decode cX8_back 31 = .ok (.aload_n 0, 1) := by decide +kernel
theorem dX8_back_32 : decode cX8_back 32 = .ok (.getfield 44, 3) := by decide +kernel
theorem dX8_back_35 : decode cX8_back 35 = .ok (.getfield 202, 3) := by decide +kernel
theorem dX8_back_38 : decode cX8_back 38 = .ok (.ireturn, 1) := by decide +kernel
theorem dX8_hastes_0 : decode cX8_hastes 0 = .ok (.aload_n 0, 1) := by decide +kernel
theorem dX8_hastes_1 : decode cX8_hastes 1 = .ok (.iload_n 1, 1) := by decide +kernel
theorem dX8_hastes_2 : decode cX8_hastes 2 = .ok (.invokevirtual 87, 3) := by decide +kernel
theorem dX8_hastes_5 : decode cX8_hastes 5 = .ok (.astore_n 2, 1) := by decide +kernel
theorem dX8_hastes_6 : decode cX8_hastes 6 = .ok (.aload_n 2, 1) := by decide +kernel
theorem dX8_hastes_7 : decode cX8_hastes 7 = .ok (.ifnonnull 5, 3) := by decide +kernel
theorem dX8_hastes_10 : decode cX8_hastes 10 = .ok (.iconst (-1), 1) := by decide +kernel
theorem dX8_hastes_11 : decode cX8_hastes 11 = .ok (.ireturn, 1) := by decide +kernel
theorem dX8_hastes_12 : decode cX8_hastes 12 = .ok (.aload_n 0, 1) := by decide +kernel
theorem dX8_hastes_13 : decode cX8_hastes 13 = .ok (.invokevirtual 129, 3) := by decide +kernel
theorem dX8_hastes_16 : decode cX8_hastes 16 = .ok (.astore_n 3, 1) := by decide +kernel
theorem dX8_hastes_17 : decode cX8_hastes 17 = .ok (.iconst 0, 1) := by decide +kernel
theorem dX8_hastes_18 : decode cX8_hastes 18 = .ok (.istore 4, 2) := by decide +kernel
theorem dX8_hastes_20 : decode cX8_hastes 20 = .ok (.iconst 0, 1) := by decide +kernel
theorem dX8_hastes_21 : decode cX8_hastes 21 = .ok (.istore 5, 2) := by decide +kernel
theorem dX8_hastes_23 : decode cX8_hastes 23 = .ok (.iload 5, 2) := by decide +kernel
theorem dX8_hastes_25 : decode cX8_hastes 25 = .ok (.bipush 9, 2) := by decide +kernel
theorem dX8_hastes_27 : decode cX8_hastes 27 = .ok (.if_icmp .gt 51, 3) := by decide +kernel
theorem dX8_hastes_30 : decode cX8_hastes 30 = .ok (.aload_n 3, 1) := by decide +kernel
theorem dX8_hastes_31 : decode cX8_hastes 31 = .ok (.iload_n 1, 1) := by decide +kernel
theorem dX8_hastes_32 : decode cX8_hastes 32 = .ok (.aload_n 0, 1) := by decide +kernel
theorem dX8_hastes_33 : decode cX8_hastes 33 = .ok (.aload_n 2, 1) := by decide +kernel
theorem dX8_hastes_34 : decode cX8_hastes 34 = .ok (.invokevirtual 91, 3) := by decide +kernel
theorem dX8_hastes_37 : decode cX8_hastes 37 = .ok (.iload 5, 2) := by decide +kernel
theorem dX8_hastes_39 : decode cX8_hastes 39 = .ok (.aload_n 2, 1) := by decide +kernel
theorem dX8_hastes_40 : decode cX8_hastes 40 = .ok (.getfield 98, 3) := by decide +kernel
theorem dX8_hastes_43 : decode cX8_hastes 43 = .ok (.invokevirtual 105, 3) := by decide +kernel
theorem dX8_hastes_46 : decode cX8_hastes 46 = .ok (.iastore, 1) := by decide +kernel
theorem dX8_hastes_47 : decode cX8_hastes 47 = .ok (.iload 4, 2) := by decide +kernel
theorem dX8_hastes_49 : decode cX8_hastes 49 = .ok (.aload_n 0, 1) := by decide +kernel
theorem dX8_hastes_50 : decode cX8_hastes 50 = .ok (.getfield 44, 3) := by decide +kernel
theorem dX8_hastes_53 : decode cX8_hastes 53 = .ok (.aload_n 3, 1) := by decide +kernel
theorem dX8_hastes_54 : decode cX8_hastes 54 = .ok (.invokevirtual 206, 3) := by decide +kernel
theorem dX8_hastes_57 : decode cX8_hastes 57 = .ok (.ifCond .eq 11, 3) := by decide +kernel
theorem dX8_hastes_60 : decode cX8_hastes 60 = .ok (.iload 5, 2) := by decide +kernel
theorem dX8_hastes_62 : decode cX8_hastes 62 = .ok (.invokestatic 137, 3) := by decide +kernel
theorem dX8_hastes_65 : decode cX8_hastes 65 = .ok (.goto 4, 3) := by decide +kernel
theorem dX8_hastes_68 : decode cX8_hastes 68 = .ok (.iconst 0, 1) := by decide +kernel
theorem dX8_hastes_69 : decode cX8_hastes 69 = .ok (.ior, 1) := by decide +kernel
theorem dX8_hastes_70 : decode cX8_hastes 70 = .ok (.istore 4, 2) := by decide +kernel
theorem dX8_hastes_72 : decode cX8_hastes 72 = .ok (.iinc 5 1, 3) := by decide +kernel
theorem dX8_hastes_75 : decode cX8_hastes 75 = .ok (.goto (-52), 3) := by decide +kernel
theorem dX8_hastes_78 : decode cX8_hastes 78 = .ok (.iload 4, 2) := by decide +kernel
theorem dX8_hastes_80 : decode cX8_hastes 80 = .ok (.ireturn, 1) := by decide +kernel
theorem dX8_rooms_0 : decode cX8_rooms 0 = .ok (.aload_n 0, 1) := by decide +kernel
theorem dX8_rooms_1 : decode cX8_rooms 1 = .ok (.iload_n 1, 1) := by decide +kernel
theorem dX8_rooms_2 : decode cX8_rooms 2 = .ok (.invokevirtual 87, 3) := by decide +kernel
theorem dX8_rooms_5 : decode cX8_rooms 5 = .ok (.astore_n 2, 1) := by decide +kernel
theorem dX8_rooms_6 : decode cX8_rooms 6 = .ok (.aload_n 2, 1) := by decide +kernel
theorem dX8_rooms_7 : decode cX8_rooms 7 = .ok (.ifnonnull 5, 3) := by decide +kernel
theorem dX8_rooms_10 : decode cX8_rooms 10 = .ok (.iconst (-1), 1) := by decide +kernel
theorem dX8_rooms_11 : decode cX8_rooms 11 = .ok (.ireturn, 1) := by decide +kernel
theorem dX8_rooms_12 : decode cX8_rooms 12 = .ok (.aload_n 0, 1) := by decide +kernel
theorem dX8_rooms_13 : decode cX8_rooms 13 = .ok (.invokevirtual 129, 3) := by decide +kernel
theorem dX8_rooms_16 : decode cX8_rooms 16 = .ok (.astore_n 3, 1) := by decide +kernel
theorem dX8_rooms_17 : decode cX8_rooms 17 = .ok (.iconst 0, 1) := by decide +kernel
theorem dX8_rooms_18 : decode cX8_rooms 18 = .ok (.istore 4, 2) := by decide +kernel
theorem dX8_rooms_20 : decode cX8_rooms 20 = .ok (.iconst 0, 1) := by decide +kernel
theorem dX8_rooms_21 : decode cX8_rooms 21 = .ok (.istore 5, 2) := by decide +kernel
theorem dX8_rooms_23 : decode cX8_rooms 23 = .ok (.iload 5, 2) := by decide +kernel
theorem dX8_rooms_25 : decode cX8_rooms 25 = .ok (.bipush 9, 2) := by decide +kernel
theorem dX8_rooms_27 : decode cX8_rooms 27 = .ok (.if_icmp .gt 51, 3) := by decide +kernel
theorem dX8_rooms_30 : decode cX8_rooms 30 = .ok (.aload_n 3, 1) := by decide +kernel
theorem dX8_rooms_31 : decode cX8_rooms 31 = .ok (.iload_n 1, 1) := by decide +kernel
theorem dX8_rooms_32 : decode cX8_rooms 32 = .ok (.aload_n 0, 1) := by decide +kernel
theorem dX8_rooms_33 : decode cX8_rooms 33 = .ok (.aload_n 2, 1) := by decide +kernel
theorem dX8_rooms_34 : decode cX8_rooms 34 = .ok (.invokevirtual 91, 3) := by decide +kernel
theorem dX8_rooms_37 : decode cX8_rooms 37 = .ok (.aload_n 2, 1) := by decide +kernel
theorem dX8_rooms_38 : decode cX8_rooms 38 = .ok (.getfield 95, 3) := by decide +kernel
theorem dX8_rooms_41 : decode cX8_rooms 41 = .ok (.iload 5, 2) := by decide +kernel
theorem dX8_rooms_43 : decode cX8_rooms 43 = .ok (.invokevirtual 105, 3) := by decide +kernel
theorem dX8_rooms_46 : decode cX8_rooms 46 = .ok (.iastore, 1) := by decide +kernel
theorem dX8_rooms_47 : decode cX8_rooms 47 = .ok (.iload 4, 2) := by decide +kernel
theorem dX8_rooms_49 : decode cX8_rooms 49 = .ok (.aload_n 0, 1) := by decide +kernel
theorem dX8_rooms_50 : decode cX8_rooms 50 = .ok (.getfield 44, 3) := by decide +kernel
theorem dX8_rooms_53 : decode cX8_rooms 53 = .ok (.aload_n 3, 1) := by decide +kernel
theorem dX8_rooms_54 : decode cX8_rooms 54 = .ok (.invokevirtual 206, 3) := by decide +kernel
theorem dX8_rooms_57 : decode cX8_rooms 57 = .ok (.ifCond .eq 11, 3) := by decide +kernel
theorem dX8_rooms_60 : decode cX8_rooms 60 = .ok (.iload 5, 2) := by decide +kernel
theorem dX8_rooms_62 : decode cX8_rooms 62 = .ok (.invokestatic 137, 3) := by decide +kernel
theorem dX8_rooms_65 : decode cX8_rooms 65 = .ok (.goto 4, 3) := by decide +kernel
theorem dX8_rooms_68 : decode cX8_rooms 68 = .ok (.iconst 0, 1) := by decide +kernel
theorem dX8_rooms_69 : decode cX8_rooms 69 = .ok (.ior, 1) := by decide +kernel
theorem dX8_rooms_70 : decode cX8_rooms 70 = .ok (.istore 4, 2) := by decide +kernel
theorem dX8_rooms_72 : decode cX8_rooms 72 = .ok (.iinc 5 1, 3) := by decide +kernel
theorem dX8_rooms_75 : decode cX8_rooms 75 = .ok (.goto (-52), 3) := by decide +kernel
theorem dX8_rooms_78 : decode cX8_rooms 78 = .ok (.iload 4, 2) := by decide +kernel
theorem dX8_rooms_80 : decode cX8_rooms 80 = .ok (.ireturn, 1) := by decide +kernel
theorem dX8_kinds_0 : decode cX8_kinds 0 = .ok (.aload_n 0, 1) := by decide +kernel
theorem dX8_kinds_1 : decode cX8_kinds 1 = .ok (.iload_n 1, 1) := by decide +kernel
theorem dX8_kinds_2 : decode cX8_kinds 2 = .ok (.invokevirtual 87, 3) := by decide +kernel
theorem dX8_kinds_5 : decode cX8_kinds 5 = .ok (.astore_n 2, 1) := by decide +kernel
theorem dX8_kinds_6 : decode cX8_kinds 6 = .ok (.aload_n 2, 1) := by decide +kernel
theorem dX8_kinds_7 : decode cX8_kinds 7 = .ok (.ifnonnull 5, 3) := by decide +kernel
theorem dX8_kinds_10 : decode cX8_kinds 10 = .ok (.iconst (-1), 1) := by decide +kernel
theorem dX8_kinds_11 : decode cX8_kinds 11 = .ok (.ireturn, 1) := by decide +kernel
theorem dX8_kinds_12 : decode cX8_kinds 12 = .ok (.aload_n 0, 1) := by decide +kernel
theorem dX8_kinds_13 : decode cX8_kinds 13 = .ok (.invokevirtual 129, 3) := by decide +kernel
theorem dX8_kinds_16 : decode cX8_kinds 16 = .ok (.astore_n 3, 1) := by decide +kernel
theorem dX8_kinds_17 : decode cX8_kinds 17 = .ok (.iconst 0, 1) := by decide +kernel
theorem dX8_kinds_18 : decode cX8_kinds 18 = .ok (.istore 4, 2) := by decide +kernel
theorem dX8_kinds_20 : decode cX8_kinds 20 = .ok (.iconst 0, 1) := by decide +kernel
theorem dX8_kinds_21 : decode cX8_kinds 21 = .ok (.istore 5, 2) := by decide +kernel
theorem dX8_kinds_23 : decode cX8_kinds 23 = .ok (.iload 5, 2) := by decide +kernel
theorem dX8_kinds_25 : decode cX8_kinds 25 = .ok (.iconst 2, 1) := by decide +kernel
theorem dX8_kinds_26 : decode cX8_kinds 26 = .ok (.if_icmp .gt 51, 3) := by decide +kernel
theorem dX8_kinds_29 : decode cX8_kinds 29 = .ok (.aload_n 3, 1) := by decide +kernel
theorem dX8_kinds_30 : decode cX8_kinds 30 = .ok (.iload_n 1, 1) := by decide +kernel
theorem dX8_kinds_31 : decode cX8_kinds 31 = .ok (.aload_n 0, 1) := by decide +kernel
theorem dX8_kinds_32 : decode cX8_kinds 32 = .ok (.iload 5, 2) := by decide +kernel
theorem dX8_kinds_34 : decode cX8_kinds 34 = .ok (.aload_n 2, 1) := by decide +kernel
theorem dX8_kinds_35 : decode cX8_kinds 35 = .ok (.getfield 95, 3) := by decide +kernel
theorem dX8_kinds_38 : decode cX8_kinds 38 = .ok (.aload_n 2, 1) := by decide +kernel
theorem dX8_kinds_39 : decode cX8_kinds 39 = .ok (.getfield 98, 3) := by decide +kernel
theorem dX8_kinds_42 : decode cX8_kinds 42 = .ok (.invokevirtual 105, 3) := by decide +kernel
theorem dX8_kinds_45 : decode cX8_kinds 45 = .ok (.iastore, 1) := by decide +kernel
theorem dX8_kinds_46 : decode cX8_kinds 46 = .ok (.iload 4, 2) := by decide +kernel
theorem dX8_kinds_48 : decode cX8_kinds 48 = .ok (.aload_n 0, 1) := by decide +kernel
theorem dX8_kinds_49 : decode cX8_kinds 49 = .ok (.getfield 44, 3) := by decide +kernel
theorem dX8_kinds_52 : decode cX8_kinds 52 = .ok (.aload_n 3, 1) := by decide +kernel
theorem dX8_kinds_53 : decode cX8_kinds 53 = .ok (.invokevirtual 206, 3) := by decide +kernel
theorem dX8_kinds_56 : decode cX8_kinds 56 = .ok (.ifCond .eq 11, 3) := by decide +kernel
theorem dX8_kinds_59 : decode cX8_kinds 59 = .ok (.iload 5, 2) := by decide +kernel
theorem dX8_kinds_61 : decode cX8_kinds 61 = .ok (.invokestatic 137, 3) := by decide +kernel
theorem dX8_kinds_64 : decode cX8_kinds 64 = .ok (.goto 4, 3) := by decide +kernel
theorem dX8_kinds_67 : decode cX8_kinds 67 = .ok (.iconst 0, 1) := by decide +kernel
theorem dX8_kinds_68 : decode cX8_kinds 68 = .ok (.ior, 1) := by decide +kernel
theorem dX8_kinds_69 : decode cX8_kinds 69 = .ok (.istore 4, 2) := by decide +kernel
theorem dX8_kinds_71 : decode cX8_kinds 71 = .ok (.iinc 5 1, 3) := by decide +kernel
theorem dX8_kinds_74 : decode cX8_kinds 74 = .ok (.goto (-51), 3) := by decide +kernel
theorem dX8_kinds_77 : decode cX8_kinds 77 = .ok (.iload 4, 2) := by decide +kernel
theorem dX8_kinds_79 : decode cX8_kinds 79 = .ok (.ireturn, 1) := by decide +kernel
theorem dX8_odds_0 : decode cX8_odds 0 = .ok (.aload_n 0, 1) := by decide +kernel
theorem dX8_odds_1 : decode cX8_odds 1 = .ok (.iload_n 1, 1) := by decide +kernel
theorem dX8_odds_2 : decode cX8_odds 2 = .ok (.invokevirtual 87, 3) := by decide +kernel
theorem dX8_odds_5 : decode cX8_odds 5 = .ok (.ifnull 12, 3) := by decide +kernel
theorem dX8_odds_8 : decode cX8_odds 8 = .ok (.iload_n 2, 1) := by decide +kernel
theorem dX8_odds_9 : decode cX8_odds 9 = .ok (.iconst 0, 1) := by decide +kernel
theorem dX8_odds_10 : decode cX8_odds 10 = .ok (.iconst 1, 1) := by decide +kernel
theorem dX8_odds_11 : decode cX8_odds 11 = .ok (.invokestatic 122, 3) := by decide +kernel
theorem dX8_odds_14 : decode cX8_odds 14 = .ok (.ifCond .ne 7, 3) := by decide +kernel
theorem dX8_odds_17 : decode cX8_odds 17 = .ok (.ldc2_w 210, 3) := by decide +kernel
theorem dX8_odds_20 : decode cX8_odds 20 = .ok (.lreturn, 1) := by decide +kernel
theorem dX8_odds_21 : decode cX8_odds 21 = .ok (.aload_n 0, 1) := by decide +kernel
theorem dX8_odds_22 : decode cX8_odds 22 = .ok (.invokevirtual 129, 3) := by decide +kernel
theorem dX8_odds_25 : decode cX8_odds 25 = .ok (.astore_n 3, 1) := by decide +kernel
theorem dX8_odds_26 : decode cX8_odds 26 = .ok (.iconst 0, 1) := by decide +kernel
theorem dX8_odds_27 : decode cX8_odds 27 = .ok (.istore 4, 2) := by decide +kernel
theorem dX8_odds_29 : decode cX8_odds 29 = .ok (.iconst 1, 1) := by decide +kernel
theorem dX8_odds_30 : decode cX8_odds 30 = .ok (.istore 5, 2) := by decide +kernel
theorem dX8_odds_32 : decode cX8_odds 32 = .ok (.iload 5, 2) := by decide +kernel
theorem dX8_odds_34 : decode cX8_odds 34 = .ok (.aload_n 0, 1) := by decide +kernel
theorem dX8_odds_35 : decode cX8_odds 35 = .ok (.invokevirtual 155, 3) := by decide +kernel
theorem dX8_odds_38 : decode cX8_odds 38 = .ok (.if_icmp .gt 33, 3) := by decide +kernel
theorem dX8_odds_41 : decode cX8_odds 41 = .ok (.iload 4, 2) := by decide +kernel
theorem dX8_odds_43 : decode cX8_odds 43 = .ok (.aload_n 0, 1) := by decide +kernel
theorem dX8_odds_44 : decode cX8_odds 44 = .ok (.getfield 30, 3) := by decide +kernel
theorem dX8_odds_47 : decode cX8_odds 47 = .ok (.aload_n 3, 1) := by decide +kernel
theorem dX8_odds_48 : decode cX8_odds 48 = .ok (.iload 5, 2) := by decide +kernel
theorem dX8_odds_50 : decode cX8_odds 50 = .ok (.invokevirtual 133, 3) := by decide +kernel
theorem dX8_odds_53 : decode cX8_odds 53 = .ok (.iload_n 1, 1) := by decide +kernel
theorem dX8_odds_54 : decode cX8_odds 54 = .ok (.if_icmp .ne 7, 3) := by decide +kernel
theorem dX8_odds_57 : decode cX8_odds 57 = .ok (.iconst 1, 1) := by decide +kernel
theorem dX8_odds_58 : decode cX8_odds 58 = .ok (.goto 4, 3) := by decide +kernel
theorem dX8_odds_61 : decode cX8_odds 61 = .ok (.iconst 0, 1) := by decide +kernel
theorem dX8_odds_62 : decode cX8_odds 62 = .ok (.iadd, 1) := by decide +kernel
theorem dX8_odds_63 : decode cX8_odds 63 = .ok (.istore 4, 2) := by decide +kernel
theorem dX8_odds_65 : decode cX8_odds 65 = .ok (.iinc 5 1, 3) := by decide +kernel
theorem dX8_odds_68 : decode cX8_odds 68 = .ok (.goto (-36), 3) := by decide +kernel
theorem dX8_odds_71 : decode cX8_odds 71 = .ok (.aload_n 0, 1) := by decide +kernel
theorem dX8_odds_72 : decode cX8_odds 72 = .ok (.getfield 84, 3) := by decide +kernel
theorem dX8_odds_75 : decode cX8_odds 75 = .ok (.invokestatic 137, 3) := by decide +kernel
theorem dX8_odds_78 : decode cX8_odds 78 = .ok (.istore 5, 2) := by decide +kernel
theorem dX8_odds_80 : decode cX8_odds 80 = .ok (.iconst 0, 1) := by decide +kernel
theorem dX8_odds_81 : decode cX8_odds 81 = .ok (.istore 6, 2) := by decide +kernel
theorem dX8_odds_83 : decode cX8_odds 83 = .ok (.iload 6, 2) := by decide +kernel
theorem dX8_odds_85 : decode cX8_odds 85 = .ok (.aload_n 0, 1) := by decide +kernel
theorem dX8_odds_86 : decode cX8_odds 86 = .ok (.getfield 84, 3) := by decide +kernel
theorem dX8_odds_89 : decode cX8_odds 89 = .ok (.if_icmp .ge 28, 3) := by decide +kernel
theorem dX8_odds_92 : decode cX8_odds 92 = .ok (.iload 4, 2) := by decide +kernel
theorem dX8_odds_94 : decode cX8_odds 94 = .ok (.iconst 2, 1) := by decide +kernel
theorem dX8_odds_95 : decode cX8_odds 95 = .ok (.irem, 1) := by decide +kernel
theorem dX8_odds_96 : decode cX8_odds 96 = .ok (.ifCond .ne 21, 3) := by decide +kernel
theorem dX8_odds_99 : decode cX8_odds 99 = .ok (.iload 4, 2) := by decide +kernel
theorem dX8_odds_101 : decode cX8_odds 101 = .ok (.iconst 2, 1) := by decide +kernel
theorem dX8_odds_102 : decode cX8_odds 102 = .ok (.idiv, 1) := by decide +kernel
theorem dX8_odds_103 : decode cX8_odds 103 = .ok (.istore 4, 2) := by decide +kernel
theorem dX8_odds_105 : decode cX8_odds 105 = .ok (.iload 5, 2) := by decide +kernel
theorem dX8_odds_107 : decode cX8_odds 107 = .ok (.iconst 2, 1) := by decide +kernel
theorem dX8_odds_108 : decode cX8_odds 108 = .ok (.idiv, 1) := by decide +kernel
theorem dX8_odds_109 : decode cX8_odds 109 = .ok (.istore 5, 2) := by decide +kernel
theorem dX8_odds_111 : decode cX8_odds 111 = .ok (.iinc 6 1, 3) := by decide +kernel
theorem dX8_odds_114 : decode cX8_odds 114 = .ok (.goto (-31), 3) := by decide +kernel
theorem dX8_odds_117 : decode cX8_odds 117 = .ok (.iload_n 2, 1) := by decide +kernel
theorem dX8_odds_118 : decode cX8_odds 118 = .ok (.ifCond .ne 9, 3) := by decide +kernel
theorem dX8_odds_121 : decode cX8_odds 121 = .ok (.iload 4, 2) := by decide +kernel
theorem dX8_odds_123 : decode cX8_odds 123 = .ok (.i2l, 1) := by decide +kernel
theorem dX8_odds_124 : decode cX8_odds 124 = .ok (.goto 6, 3) := by decide +kernel
theorem dX8_odds_127 : decode cX8_odds 127 = .ok (.iload 5, 2) := by decide +kernel
theorem dX8_odds_129 : decode cX8_odds 129 = .ok (.i2l, 1) := by decide +kernel
theorem dX8_odds_130 : decode cX8_odds 130 = .ok (.lreturn, 1) := by decide +kernel
theorem dX8_sheet_0 : decode cX8_sheet 0 = .ok (.aload_n 0, 1) := by decide +kernel
theorem dX8_sheet_1 : decode cX8_sheet 1 = .ok (.iconst 0, 1) := by decide +kernel
theorem dX8_sheet_2 : decode cX8_sheet 2 = .ok (.putfield 56, 3) := by decide +kernel
theorem dX8_sheet_5 : decode cX8_sheet 5 = .ok (.aload_n 0, 1) := by decide +kernel
theorem dX8_sheet_6 : decode cX8_sheet 6 = .ok (.iload_n 1, 1) := by decide +kernel
theorem dX8_sheet_7 : decode cX8_sheet 7 = .ok (.invokevirtual 60, 3) := by decide +kernel
theorem dX8_sheet_10 : decode cX8_sheet 10 = .ok (.astore 4, 2) := by decide +kernel
theorem dX8_sheet_12 : decode cX8_sheet 12 = .ok (.aload 4, 2) := by decide +kernel
theorem dX8_sheet_14 : decode cX8_sheet 14 = .ok (.ifnonnull 5, 3) := by decide +kernel
theorem dX8_sheet_17 : decode cX8_sheet 17 = .ok (.iconst (-1), 1) := by decide +kernel
theorem dX8_sheet_18 : decode cX8_sheet 18 = .ok (.ireturn, 1) := by decide +kernel
theorem dX8_sheet_19 : decode cX8_sheet 19 = .ok (.iload_n 2, 1) := by decide +kernel
theorem dX8_sheet_20 : decode cX8_sheet 20 = .ok (.invokestatic 64, 3) := by decide +kernel
theorem dX8_sheet_23 : decode cX8_sheet 23 = .ok (.ifCond .eq 9, 3) := by decide +kernel
theorem dX8_sheet_26 : decode cX8_sheet 26 = .ok (.iload_n 3, 1) := by decide +kernel
theorem dX8_sheet_27 : decode cX8_sheet 27 = .ok (.bipush 60, 2) := by decide +kernel
theorem dX8_sheet_29 : decode cX8_sheet 29 = .ok (.if_icmp .le 6, 3) := by decide +kernel
theorem dX8_sheet_32 : decode cX8_sheet 32 = .ok (.bipush (-2), 2) := by decide +kernel
theorem dX8_sheet_34 : decode cX8_sheet 34 = .ok (.ireturn, 1) := by decide +kernel
theorem dX8_sheet_35 : decode cX8_sheet 35 = .ok (.iload_n 3, 1) := by decide +kernel
theorem dX8_sheet_36 : decode cX8_sheet 36 = .ok (.ifCond .ge 9, 3) := by decide +kernel
theorem dX8_sheet_39 : decode cX8_sheet 39 = .ok (.aload_n 0, 1) := by decide +kernel
theorem dX8_sheet_40 : decode cX8_sheet 40 = .ok (.iconst 4, 1) := by decide +kernel
theorem dX8_sheet_41 : decode cX8_sheet 41 = .ok (.invokevirtual 72, 3) := by decide +kernel
theorem dX8_sheet_44 : decode cX8_sheet 44 = .ok (.ireturn, 1) := by decide +kernel
theorem dX8_sheet_45 : decode cX8_sheet 45 = .ok (.aload 4, 2) := by decide +kernel
theorem dX8_sheet_47 : decode cX8_sheet 47 = .ok (.iload_n 2, 1) := by decide +kernel
theorem dX8_sheet_48 : decode cX8_sheet 48 = .ok (.iload_n 3, 1) := by decide +kernel
theorem dX8_sheet_49 : decode cX8_sheet 49 = .ok (.invokevirtual 212, 3) := by decide +kernel
theorem dX8_sheet_52 : decode cX8_sheet 52 = .ok (.iconst 1, 1) := by decide +kernel
theorem dX8_sheet_53 : decode cX8_sheet 53 = .ok (.ireturn, 1) := by decide +kernel
theorem dX8_lose_0 : decode cX8_lose 0 = .ok (.aload_n 0, 1) := by decide +kernel
theorem dX8_lose_1 : decode cX8_lose 1 = .ok (.iload_n 1, 1) := by decide +kernel
theorem dX8_lose_2 : decode cX8_lose 2 = .ok (.invokevirtual 60, 3) := by decide +kernel
theorem dX8_lose_5 : decode cX8_lose 5 = .ok (.astore_n 2, 1) := by decide +kernel
theorem dX8_lose_6 : decode cX8_lose 6 = .ok (.aload_n 2, 1) := by decide +kernel
theorem dX8_lose_7 : decode cX8_lose 7 = .ok (.ifnonnull 5, 3) := by decide +kernel
theorem dX8_lose_10 : decode cX8_lose 10 = .ok (.iconst (-1), 1) := by decide +kernel
theorem dX8_lose_11 : decode cX8_lose 11 = .ok (.ireturn, 1) := by decide +kernel
theorem dX8_lose_12 : decode cX8_lose 12 = .ok (.aload_n 2, 1) := by decide +kernel
theorem dX8_lose_13 : decode cX8_lose 13 = .ok (.getfield 216, 3) := by decide +kernel
theorem dX8_lose_16 : decode cX8_lose 16 = .ok (.ifCond .eq 7, 3) := by decide +kernel
theorem dX8_lose_19 : decode cX8_lose 19 = .ok (.iconst 1, 1) := by decide +kernel
theorem dX8_lose_20 : decode cX8_lose 20 = .ok (.goto 4, 3) := by decide +kernel
theorem dX8_lose_23 : decode cX8_lose 23 = .ok (.iconst 0, 1) := by decide +kernel
theorem dX8_lose_24 : decode cX8_lose 24 = .ok (.istore_n 3, 1) := by decide +kernel
theorem dX8_lose_25 : decode cX8_lose 25 = .ok (.aload_n 2, 1) := by decide +kernel
theorem dX8_lose_26 : decode cX8_lose 26 = .ok (.iconst 0, 1) := by decide +kernel
theorem dX8_lose_27 : decode cX8_lose 27 = .ok (.putfield 216, 3) := by decide +kernel
theorem dX8_lose_30 : decode cX8_lose 30 = .ok (.iload_n 3, 1) := by decide +kernel
theorem dX8_lose_31 : decode cX8_lose 31 = .ok (.ireturn, 1) := by decide +kernel
theorem dX8_put_0 : decode cX8_put 0 = .ok (.aload_n 0, 1) := by decide +kernel
theorem dX8_put_1 : decode cX8_put 1 = .ok (.iconst 0, 1) := by decide +kernel
theorem dX8_put_2 : decode cX8_put 2 = .ok (.putfield 56, 3) := by decide +kernel
theorem dX8_put_5 : decode cX8_put 5 = .ok (.aload_n 0, 1) := by decide +kernel
theorem dX8_put_6 : decode cX8_put 6 = .ok (.iload_n 1, 1) := by decide +kernel
theorem dX8_put_7 : decode cX8_put 7 = .ok (.invokevirtual 60, 3) := by decide +kernel
theorem dX8_put_10 : decode cX8_put 10 = .ok (.astore 4, 2) := by decide +kernel
theorem dX8_put_12 : decode cX8_put 12 = .ok (.aload 4, 2) := by decide +kernel
theorem dX8_put_14 : decode cX8_put 14 = .ok (.ifnonnull 5, 3) := by decide +kernel
theorem dX8_put_17 : decode cX8_put 17 = .ok (.iconst (-1), 1) := by decide +kernel
theorem dX8_put_18 : decode cX8_put 18 = .ok (.ireturn, 1) := by decide +kernel
theorem dX8_put_19 : decode cX8_put 19 = .ok (.aload 4, 2) := by decide +kernel
theorem dX8_put_21 : decode cX8_put 21 = .ok (.aload 4, 2) := by decide +kernel
theorem dX8_put_23 : decode cX8_put 23 = .ok (.getfield 220, 3) := by decide +kernel
theorem dX8_put_26 : decode cX8_put 26 = .ok (.iload_n 2, 1) := by decide +kernel
theorem dX8_put_27 : decode cX8_put 27 = .ok (.iconst 1, 1) := by decide +kernel
theorem dX8_put_28 : decode cX8_put 28 = .ok (.invokestatic 68, 3) := by decide +kernel
theorem dX8_put_31 : decode cX8_put 31 = .ok (.istore 5, 2) := by decide +kernel
theorem dX8_put_33 : decode cX8_put 33 = .ok (.iload 5, 2) := by decide +kernel
theorem dX8_put_35 : decode cX8_put 35 = .ok (.ifCond .eq 10, 3) := by decide +kernel
theorem dX8_put_38 : decode cX8_put 38 = .ok (.aload_n 0, 1) := by decide +kernel
theorem dX8_put_39 : decode cX8_put 39 = .ok (.iload 5, 2) := by decide +kernel
theorem dX8_put_41 : decode cX8_put 41 = .ok (.invokevirtual 72, 3) := by decide +kernel
theorem dX8_put_44 : decode cX8_put 44 = .ok (.ireturn, 1) := by decide +kernel
theorem dX8_put_45 : decode cX8_put 45 = .ok (.aload 4, 2) := by decide +kernel
theorem dX8_put_47 : decode cX8_put 47 = .ok (.iload_n 2, 1) := by decide +kernel
theorem dX8_put_48 : decode cX8_put 48 = .ok (.iload_n 3, 1) := by decide +kernel
theorem dX8_put_49 : decode cX8_put 49 = .ok (.invokevirtual 223, 3) := by decide +kernel
theorem dX8_put_52 : decode cX8_put 52 = .ok (.iconst 1, 1) := by decide +kernel
theorem dX8_put_53 : decode cX8_put 53 = .ok (.ireturn, 1) := by decide +kernel
theorem dX8_cell_0 : decode cX8_cell 0 = .ok (.aload_n 0, 1) := by decide +kernel
theorem dX8_cell_1 : decode cX8_cell 1 = .ok (.iconst 0, 1) := by decide +kernel
theorem dX8_cell_2 : decode cX8_cell 2 = .ok (.putfield 56, 3) := by decide +kernel
theorem dX8_cell_5 : decode cX8_cell 5 = .ok (.aload_n 0, 1) := by decide +kernel
theorem dX8_cell_6 : decode cX8_cell 6 = .ok (.iload_n 1, 1) := by decide +kernel
theorem dX8_cell_7 : decode cX8_cell 7 = .ok (.invokevirtual 60, 3) := by decide +kernel
theorem dX8_cell_10 : decode cX8_cell 10 = .ok (.astore 4, 2) := by decide +kernel
theorem dX8_cell_12 : decode cX8_cell 12 = .ok (.aload 4, 2) := by decide +kernel
theorem dX8_cell_14 : decode cX8_cell 14 = .ok (.ifnull 10, 3) := by decide +kernel
theorem dX8_cell_17 : decode cX8_cell 17 = .ok (.iload_n 3, 1) := by decide +kernel
theorem dX8_cell_18 : decode cX8_cell 18 = .ok (.invokestatic 64, 3) := by decide +kernel
theorem dX8_cell_21 : decode cX8_cell 21 = .ok (.ifCond .ne 7, 3) := by decide +kernel
theorem dX8_cell_24 : decode cX8_cell 24 = .ok (.ldc2_w 210, 3) := by decide +kernel
theorem dX8_cell_27 : decode cX8_cell 27 = .ok (.lreturn, 1) := by decide +kernel
theorem dX8_cell_28 : decode cX8_cell 28 = .ok (.aload_n 0, 1) := by decide +kernel
theorem dX8_cell_29 : decode cX8_cell 29 = .ok (.aload 4, 2) := by decide +kernel
theorem dX8_cell_31 : decode cX8_cell 31 = .ok (.iload_n 3, 1) := by decide +kernel
theorem dX8_cell_32 : decode cX8_cell 32 = .ok (.iload_n 2, 1) := by decide +kernel
theorem dX8_cell_33 : decode cX8_cell 33 = .ok (.iconst 1, 1) := by decide +kernel
theorem dX8_cell_34 : decode cX8_cell 34 = .ok (.invokestatic 68, 3) := by decide +kernel
theorem dX8_cell_37 : decode cX8_cell 37 = .ok (.putfield 56, 3) := by decide +kernel
theorem dX8_cell_40 : decode cX8_cell 40 = .ok (.aload_n 0, 1) := by decide +kernel
theorem dX8_cell_41 : decode cX8_cell 41 = .ok (.getfield 56, 3) := by decide +kernel
theorem dX8_cell_44 : decode cX8_cell 44 = .ok (.ifCond .ne 13, 3) := by decide +kernel
theorem dX8_cell_47 : decode cX8_cell 47 = .ok (.aload 4, 2) := by decide +kernel
theorem dX8_cell_49 : decode cX8_cell 49 = .ok (.iload_n 2, 1) := by decide +kernel
theorem dX8_cell_50 : decode cX8_cell 50 = .ok (.invokevirtual 226, 3) := by decide +kernel
theorem dX8_cell_53 : decode cX8_cell 53 = .ok (.i2l, 1) := by decide +kernel
theorem dX8_cell_54 : decode cX8_cell 54 = .ok (.goto 6, 3) := by decide +kernel
theorem dX8_cell_57 : decode cX8_cell 57 = .ok (.ldc2_w 210, 3) := by decide +kernel
theorem dX8_cell_60 : decode cX8_cell 60 = .ok (.lreturn, 1) := by decide +kernel
theorem dX8_copy_0 : decode cX8_copy 0 = .ok (.aload_n 0, 1) := by decide +kernel
theorem dX8_copy_1 : decode cX8_copy 1 = .ok (.iconst 0, 1) := by decide +kernel
theorem dX8_copy_2 : decode cX8_copy 2 = .ok (.putfield 56, 3) := by decide +kernel
theorem dX8_copy_5 : decode cX8_copy 5 = .ok (.aload_n 0, 1) := by decide +kernel
theorem dX8_copy_6 : decode cX8_copy 6 = .ok (.iload_n 1, 1) := by decide +kernel
theorem dX8_copy_7 : decode cX8_copy 7 = .ok (.invokevirtual 60, 3) := by decide +kernel
theorem dX8_copy_10 : decode cX8_copy 10 = .ok (.astore 6, 2) := by decide +kernel
theorem dX8_copy_12 : decode cX8_copy 12 = .ok (.aload_n 0, 1) := by decide +kernel
theorem dX8_copy_13 : decode cX8_copy 13 = .ok (.iload_n 3, 1) := by decide +kernel
theorem dX8_copy_14 : decode cX8_copy 14 = .ok (.invokevirtual 60, 3) := by decide +kernel
theorem dX8_copy_17 : decode cX8_copy 17 = .ok (.astore 7, 2) := by decide +kernel
theorem dX8_copy_19 : decode cX8_copy 19 = .ok (.aload 6, 2) := by decide +kernel
theorem dX8_copy_21 : decode cX8_copy 21 = .ok (.ifnull 8, 3) := by decide +kernel
theorem dX8_copy_24 : decode cX8_copy 24 = .ok (.aload 7, 2) := by decide +kernel
theorem dX8_copy_26 : decode cX8_copy 26 = .ok (.ifnonnull 5, 3) := by decide +kernel
theorem dX8_copy_29 : decode cX8_copy 29 = .ok (.iconst (-1), 1) := by decide +kernel
theorem dX8_copy_30 : decode cX8_copy 30 = .ok (.ireturn, 1) := by decide +kernel
theorem dX8_copy_31 : decode cX8_copy 31 = .ok (.aload 6, 2) := by decide +kernel
theorem dX8_copy_33 : decode cX8_copy 33 = .ok (.getfield 216, 3) := by decide +kernel
theorem dX8_copy_36 : decode cX8_copy 36 = .ok (.ifCond .eq 11, 3) := by decide +kernel
theorem dX8_copy_39 : decode cX8_copy 39 = .ok (.aload 7, 2) := by decide +kernel
theorem dX8_copy_41 : decode cX8_copy 41 = .ok (.getfield 216, 3) := by decide +kernel
theorem dX8_copy_44 : decode cX8_copy 44 = .ok (.ifCond .ne 9, 3) := by decide +kernel
theorem dX8_copy_47 : decode cX8_copy 47 = .ok (.aload_n 0, 1) := by decide +kernel
theorem dX8_copy_48 : decode cX8_copy 48 = .ok (.iconst 1, 1) := by decide +kernel
theorem dX8_copy_49 : decode cX8_copy 49 = .ok (.invokevirtual 72, 3) := by decide +kernel
theorem dX8_copy_52 : decode cX8_copy 52 = .ok (.ireturn, 1) := by decide +kernel
theorem dX8_copy_53 : decode cX8_copy 53 = .ok (.aload 6, 2) := by decide +kernel
theorem dX8_copy_55 : decode cX8_copy 55 = .ok (.getfield 220, 3) := by decide +kernel
theorem dX8_copy_58 : decode cX8_copy 58 = .ok (.aload 7, 2) := by decide +kernel
theorem dX8_copy_60 : decode cX8_copy 60 = .ok (.getfield 220, 3) := by decide +kernel
theorem dX8_copy_63 : decode cX8_copy 63 = .ok (.if_icmp .eq 9, 3) := by decide +kernel
theorem dX8_copy_66 : decode cX8_copy 66 = .ok (.aload_n 0, 1) := by decide +kernel
theorem dX8_copy_67 : decode cX8_copy 67 = .ok (.iconst 2, 1) := by decide +kernel
theorem dX8_copy_68 : decode cX8_copy 68 = .ok (.invokevirtual 72, 3) := by decide +kernel
theorem dX8_copy_71 : decode cX8_copy 71 = .ok (.ireturn, 1) := by decide +kernel
theorem dX8_copy_72 : decode cX8_copy 72 = .ok (.aload 6, 2) := by decide +kernel
theorem dX8_copy_74 : decode cX8_copy 74 = .ok (.iload_n 2, 1) := by decide +kernel
theorem dX8_copy_75 : decode cX8_copy 75 = .ok (.iload 5, 2) := by decide +kernel
theorem dX8_copy_77 : decode cX8_copy 77 = .ok (.invokevirtual 229, 3) := by decide +kernel
theorem dX8_copy_80 : decode cX8_copy 80 = .ok (.ifCond .eq 15, 3) := by decide +kernel
theorem dX8_copy_83 : decode cX8_copy 83 = .ok (.aload 7, 2) := by decide +kernel
theorem dX8_copy_85 : decode cX8_copy 85 = .ok (.iload 4, 2) := by decide +kernel
theorem dX8_copy_87 : decode cX8_copy 87 = .ok (.iload 5, 2) := by decide +kernel
theorem dX8_copy_89 : decode cX8_copy 89 = .ok (.invokevirtual 229, 3) := by decide +kernel
theorem dX8_copy_92 : decode cX8_copy 92 = .ok (.ifCond .ne 9, 3) := by decide +kernel
theorem dX8_copy_95 : decode cX8_copy 95 = .ok (.aload_n 0, 1) := by decide +kernel
theorem dX8_copy_96 : decode cX8_copy 96 = .ok (.iconst 3, 1) := by decide +kernel
theorem dX8_copy_97 : decode cX8_copy 97 = .ok (.invokevirtual 72, 3) := by decide +kernel
theorem dX8_copy_100 : decode cX8_copy 100 = .ok (.ireturn, 1) := by decide +kernel
theorem dX8_copy_101 : decode cX8_copy 101 = .ok (.aload 6, 2) := by decide +kernel
theorem dX8_copy_103 : decode cX8_copy 103 = .ok (.getfield 232, 3) := by decide +kernel
theorem dX8_copy_106 : decode cX8_copy 106 = .ok (.iload_n 2, 1) := by decide +kernel
theorem dX8_copy_107 : decode cX8_copy 107 = .ok (.aload 7, 2) := by decide +kernel
theorem dX8_copy_109 : decode cX8_copy 109 = .ok (.getfield 232, 3) := by decide +kernel
theorem dX8_copy_112 : decode cX8_copy 112 = .ok (.iload 4, 2) := by decide +kernel
theorem dX8_copy_114 : decode cX8_copy 114 = .ok (.iload 5, 2) := by decide +kernel
theorem dX8_copy_116 : decode cX8_copy 116 = .ok (.invokestatic 235, 3) := by decide +kernel
theorem dX8_copy_119 : decode cX8_copy 119 = .ok (.iload 5, 2) := by decide +kernel
theorem dX8_copy_121 : decode cX8_copy 121 = .ok (.ireturn, 1) := by decide +kernel
theorem dX8_tell_0 : decode cX8_tell 0 = .ok (.aload_n 0, 1) := by decide +kernel
theorem dX8_tell_1 : decode cX8_tell 1 = .ok (.iload_n 1, 1) := by decide +kernel
theorem dX8_tell_2 : decode cX8_tell 2 = .ok (.invokevirtual 87, 3) := by decide +kernel
theorem dX8_tell_5 : decode cX8_tell 5 = .ok (.astore_n 2, 1) := by decide +kernel
theorem dX8_tell_6 : decode cX8_tell 6 = .ok (.aload_n 2, 1) := by decide +kernel
theorem dX8_tell_7 : decode cX8_tell 7 = .ok (.ifnonnull 7, 3) := by decide +kernel
theorem dX8_tell_10 : decode cX8_tell 10 = .ok (.iconst (-1), 1) := by decide +kernel
theorem dX8_tell_11 : decode cX8_tell 11 = .ok (.goto 11, 3) := by decide +kernel
theorem dX8_tell_14 : decode cX8_tell 14 = .ok (.aload_n 2, 1) := by decide +kernel
theorem dX8_tell_15 : decode cX8_tell 15 = .ok (.aload_n 0, 1) := by decide +kernel
theorem dX8_tell_16 : decode cX8_tell 16 = .ok (.getfield 51, 3) := by decide +kernel
theorem dX8_tell_19 : decode cX8_tell 19 = .ok (.invokevirtual 241, 3) := by decide +kernel
theorem dX8_tell_22 : decode cX8_tell 22 = .ok (.ireturn, 1) := by decide +kernel
theorem dX8_hear_0 : decode cX8_hear 0 = .ok (.aload_n 0, 1) := by decide +kernel
theorem dX8_hear_1 : decode cX8_hear 1 = .ok (.iload_n 1, 1) := by decide +kernel
theorem dX8_hear_2 : decode cX8_hear 2 = .ok (.invokevirtual 87, 3) := by decide +kernel
theorem dX8_hear_5 : decode cX8_hear 5 = .ok (.astore_n 2, 1) := by decide +kernel
theorem dX8_hear_6 : decode cX8_hear 6 = .ok (.aload_n 2, 1) := by decide +kernel
theorem dX8_hear_7 : decode cX8_hear 7 = .ok (.ifnonnull 7, 3) := by decide +kernel
theorem dX8_hear_10 : decode cX8_hear 10 = .ok (.iconst (-1), 1) := by decide +kernel
theorem dX8_hear_11 : decode cX8_hear 11 = .ok (.goto 11, 3) := by decide +kernel
theorem dX8_hear_14 : decode cX8_hear 14 = .ok (.aload_n 2, 1) := by decide +kernel
theorem dX8_hear_15 : decode cX8_hear 15 = .ok (.aload_n 0, 1) := by decide +kernel
theorem dX8_hear_16 : decode cX8_hear 16 = .ok (.getfield 51, 3) := by decide +kernel
theorem dX8_hear_19 : decode cX8_hear 19 = .ok (.invokevirtual 245, 3) := by decide +kernel
theorem dX8_hear_22 : decode cX8_hear 22 = .ok (.ireturn, 1) := by decide +kernel
theorem dX8_as_0 : decode cX8_as 0 = .ok (.aload_n 0, 1) := by decide +kernel
theorem dX8_as_1 : decode cX8_as 1 = .ok (.iconst 0, 1) := by decide +kernel
theorem dX8_as_2 : decode cX8_as 2 = .ok (.putfield 56, 3) := by decide +kernel
theorem dX8_as_5 : decode cX8_as 5 = .ok (.aload_n 0, 1) := by decide +kernel
theorem dX8_as_6 : decode cX8_as 6 = .ok (.iload_n 1, 1) := by decide +kernel
theorem dX8_as_7 : decode cX8_as 7 = .ok (.invokevirtual 87, 3) := by decide +kernel
theorem dX8_as_10 : decode cX8_as 10 = .ok (.astore_n 3, 1) := by decide +kernel
theorem dX8_as_11 : decode cX8_as 11 = .ok (.aload_n 3, 1) := by decide +kernel
theorem dX8_as_12 : decode cX8_as 12 = .ok (.ifnonnull 5, 3) := by decide +kernel
theorem dX8_as_15 : decode cX8_as 15 = .ok (.iconst (-1), 1) := by decide +kernel
theorem dX8_as_16 : decode cX8_as 16 = .ok (.ireturn, 1) := by decide +kernel
theorem dX8_as_17 : decode cX8_as 17 = .ok (.iload_n 2, 1) := by decide +kernel
theorem dX8_as_18 : decode cX8_as 18 = .ok (.iconst 0, 1) := by decide +kernel
theorem dX8_as_19 : decode cX8_as 19 = .ok (.iconst 2, 1) := by decide +kernel
theorem dX8_as_20 : decode cX8_as 20 = .ok (.invokestatic 122, 3) := by decide +kernel
theorem dX8_as_23 : decode cX8_as 23 = .ok (.ifCond .ne 6, 3) := by decide +kernel
theorem dX8_as_26 : decode cX8_as 26 = .ok (.bipush (-2), 2) := by decide +kernel
theorem dX8_as_28 : decode cX8_as 28 = .ok (.ireturn, 1) := by decide +kernel
theorem dX8_as_29 : decode cX8_as 29 = .ok (.aload_n 3, 1) := by decide +kernel
theorem dX8_as_30 : decode cX8_as 30 = .ok (.iload_n 2, 1) := by decide +kernel
theorem dX8_as_31 : decode cX8_as 31 = .ok (.invokestatic 248, 3) := by decide +kernel
theorem dX8_as_34 : decode cX8_as 34 = .ok (.ifCond .eq 7, 3) := by decide +kernel
theorem dX8_as_37 : decode cX8_as 37 = .ok (.iconst 1, 1) := by decide +kernel
theorem dX8_as_38 : decode cX8_as 38 = .ok (.goto 8, 3) := by decide +kernel
theorem dX8_as_41 : decode cX8_as 41 = .ok (.aload_n 0, 1) := by decide +kernel
theorem dX8_as_42 : decode cX8_as 42 = .ok (.iconst 2, 1) := by decide +kernel
theorem dX8_as_43 : decode cX8_as 43 = .ok (.invokevirtual 72, 3) := by decide +kernel
theorem dX8_as_46 : decode cX8_as 46 = .ok (.ireturn, 1) := by decide +kernel
theorem dX8_trace_0 : decode cX8_trace 0 = .ok (.aload_n 0, 1) := by decide +kernel
theorem dX8_trace_1 : decode cX8_trace 1 = .ok (.getfield 51, 3) := by decide +kernel
theorem dX8_trace_4 : decode cX8_trace 4 = .ok (.getfield 252, 3) := by decide +kernel
theorem dX8_trace_7 : decode cX8_trace 7 = .ok (.ireturn, 1) := by decide +kernel
theorem dX8_fault_0 : decode cX8_fault 0 = .ok (.aload_n 0, 1) := by decide +kernel
theorem dX8_fault_1 : decode cX8_fault 1 = .ok (.getfield 56, 3) := by decide +kernel
theorem dX8_fault_4 : decode cX8_fault 4 = .ok (.ireturn, 1) := by decide +kernel
theorem dX8_many_0 : decode cX8_many 0 = .ok (.iload_n 1, 1) := by decide +kernel
theorem dX8_many_1 : decode cX8_many 1 = .ok (.tableswitch 66 0 4 #[35, 40, 45, 53, 58], 35) := by decide +kernel
theorem dX8_many_36 : decode cX8_many 36 = .ok (.aload_n 0, 1) := by decide +kernel
theorem dX8_many_37 : decode cX8_many 37 = .ok (.getfield 84, 3) := by decide +kernel
theorem dX8_many_40 : decode cX8_many 40 = .ok (.ireturn, 1) := by decide +kernel
theorem dX8_many_41 : decode cX8_many 41 = .ok (.aload_n 0, 1) := by decide +kernel
theorem dX8_many_42 : decode cX8_many 42 = .ok (.getfield 126, 3) := by decide +kernel
theorem dX8_many_45 : decode cX8_many 45 = .ok (.ireturn, 1) := by decide +kernel
theorem dX8_many_46 : decode cX8_many 46 = .ok (.aload_n 0, 1) := by decide +kernel
theorem dX8_many_47 : decode cX8_many 47 = .ok (.getfield 109, 3) := by decide +kernel
theorem dX8_many_50 : decode cX8_many 50 = .ok (.invokestatic 150, 3) := by decide +kernel
theorem dX8_many_53 : decode cX8_many 53 = .ok (.ireturn, 1) := by decide +kernel
theorem dX8_many_54 : decode cX8_many 54 = .ok (.aload_n 0, 1) := by decide +kernel
theorem dX8_many_55 : decode cX8_many 55 = .ok (.getfield 158, 3) := by decide +kernel
theorem dX8_many_58 : decode cX8_many 58 = .ok (.ireturn, 1) := by decide +kernel
theorem dX8_many_59 : decode cX8_many 59 = .ok (.aload_n 0, 1) := by decide +kernel
theorem dX8_many_60 : decode cX8_many 60 = .ok (.getfield 44, 3) := by decide +kernel
theorem dX8_many_63 : decode cX8_many 63 = .ok (.getfield 202, 3) := by decide +kernel
theorem dX8_many_66 : decode cX8_many 66 = .ok (.ireturn, 1) := by decide +kernel
theorem dX8_many_67 : decode cX8_many 67 = .ok (.bipush (-2), 2) := by decide +kernel
theorem dX8_many_69 : decode cX8_many 69 = .ok (.ireturn, 1) := by decide +kernel
theorem dX8_isWithin_0 : decode cX8_isWithin 0 = .ok (.iload_n 0, 1) := by decide +kernel
theorem dX8_isWithin_1 : decode cX8_isWithin 1 = .ok (.iload_n 1, 1) := by decide +kernel
theorem dX8_isWithin_2 : decode cX8_isWithin 2 = .ok (.if_icmp .lt 12, 3) := by decide +kernel
theorem dX8_isWithin_5 : decode cX8_isWithin 5 = .ok (.iload_n 0, 1) := by decide +kernel
theorem dX8_isWithin_6 : decode cX8_isWithin 6 = .ok (.iload_n 2, 1) := by decide +kernel
theorem dX8_isWithin_7 : decode cX8_isWithin 7 = .ok (.if_icmp .gt 7, 3) := by decide +kernel
theorem dX8_isWithin_10 : decode cX8_isWithin 10 = .ok (.iconst 1, 1) := by decide +kernel
theorem dX8_isWithin_11 : decode cX8_isWithin 11 = .ok (.goto 4, 3) := by decide +kernel
theorem dX8_isWithin_14 : decode cX8_isWithin 14 = .ok (.iconst 0, 1) := by decide +kernel
theorem dX8_isWithin_15 : decode cX8_isWithin 15 = .ok (.ireturn, 1) := by decide +kernel
theorem dX8_isLane_0 : decode cX8_isLane 0 = .ok (.iload_n 0, 1) := by decide +kernel
theorem dX8_isLane_1 : decode cX8_isLane 1 = .ok (.iconst 0, 1) := by decide +kernel
theorem dX8_isLane_2 : decode cX8_isLane 2 = .ok (.iconst 2, 1) := by decide +kernel
theorem dX8_isLane_3 : decode cX8_isLane 3 = .ok (.invokestatic 122, 3) := by decide +kernel
theorem dX8_isLane_6 : decode cX8_isLane 6 = .ok (.ireturn, 1) := by decide +kernel
theorem dX8_bit_0 : decode cX8_bit 0 = .ok (.iconst 1, 1) := by decide +kernel
theorem dX8_bit_1 : decode cX8_bit 1 = .ok (.iload_n 0, 1) := by decide +kernel
theorem dX8_bit_2 : decode cX8_bit 2 = .ok (.ishl, 1) := by decide +kernel
theorem dX8_bit_3 : decode cX8_bit 3 = .ok (.ireturn, 1) := by decide +kernel
theorem dX8_has_0 : decode cX8_has 0 = .ok (.iload_n 0, 1) := by decide +kernel
theorem dX8_has_1 : decode cX8_has 1 = .ok (.iload_n 1, 1) := by decide +kernel
theorem dX8_has_2 : decode cX8_has 2 = .ok (.invokestatic 137, 3) := by decide +kernel
theorem dX8_has_5 : decode cX8_has 5 = .ok (.iand, 1) := by decide +kernel
theorem dX8_has_6 : decode cX8_has 6 = .ok (.ifCond .eq 7, 3) := by decide +kernel
theorem dX8_has_9 : decode cX8_has 9 = .ok (.iconst 1, 1) := by decide +kernel
theorem dX8_has_10 : decode cX8_has 10 = .ok (.goto 4, 3) := by decide +kernel
theorem dX8_has_13 : decode cX8_has 13 = .ok (.iconst 0, 1) := by decide +kernel
theorem dX8_has_14 : decode cX8_has 14 = .ok (.ireturn, 1) := by decide +kernel
theorem dX8_everybody_0 : decode cX8_everybody 0 = .ok (.aload_n 0, 1) := by decide +kernel
theorem dX8_everybody_1 : decode cX8_everybody 1 = .ok (.getfield 84, 3) := by decide +kernel
theorem dX8_everybody_4 : decode cX8_everybody 4 = .ok (.invokestatic 137, 3) := by decide +kernel
theorem dX8_everybody_7 : decode cX8_everybody 7 = .ok (.iconst 1, 1) := by decide +kernel
theorem dX8_everybody_8 : decode cX8_everybody 8 = .ok (.isub, 1) := by decide +kernel
theorem dX8_everybody_9 : decode cX8_everybody 9 = .ok (.ireturn, 1) := by decide +kernel
theorem dX8_sheetAt_0 : decode cX8_sheetAt 0 = .ok (.iload_n 1, 1) := by decide +kernel
theorem dX8_sheetAt_1 : decode cX8_sheetAt 1 = .ok (.ifCond .lt 17, 3) := by decide +kernel
theorem dX8_sheetAt_4 : decode cX8_sheetAt 4 = .ok (.iload_n 1, 1) := by decide +kernel
theorem dX8_sheetAt_5 : decode cX8_sheetAt 5 = .ok (.iconst 4, 1) := by decide +kernel
theorem dX8_sheetAt_6 : decode cX8_sheetAt 6 = .ok (.if_icmp .ge 12, 3) := by decide +kernel
theorem dX8_sheetAt_9 : decode cX8_sheetAt 9 = .ok (.aload_n 0, 1) := by decide +kernel
theorem dX8_sheetAt_10 : decode cX8_sheetAt 10 = .ok (.getfield 13, 3) := by decide +kernel
theorem dX8_sheetAt_13 : decode cX8_sheetAt 13 = .ok (.iload_n 1, 1) := by decide +kernel
theorem dX8_sheetAt_14 : decode cX8_sheetAt 14 = .ok (.aaload, 1) := by decide +kernel
theorem dX8_sheetAt_15 : decode cX8_sheetAt 15 = .ok (.goto 4, 3) := by decide +kernel
theorem dX8_sheetAt_18 : decode cX8_sheetAt 18 = .ok (.aconst_null, 1) := by decide +kernel
theorem dX8_sheetAt_19 : decode cX8_sheetAt 19 = .ok (.areturn, 1) := by decide +kernel
theorem dX8_personAt_0 : decode cX8_personAt 0 = .ok (.iload_n 1, 1) := by decide +kernel
theorem dX8_personAt_1 : decode cX8_personAt 1 = .ok (.ifCond .lt 20, 3) := by decide +kernel
theorem dX8_personAt_4 : decode cX8_personAt 4 = .ok (.iload_n 1, 1) := by decide +kernel
theorem dX8_personAt_5 : decode cX8_personAt 5 = .ok (.aload_n 0, 1) := by decide +kernel
theorem dX8_personAt_6 : decode cX8_personAt 6 = .ok (.getfield 84, 3) := by decide +kernel
theorem dX8_personAt_9 : decode cX8_personAt 9 = .ok (.if_icmp .ge 12, 3) := by decide +kernel
theorem dX8_personAt_12 : decode cX8_personAt 12 = .ok (.aload_n 0, 1) := by decide +kernel
theorem dX8_personAt_13 : decode cX8_personAt 13 = .ok (.getfield 19, 3) := by decide +kernel
theorem dX8_personAt_16 : decode cX8_personAt 16 = .ok (.iload_n 1, 1) := by decide +kernel
theorem dX8_personAt_17 : decode cX8_personAt 17 = .ok (.aaload, 1) := by decide +kernel
theorem dX8_personAt_18 : decode cX8_personAt 18 = .ok (.goto 4, 3) := by decide +kernel
theorem dX8_personAt_21 : decode cX8_personAt 21 = .ok (.aconst_null, 1) := by decide +kernel
theorem dX8_personAt_22 : decode cX8_personAt 22 = .ok (.areturn, 1) := by decide +kernel
theorem dX8_areTwo_0 : decode cX8_areTwo 0 = .ok (.aload_n 0, 1) := by decide +kernel
theorem dX8_areTwo_1 : decode cX8_areTwo 1 = .ok (.iload_n 1, 1) := by decide +kernel
theorem dX8_areTwo_2 : decode cX8_areTwo 2 = .ok (.invokevirtual 87, 3) := by decide +kernel
theorem dX8_areTwo_5 : decode cX8_areTwo 5 = .ok (.ifnull 20, 3) := by decide +kernel
theorem dX8_areTwo_8 : decode cX8_areTwo 8 = .ok (.aload_n 0, 1) := by decide +kernel
theorem dX8_areTwo_9 : decode cX8_areTwo 9 = .ok (.iload_n 2, 1) := by decide +kernel
theorem dX8_areTwo_10 : decode cX8_areTwo 10 = .ok (.invokevirtual 87, 3) := by decide +kernel
theorem dX8_areTwo_13 : decode cX8_areTwo 13 = .ok (.ifnull 12, 3) := by decide +kernel
theorem dX8_areTwo_16 : decode cX8_areTwo 16 = .ok (.iload_n 1, 1) := by decide +kernel
theorem dX8_areTwo_17 : decode cX8_areTwo 17 = .ok (.iload_n 2, 1) := by decide +kernel
theorem dX8_areTwo_18 : decode cX8_areTwo 18 = .ok (.if_icmp .eq 7, 3) := by decide +kernel
theorem dX8_areTwo_21 : decode cX8_areTwo 21 = .ok (.iconst 1, 1) := by decide +kernel
theorem dX8_areTwo_22 : decode cX8_areTwo 22 = .ok (.goto 4, 3) := by decide +kernel
theorem dX8_areTwo_25 : decode cX8_areTwo 25 = .ok (.iconst 0, 1) := by decide +kernel
theorem dX8_areTwo_26 : decode cX8_areTwo 26 = .ok (.ireturn, 1) := by decide +kernel
theorem dX8_faulted_0 : decode cX8_faulted 0 = .ok (.aload_n 0, 1) := by decide +kernel
theorem dX8_faulted_1 : decode cX8_faulted 1 = .ok (.iload_n 1, 1) := by decide +kernel
theorem dX8_faulted_2 : decode cX8_faulted 2 = .ok (.putfield 56, 3) := by decide +kernel
theorem dX8_faulted_5 : decode cX8_faulted 5 = .ok (.bipush (-10), 2) := by decide +kernel
theorem dX8_faulted_7 : decode cX8_faulted 7 = .ok (.iload_n 1, 1) := by decide +kernel
theorem dX8_faulted_8 : decode cX8_faulted 8 = .ok (.isub, 1) := by decide +kernel
theorem dX8_faulted_9 : decode cX8_faulted 9 = .ok (.ireturn, 1) := by decide +kernel
theorem dX8_faultOfTaking_0 : decode cX8_faultOfTaking 0 = .ok (.aload_n 0, 1) := by decide +kernel
theorem dX8_faultOfTaking_1 : decode cX8_faultOfTaking 1 = .ok (.getfield 216, 3) := by decide +kernel
theorem dX8_faultOfTaking_4 : decode cX8_faultOfTaking 4 = .ok (.ifCond .ne 5, 3) := by decide +kernel
theorem dX8_faultOfTaking_7 : decode cX8_faultOfTaking 7 = .ok (.iconst 1, 1) := by decide +kernel
theorem dX8_faultOfTaking_8 : decode cX8_faultOfTaking 8 = .ok (.ireturn, 1) := by decide +kernel
theorem dX8_faultOfTaking_9 : decode cX8_faultOfTaking 9 = .ok (.aload_n 0, 1) := by decide +kernel
theorem dX8_faultOfTaking_10 : decode cX8_faultOfTaking 10 = .ok (.getfield 220, 3) := by decide +kernel
theorem dX8_faultOfTaking_13 : decode cX8_faultOfTaking 13 = .ok (.iload_n 1, 1) := by decide +kernel
theorem dX8_faultOfTaking_14 : decode cX8_faultOfTaking 14 = .ok (.if_icmp .eq 5, 3) := by decide +kernel
theorem dX8_faultOfTaking_17 : decode cX8_faultOfTaking 17 = .ok (.iconst 2, 1) := by decide +kernel
theorem dX8_faultOfTaking_18 : decode cX8_faultOfTaking 18 = .ok (.ireturn, 1) := by decide +kernel
theorem dX8_faultOfTaking_19 : decode cX8_faultOfTaking 19 = .ok (.iload_n 3, 1) := by decide +kernel
theorem dX8_faultOfTaking_20 : decode cX8_faultOfTaking 20 = .ok (.ifCond .ge 5, 3) := by decide +kernel
theorem dX8_faultOfTaking_23 : decode cX8_faultOfTaking 23 = .ok (.iconst 4, 1) := by decide +kernel
theorem dX8_faultOfTaking_24 : decode cX8_faultOfTaking 24 = .ok (.ireturn, 1) := by decide +kernel
theorem dX8_faultOfTaking_25 : decode cX8_faultOfTaking 25 = .ok (.aload_n 0, 1) := by decide +kernel
theorem dX8_faultOfTaking_26 : decode cX8_faultOfTaking 26 = .ok (.iload_n 2, 1) := by decide +kernel
theorem dX8_faultOfTaking_27 : decode cX8_faultOfTaking 27 = .ok (.iload_n 3, 1) := by decide +kernel
theorem dX8_faultOfTaking_28 : decode cX8_faultOfTaking 28 = .ok (.invokevirtual 229, 3) := by decide +kernel
theorem dX8_faultOfTaking_31 : decode cX8_faultOfTaking 31 = .ok (.ifCond .eq 7, 3) := by decide +kernel
theorem dX8_faultOfTaking_34 : decode cX8_faultOfTaking 34 = .ok (.iconst 0, 1) := by decide +kernel
theorem dX8_faultOfTaking_35 : decode cX8_faultOfTaking 35 = .ok (.goto 4, 3) := by decide +kernel
theorem dX8_faultOfTaking_38 : decode cX8_faultOfTaking 38 = .ok (.iconst 3, 1) := by decide +kernel
theorem dX8_faultOfTaking_39 : decode cX8_faultOfTaking 39 = .ok (.ireturn, 1) := by decide +kernel
theorem dX8_isOneOf_0 : decode cX8_isOneOf 0 = .ok (.iload_n 1, 1) := by decide +kernel
theorem dX8_isOneOf_1 : decode cX8_isOneOf 1 = .ok (.lookupswitch 34 #[(0, 27), (1, 29)], 27) := by decide +kernel
theorem dX8_isOneOf_28 : decode cX8_isOneOf 28 = .ok (.iconst 1, 1) := by decide +kernel
theorem dX8_isOneOf_29 : decode cX8_isOneOf 29 = .ok (.ireturn, 1) := by decide +kernel
theorem dX8_isOneOf_30 : decode cX8_isOneOf 30 = .ok (.aload_n 0, 1) := by decide +kernel
theorem dX8_isOneOf_31 : decode cX8_isOneOf 31 = .ok (.instanceof 255, 3) := by decide +kernel
theorem dX8_isOneOf_34 : decode cX8_isOneOf 34 = .ok (.ireturn, 1) := by decide +kernel
theorem dX8_isOneOf_35 : decode cX8_isOneOf 35 = .ok (.aload_n 0, 1) := by decide +kernel
theorem dX8_isOneOf_36 : decode cX8_isOneOf 36 = .ok (.instanceof 257, 3) := by decide +kernel
theorem dX8_isOneOf_39 : decode cX8_isOneOf 39 = .ok (.ireturn, 1) := by decide +kernel
theorem dX8_wouldGo_0 : decode cX8_wouldGo 0 = .ok (.iload_n 0, 1) := by decide +kernel
theorem dX8_wouldGo_1 : decode cX8_wouldGo 1 = .ok (.lookupswitch 35 #[(1, 27), (2, 31)], 27) := by decide +kernel
theorem dX8_wouldGo_28 : decode cX8_wouldGo 28 = .ok (.iconst 2, 1) := by decide +kernel
theorem dX8_wouldGo_29 : decode cX8_wouldGo 29 = .ok (.iload_n 1, 1) := by decide +kernel
theorem dX8_wouldGo_30 : decode cX8_wouldGo 30 = .ok (.imul, 1) := by decide +kernel
theorem dX8_wouldGo_31 : decode cX8_wouldGo 31 = .ok (.ireturn, 1) := by decide +kernel
theorem dX8_wouldGo_32 : decode cX8_wouldGo 32 = .ok (.iload_n 1, 1) := by decide +kernel
theorem dX8_wouldGo_33 : decode cX8_wouldGo 33 = .ok (.iconst 2, 1) := by decide +kernel
theorem dX8_wouldGo_34 : decode cX8_wouldGo 34 = .ok (.idiv, 1) := by decide +kernel
theorem dX8_wouldGo_35 : decode cX8_wouldGo 35 = .ok (.ireturn, 1) := by decide +kernel
theorem dX8_wouldGo_36 : decode cX8_wouldGo 36 = .ok (.iload_n 1, 1) := by decide +kernel
theorem dX8_wouldGo_37 : decode cX8_wouldGo 37 = .ok (.ireturn, 1) := by decide +kernel
theorem dX8_mayGo_0 : decode cX8_mayGo 0 = .ok (.iload_n 1, 1) := by decide +kernel
theorem dX8_mayGo_1 : decode cX8_mayGo 1 = .ok (.iload_n 2, 1) := by decide +kernel
theorem dX8_mayGo_2 : decode cX8_mayGo 2 = .ok (.invokestatic 101, 3) := by decide +kernel
theorem dX8_mayGo_5 : decode cX8_mayGo 5 = .ok (.iload_n 3, 1) := by decide +kernel
theorem dX8_mayGo_6 : decode cX8_mayGo 6 = .ok (.aload_n 0, 1) := by decide +kernel
theorem dX8_mayGo_7 : decode cX8_mayGo 7 = .ok (.getfield 126, 3) := by decide +kernel
theorem dX8_mayGo_10 : decode cX8_mayGo 10 = .ok (.iadd, 1) := by decide +kernel
theorem dX8_mayGo_11 : decode cX8_mayGo 11 = .ok (.invokestatic 259, 3) := by decide +kernel
theorem dX8_mayGo_14 : decode cX8_mayGo 14 = .ok (.ireturn, 1) := by decide +kernel
theorem dX8_maysNow_0 : decode cX8_maysNow 0 = .ok (.iconst 0, 1) := by decide +kernel
theorem dX8_maysNow_1 : decode cX8_maysNow 1 = .ok (.istore_n 1, 1) := by decide +kernel
theorem dX8_maysNow_2 : decode cX8_maysNow 2 = .ok (.iload_n 1, 1) := by decide +kernel
theorem dX8_maysNow_3 : decode cX8_maysNow 3 = .ok (.bipush 6, 2) := by decide +kernel
theorem dX8_maysNow_5 : decode cX8_maysNow 5 = .ok (.if_icmp .ge 45, 3) := by decide +kernel
theorem dX8_maysNow_8 : decode cX8_maysNow 8 = .ok (.aload_n 0, 1) := by decide +kernel
theorem dX8_maysNow_9 : decode cX8_maysNow 9 = .ok (.iload_n 1, 1) := by decide +kernel
theorem dX8_maysNow_10 : decode cX8_maysNow 10 = .ok (.invokevirtual 87, 3) := by decide +kernel
theorem dX8_maysNow_13 : decode cX8_maysNow 13 = .ok (.astore_n 2, 1) := by decide +kernel
theorem dX8_maysNow_14 : decode cX8_maysNow 14 = .ok (.aload_n 0, 1) := by decide +kernel
theorem dX8_maysNow_15 : decode cX8_maysNow 15 = .ok (.getfield 23, 3) := by decide +kernel
theorem dX8_maysNow_18 : decode cX8_maysNow 18 = .ok (.iload_n 1, 1) := by decide +kernel
theorem dX8_maysNow_19 : decode cX8_maysNow 19 = .ok (.aload_n 2, 1) := by decide +kernel
theorem dX8_maysNow_20 : decode cX8_maysNow 20 = .ok (.ifnonnull 7, 3) := by decide +kernel
theorem dX8_maysNow_23 : decode cX8_maysNow 23 = .ok (.iconst 0, 1) := by decide +kernel
theorem dX8_maysNow_24 : decode cX8_maysNow 24 = .ok (.goto 19, 3) := by decide +kernel
theorem dX8_maysNow_27 : decode cX8_maysNow 27 = .ok (.aload_n 0, 1) := by decide +kernel
theorem dX8_maysNow_28 : decode cX8_maysNow 28 = .ok (.aload_n 2, 1) := by decide +kernel
theorem dX8_maysNow_29 : decode cX8_maysNow 29 = .ok (.invokevirtual 91, 3) := by decide +kernel
theorem dX8_maysNow_32 : decode cX8_maysNow 32 = .ok (.aload_n 2, 1) := by decide +kernel
theorem dX8_maysNow_33 : decode cX8_maysNow 33 = .ok (.getfield 95, 3) := by decide +kernel
theorem dX8_maysNow_36 : decode cX8_maysNow 36 = .ok (.aload_n 2, 1) := by decide +kernel
theorem dX8_maysNow_37 : decode cX8_maysNow 37 = .ok (.getfield 98, 3) := by decide +kernel
theorem dX8_maysNow_40 : decode cX8_maysNow 40 = .ok (.invokevirtual 105, 3) := by decide +kernel
theorem dX8_maysNow_43 : decode cX8_maysNow 43 = .ok (.iastore, 1) := by decide +kernel
theorem dX8_maysNow_44 : decode cX8_maysNow 44 = .ok (.iinc 1 1, 3) := by decide +kernel
theorem dX8_maysNow_47 : decode cX8_maysNow 47 = .ok (.goto (-45), 3) := by decide +kernel
theorem dX8_maysNow_50 : decode cX8_maysNow 50 = .ok (.aload_n 0, 1) := by decide +kernel
theorem dX8_maysNow_51 : decode cX8_maysNow 51 = .ok (.getfield 23, 3) := by decide +kernel
theorem dX8_maysNow_54 : decode cX8_maysNow 54 = .ok (.areturn, 1) := by decide +kernel
theorem dX8_hasteOf_0 : decode cX8_hasteOf 0 = .ok (.aload_n 0, 1) := by decide +kernel
theorem dX8_hasteOf_1 : decode cX8_hasteOf 1 = .ok (.iload_n 1, 1) := by decide +kernel
theorem dX8_hasteOf_2 : decode cX8_hasteOf 2 = .ok (.invokevirtual 87, 3) := by decide +kernel
theorem dX8_hasteOf_5 : decode cX8_hasteOf 5 = .ok (.astore_n 2, 1) := by decide +kernel
theorem dX8_hasteOf_6 : decode cX8_hasteOf 6 = .ok (.aload_n 2, 1) := by decide +kernel
theorem dX8_hasteOf_7 : decode cX8_hasteOf 7 = .ok (.ifnonnull 7, 3) := by decide +kernel
theorem dX8_hasteOf_10 : decode cX8_hasteOf 10 = .ok (.iconst 0, 1) := by decide +kernel
theorem dX8_hasteOf_11 : decode cX8_hasteOf 11 = .ok (.goto 7, 3) := by decide +kernel
theorem dX8_hasteOf_14 : decode cX8_hasteOf 14 = .ok (.aload_n 2, 1) := by decide +kernel
theorem dX8_hasteOf_15 : decode cX8_hasteOf 15 = .ok (.getfield 95, 3) := by decide +kernel
theorem dX8_hasteOf_18 : decode cX8_hasteOf 18 = .ok (.ireturn, 1) := by decide +kernel
theorem dX8_firstFault_0 : decode cX8_firstFault 0 = .ok (.iconst 0, 1) := by decide +kernel
theorem dX8_firstFault_1 : decode cX8_firstFault 1 = .ok (.istore_n 3, 1) := by decide +kernel
theorem dX8_firstFault_2 : decode cX8_firstFault 2 = .ok (.iload_n 3, 1) := by decide +kernel
theorem dX8_firstFault_3 : decode cX8_firstFault 3 = .ok (.iload_n 2, 1) := by decide +kernel
theorem dX8_firstFault_4 : decode cX8_firstFault 4 = .ok (.if_icmp .ge 25, 3) := by decide +kernel
theorem dX8_firstFault_7 : decode cX8_firstFault 7 = .ok (.aload_n 0, 1) := by decide +kernel
theorem dX8_firstFault_8 : decode cX8_firstFault 8 = .ok (.iload_n 1, 1) := by decide +kernel
theorem dX8_firstFault_9 : decode cX8_firstFault 9 = .ok (.iload_n 3, 1) := by decide +kernel
theorem dX8_firstFault_10 : decode cX8_firstFault 10 = .ok (.iadd, 1) := by decide +kernel
theorem dX8_firstFault_11 : decode cX8_firstFault 11 = .ok (.invokevirtual 226, 3) := by decide +kernel
theorem dX8_firstFault_14 : decode cX8_firstFault 14 = .ok (.iload_n 3, 1) := by decide +kernel
theorem dX8_firstFault_15 : decode cX8_firstFault 15 = .ok (.invokestatic 264, 3) := by decide +kernel
theorem dX8_firstFault_18 : decode cX8_firstFault 18 = .ok (.ifCond .ne 5, 3) := by decide +kernel
theorem dX8_firstFault_21 : decode cX8_firstFault 21 = .ok (.iload_n 3, 1) := by decide +kernel
theorem dX8_firstFault_22 : decode cX8_firstFault 22 = .ok (.ireturn, 1) := by decide +kernel
theorem dX8_firstFault_23 : decode cX8_firstFault 23 = .ok (.iinc 3 1, 3) := by decide +kernel
theorem dX8_firstFault_26 : decode cX8_firstFault 26 = .ok (.goto (-24), 3) := by decide +kernel
theorem dX8_firstFault_29 : decode cX8_firstFault 29 = .ok (.iload_n 2, 1) := by decide +kernel
theorem dX8_firstFault_30 : decode cX8_firstFault 30 = .ok (.bipush 10, 2) := by decide +kernel
theorem dX8_firstFault_32 : decode cX8_firstFault 32 = .ok (.if_icmp .lt 15, 3) := by decide +kernel
theorem dX8_firstFault_35 : decode cX8_firstFault 35 = .ok (.iload_n 2, 1) := by decide +kernel
theorem dX8_firstFault_36 : decode cX8_firstFault 36 = .ok (.iconst 2, 1) := by decide +kernel
theorem dX8_firstFault_37 : decode cX8_firstFault 37 = .ok (.isub, 1) := by decide +kernel
theorem dX8_firstFault_38 : decode cX8_firstFault 38 = .ok (.iconst 4, 1) := by decide +kernel
theorem dX8_firstFault_39 : decode cX8_firstFault 39 = .ok (.irem, 1) := by decide +kernel
theorem dX8_firstFault_40 : decode cX8_firstFault 40 = .ok (.ifCond .ne 7, 3) := by decide +kernel
theorem dX8_firstFault_43 : decode cX8_firstFault 43 = .ok (.iconst 1, 1) := by decide +kernel
theorem dX8_firstFault_44 : decode cX8_firstFault 44 = .ok (.goto 4, 3) := by decide +kernel
theorem dX8_firstFault_47 : decode cX8_firstFault 47 = .ok (.iconst 0, 1) := by decide +kernel
theorem dX8_firstFault_48 : decode cX8_firstFault 48 = .ok (.istore_n 3, 1) := by decide +kernel
theorem dX8_firstFault_49 : decode cX8_firstFault 49 = .ok (.iload_n 3, 1) := by decide +kernel
theorem dX8_firstFault_50 : decode cX8_firstFault 50 = .ok (.ifCond .eq 8, 3) := by decide +kernel
theorem dX8_firstFault_53 : decode cX8_firstFault 53 = .ok (.bipush (-9), 2) := by decide +kernel
theorem dX8_firstFault_55 : decode cX8_firstFault 55 = .ok (.goto 4, 3) := by decide +kernel
theorem dX8_firstFault_58 : decode cX8_firstFault 58 = .ok (.iload_n 2, 1) := by decide +kernel
theorem dX8_firstFault_59 : decode cX8_firstFault 59 = .ok (.ireturn, 1) := by decide +kernel
theorem dX8_isFit_0 : decode cX8_isFit 0 = .ok (.iload_n 1, 1) := by decide +kernel
theorem dX8_isFit_1 : decode cX8_isFit 1 = .ok (.bipush 26, 2) := by decide +kernel
theorem dX8_isFit_3 : decode cX8_isFit 3 = .ok (.if_icmp .lt 5, 3) := by decide +kernel
theorem dX8_isFit_6 : decode cX8_isFit 6 = .ok (.iconst 0, 1) := by decide +kernel
theorem dX8_isFit_7 : decode cX8_isFit 7 = .ok (.ireturn, 1) := by decide +kernel
theorem dX8_isFit_8 : decode cX8_isFit 8 = .ok (.iload_n 1, 1) := by decide +kernel
theorem dX8_isFit_9 : decode cX8_isFit 9 = .ok (.iconst 2, 1) := by decide +kernel
theorem dX8_isFit_10 : decode cX8_isFit 10 = .ok (.if_icmp .ge 26, 3) := by decide +kernel
theorem dX8_isFit_13 : decode cX8_isFit 13 = .ok (.iload_n 1, 1) := by decide +kernel
theorem dX8_isFit_14 : decode cX8_isFit 14 = .ok (.ifCond .ne 17, 3) := by decide +kernel
theorem dX8_isFit_17 : decode cX8_isFit 17 = .ok (.iload_n 0, 1) := by decide +kernel
theorem dX8_isFit_18 : decode cX8_isFit 18 = .ok (.bipush 109, 2) := by decide +kernel
theorem dX8_isFit_20 : decode cX8_isFit 20 = .ok (.if_icmp .ne 7, 3) := by decide +kernel
theorem dX8_isFit_23 : decode cX8_isFit 23 = .ok (.iconst 1, 1) := by decide +kernel
theorem dX8_isFit_24 : decode cX8_isFit 24 = .ok (.goto 11, 3) := by decide +kernel
theorem dX8_isFit_27 : decode cX8_isFit 27 = .ok (.iconst 0, 1) := by decide +kernel
theorem dX8_isFit_28 : decode cX8_isFit 28 = .ok (.goto 7, 3) := by decide +kernel
theorem dX8_isFit_31 : decode cX8_isFit 31 = .ok (.iload_n 0, 1) := by decide +kernel
theorem dX8_isFit_32 : decode cX8_isFit 32 = .ok (.invokestatic 267, 3) := by decide +kernel
theorem dX8_isFit_35 : decode cX8_isFit 35 = .ok (.ireturn, 1) := by decide +kernel
theorem dX8_isFit_36 : decode cX8_isFit 36 = .ok (.iload_n 1, 1) := by decide +kernel
theorem dX8_isFit_37 : decode cX8_isFit 37 = .ok (.iconst 2, 1) := by decide +kernel
theorem dX8_isFit_38 : decode cX8_isFit 38 = .ok (.isub, 1) := by decide +kernel
theorem dX8_isFit_39 : decode cX8_isFit 39 = .ok (.iconst 4, 1) := by decide +kernel
theorem dX8_isFit_40 : decode cX8_isFit 40 = .ok (.irem, 1) := by decide +kernel
theorem dX8_isFit_41 : decode cX8_isFit 41 = .ok (.lookupswitch 63 #[(0, 27), (1, 39)], 27) := by decide +kernel
theorem dX8_isFit_68 : decode cX8_isFit 68 = .ok (.iload_n 0, 1) := by decide +kernel
theorem dX8_isFit_69 : decode cX8_isFit 69 = .ok (.bipush 59, 2) := by decide +kernel
theorem dX8_isFit_71 : decode cX8_isFit 71 = .ok (.if_icmp .ne 7, 3) := by decide +kernel
theorem dX8_isFit_74 : decode cX8_isFit 74 = .ok (.iconst 1, 1) := by decide +kernel
theorem dX8_isFit_75 : decode cX8_isFit 75 = .ok (.goto 4, 3) := by decide +kernel
theorem dX8_isFit_78 : decode cX8_isFit 78 = .ok (.iconst 0, 1) := by decide +kernel
theorem dX8_isFit_79 : decode cX8_isFit 79 = .ok (.ireturn, 1) := by decide +kernel
theorem dX8_isFit_80 : decode cX8_isFit 80 = .ok (.iload_n 0, 1) := by decide +kernel
theorem dX8_isFit_81 : decode cX8_isFit 81 = .ok (.bipush 112, 2) := by decide +kernel
theorem dX8_isFit_83 : decode cX8_isFit 83 = .ok (.if_icmp .eq 15, 3) := by decide +kernel
theorem dX8_isFit_86 : decode cX8_isFit 86 = .ok (.iload_n 0, 1) := by decide +kernel
theorem dX8_isFit_87 : decode cX8_isFit 87 = .ok (.bipush 117, 2) := by decide +kernel
theorem dX8_isFit_89 : decode cX8_isFit 89 = .ok (.if_icmp .eq 9, 3) := by decide +kernel
theorem dX8_isFit_92 : decode cX8_isFit 92 = .ok (.iload_n 0, 1) := by decide +kernel
theorem dX8_isFit_93 : decode cX8_isFit 93 = .ok (.bipush 108, 2) := by decide +kernel
theorem dX8_isFit_95 : decode cX8_isFit 95 = .ok (.if_icmp .ne 7, 3) := by decide +kernel
theorem dX8_isFit_98 : decode cX8_isFit 98 = .ok (.iconst 1, 1) := by decide +kernel
theorem dX8_isFit_99 : decode cX8_isFit 99 = .ok (.goto 4, 3) := by decide +kernel
theorem dX8_isFit_102 : decode cX8_isFit 102 = .ok (.iconst 0, 1) := by decide +kernel
theorem dX8_isFit_103 : decode cX8_isFit 103 = .ok (.ireturn, 1) := by decide +kernel
theorem dX8_isFit_104 : decode cX8_isFit 104 = .ok (.iload_n 0, 1) := by decide +kernel
theorem dX8_isFit_105 : decode cX8_isFit 105 = .ok (.invokestatic 267, 3) := by decide +kernel
theorem dX8_isFit_108 : decode cX8_isFit 108 = .ok (.ireturn, 1) := by decide +kernel
theorem dX8_isDigit_0 : decode cX8_isDigit 0 = .ok (.iload_n 0, 1) := by decide +kernel
theorem dX8_isDigit_1 : decode cX8_isDigit 1 = .ok (.bipush 48, 2) := by decide +kernel
theorem dX8_isDigit_3 : decode cX8_isDigit 3 = .ok (.bipush 57, 2) := by decide +kernel
theorem dX8_isDigit_5 : decode cX8_isDigit 5 = .ok (.invokestatic 122, 3) := by decide +kernel
theorem dX8_isDigit_8 : decode cX8_isDigit 8 = .ok (.ireturn, 1) := by decide +kernel
theorem dX8_takeText_0 : decode cX8_takeText 0 = .ok (.aload_n 0, 1) := by decide +kernel
theorem dX8_takeText_1 : decode cX8_takeText 1 = .ok (.aload_n 1, 1) := by decide +kernel
theorem dX8_takeText_2 : decode cX8_takeText 2 = .ok (.iload_n 2, 1) := by decide +kernel
theorem dX8_takeText_3 : decode cX8_takeText 3 = .ok (.iconst 1, 1) := by decide +kernel
theorem dX8_takeText_4 : decode cX8_takeText 4 = .ok (.iadd, 1) := by decide +kernel
theorem dX8_takeText_5 : decode cX8_takeText 5 = .ok (.invokevirtual 226, 3) := by decide +kernel
theorem dX8_takeText_8 : decode cX8_takeText 8 = .ok (.bipush 48, 2) := by decide +kernel
theorem dX8_takeText_10 : decode cX8_takeText 10 = .ok (.isub, 1) := by decide +kernel
theorem dX8_takeText_11 : decode cX8_takeText 11 = .ok (.putfield 126, 3) := by decide +kernel
theorem dX8_takeText_14 : decode cX8_takeText 14 = .ok (.aload_n 0, 1) := by decide +kernel
theorem dX8_takeText_15 : decode cX8_takeText 15 = .ok (.iload_n 3, 1) := by decide +kernel
theorem dX8_takeText_16 : decode cX8_takeText 16 = .ok (.iconst 2, 1) := by decide +kernel
theorem dX8_takeText_17 : decode cX8_takeText 17 = .ok (.isub, 1) := by decide +kernel
theorem dX8_takeText_18 : decode cX8_takeText 18 = .ok (.iconst 4, 1) := by decide +kernel
theorem dX8_takeText_19 : decode cX8_takeText 19 = .ok (.idiv, 1) := by decide +kernel
theorem dX8_takeText_20 : decode cX8_takeText 20 = .ok (.bipush 6, 2) := by decide +kernel
theorem dX8_takeText_22 : decode cX8_takeText 22 = .ok (.invokestatic 259, 3) := by decide +kernel
theorem dX8_takeText_25 : decode cX8_takeText 25 = .ok (.putfield 84, 3) := by decide +kernel
theorem dX8_takeText_28 : decode cX8_takeText 28 = .ok (.iconst 0, 1) := by decide +kernel
theorem dX8_takeText_29 : decode cX8_takeText 29 = .ok (.istore 4, 2) := by decide +kernel
theorem dX8_takeText_31 : decode cX8_takeText 31 = .ok (.iload 4, 2) := by decide +kernel
theorem dX8_takeText_33 : decode cX8_takeText 33 = .ok (.aload_n 0, 1) := by decide +kernel
theorem dX8_takeText_34 : decode cX8_takeText 34 = .ok (.getfield 84, 3) := by decide +kernel
theorem dX8_takeText_37 : decode cX8_takeText 37 = .ok (.if_icmp .ge 61, 3) := by decide +kernel
theorem dX8_takeText_40 : decode cX8_takeText 40 = .ok (.iload_n 2, 1) := by decide +kernel
theorem dX8_takeText_41 : decode cX8_takeText 41 = .ok (.iconst 2, 1) := by decide +kernel
theorem dX8_takeText_42 : decode cX8_takeText 42 = .ok (.iadd, 1) := by decide +kernel
theorem dX8_takeText_43 : decode cX8_takeText 43 = .ok (.iload 4, 2) := by decide +kernel
theorem dX8_takeText_45 : decode cX8_takeText 45 = .ok (.iconst 4, 1) := by decide +kernel
theorem dX8_takeText_46 : decode cX8_takeText 46 = .ok (.imul, 1) := by decide +kernel
theorem dX8_takeText_47 : decode cX8_takeText 47 = .ok (.iadd, 1) := by decide +kernel
theorem dX8_takeText_48 : decode cX8_takeText 48 = .ok (.istore 5, 2) := by decide +kernel
theorem dX8_takeText_50 : decode cX8_takeText 50 = .ok (.aload_n 0, 1) := by decide +kernel
theorem dX8_takeText_51 : decode cX8_takeText 51 = .ok (.getfield 19, 3) := by decide +kernel
theorem dX8_takeText_54 : decode cX8_takeText 54 = .ok (.iload 4, 2) := by decide +kernel
theorem dX8_takeText_56 : decode cX8_takeText 56 = .ok (.aload_n 1, 1) := by decide +kernel
theorem dX8_takeText_57 : decode cX8_takeText 57 = .ok (.iload 5, 2) := by decide +kernel
theorem dX8_takeText_59 : decode cX8_takeText 59 = .ok (.iconst 1, 1) := by decide +kernel
theorem dX8_takeText_60 : decode cX8_takeText 60 = .ok (.iadd, 1) := by decide +kernel
theorem dX8_takeText_61 : decode cX8_takeText 61 = .ok (.invokevirtual 226, 3) := by decide +kernel
theorem dX8_takeText_64 : decode cX8_takeText 64 = .ok (.iload 4, 2) := by decide +kernel
theorem dX8_takeText_66 : decode cX8_takeText 66 = .ok (.aload_n 1, 1) := by decide +kernel
theorem dX8_takeText_67 : decode cX8_takeText 67 = .ok (.iload 5, 2) := by decide +kernel
theorem dX8_takeText_69 : decode cX8_takeText 69 = .ok (.iconst 2, 1) := by decide +kernel
theorem dX8_takeText_70 : decode cX8_takeText 70 = .ok (.iadd, 1) := by decide +kernel
theorem dX8_takeText_71 : decode cX8_takeText 71 = .ok (.invokevirtual 226, 3) := by decide +kernel
theorem dX8_takeText_74 : decode cX8_takeText 74 = .ok (.bipush 48, 2) := by decide +kernel
theorem dX8_takeText_76 : decode cX8_takeText 76 = .ok (.isub, 1) := by decide +kernel
theorem dX8_takeText_77 : decode cX8_takeText 77 = .ok (.aload_n 1, 1) := by decide +kernel
theorem dX8_takeText_78 : decode cX8_takeText 78 = .ok (.iload 5, 2) := by decide +kernel
theorem dX8_takeText_80 : decode cX8_takeText 80 = .ok (.iconst 3, 1) := by decide +kernel
theorem dX8_takeText_81 : decode cX8_takeText 81 = .ok (.iadd, 1) := by decide +kernel
theorem dX8_takeText_82 : decode cX8_takeText 82 = .ok (.invokevirtual 226, 3) := by decide +kernel
theorem dX8_takeText_85 : decode cX8_takeText 85 = .ok (.bipush 48, 2) := by decide +kernel
theorem dX8_takeText_87 : decode cX8_takeText 87 = .ok (.isub, 1) := by decide +kernel
theorem dX8_takeText_88 : decode cX8_takeText 88 = .ok (.invokestatic 270, 3) := by decide +kernel
theorem dX8_takeText_91 : decode cX8_takeText 91 = .ok (.aastore, 1) := by decide +kernel
theorem dX8_takeText_92 : decode cX8_takeText 92 = .ok (.iinc 4 1, 3) := by decide +kernel
theorem dX8_takeText_95 : decode cX8_takeText 95 = .ok (.goto (-64), 3) := by decide +kernel
theorem dX8_takeText_98 : decode cX8_takeText 98 = .ok (.aload_n 0, 1) := by decide +kernel
theorem dX8_takeText_99 : decode cX8_takeText 99 = .ok (.aload_n 0, 1) := by decide +kernel
theorem dX8_takeText_100 : decode cX8_takeText 100 = .ok (.invokevirtual 155, 3) := by decide +kernel
theorem dX8_takeText_103 : decode cX8_takeText 103 = .ok (.putfield 109, 3) := by decide +kernel
theorem dX8_takeText_106 : decode cX8_takeText 106 = .ok (.aload_n 0, 1) := by decide +kernel
theorem dX8_takeText_107 : decode cX8_takeText 107 = .ok (.iconst 0, 1) := by decide +kernel
theorem dX8_takeText_108 : decode cX8_takeText 108 = .ok (.putfield 158, 3) := by decide +kernel
theorem dX8_takeText_111 : decode cX8_takeText 111 = .ok (.aload_n 0, 1) := by decide +kernel
theorem dX8_takeText_112 : decode cX8_takeText 112 = .ok (.getfield 37, 3) := by decide +kernel
theorem dX8_takeText_115 : decode cX8_takeText 115 = .ok (.invokevirtual 274, 3) := by decide +kernel
theorem dX8_takeText_118 : decode cX8_takeText 118 = .ok (.aload_n 0, 1) := by decide +kernel
theorem dX8_takeText_119 : decode cX8_takeText 119 = .ok (.getfield 44, 3) := by decide +kernel
theorem dX8_takeText_122 : decode cX8_takeText 122 = .ok (.iconst 0, 1) := by decide +kernel
theorem dX8_takeText_123 : decode cX8_takeText 123 = .ok (.putfield 202, 3) := by decide +kernel
theorem dX8_takeText_126 : decode cX8_takeText 126 = .ok (.return_, 1) := by decide +kernel
theorem dX8_newPerson_0 : decode cX8_newPerson 0 = .ok (.iload_n 0, 1) := by decide +kernel
theorem dX8_newPerson_1 : decode cX8_newPerson 1 = .ok (.lookupswitch 49 #[(108, 38), (117, 27)], 27) := by decide +kernel
theorem dX8_newPerson_28 : decode cX8_newPerson 28 = .ok (.new 255, 3) := by decide +kernel
theorem dX8_newPerson_31 : decode cX8_newPerson 31 = .ok (.dup, 1) := by decide +kernel
theorem dX8_newPerson_32 : decode cX8_newPerson 32 = .ok (.iload_n 1, 1) := by decide +kernel
theorem dX8_newPerson_33 : decode cX8_newPerson 33 = .ok (.iload_n 2, 1) := by decide +kernel
theorem dX8_newPerson_34 : decode cX8_newPerson 34 = .ok (.iload_n 3, 1) := by decide +kernel
theorem dX8_newPerson_35 : decode cX8_newPerson 35 = .ok (.invokespecial 277, 3) := by decide +kernel
theorem dX8_newPerson_38 : decode cX8_newPerson 38 = .ok (.areturn, 1) := by decide +kernel
theorem dX8_newPerson_39 : decode cX8_newPerson 39 = .ok (.new 257, 3) := by decide +kernel
theorem dX8_newPerson_42 : decode cX8_newPerson 42 = .ok (.dup, 1) := by decide +kernel
theorem dX8_newPerson_43 : decode cX8_newPerson 43 = .ok (.iload_n 1, 1) := by decide +kernel
theorem dX8_newPerson_44 : decode cX8_newPerson 44 = .ok (.iload_n 2, 1) := by decide +kernel
theorem dX8_newPerson_45 : decode cX8_newPerson 45 = .ok (.iload_n 3, 1) := by decide +kernel
theorem dX8_newPerson_46 : decode cX8_newPerson 46 = .ok (.invokespecial 279, 3) := by decide +kernel
theorem dX8_newPerson_49 : decode cX8_newPerson 49 = .ok (.areturn, 1) := by decide +kernel
theorem dX8_newPerson_50 : decode cX8_newPerson 50 = .ok (.new 17, 3) := by decide +kernel
theorem dX8_newPerson_53 : decode cX8_newPerson 53 = .ok (.dup, 1) := by decide +kernel
theorem dX8_newPerson_54 : decode cX8_newPerson 54 = .ok (.iload_n 1, 1) := by decide +kernel
theorem dX8_newPerson_55 : decode cX8_newPerson 55 = .ok (.iload_n 2, 1) := by decide +kernel
theorem dX8_newPerson_56 : decode cX8_newPerson 56 = .ok (.iload_n 3, 1) := by decide +kernel
theorem dX8_newPerson_57 : decode cX8_newPerson 57 = .ok (.invokespecial 280, 3) := by decide +kernel
theorem dX8_newPerson_60 : decode cX8_newPerson 60 = .ok (.areturn, 1) := by decide +kernel
theorem dX8_allNameSomebody_0 : decode cX8_allNameSomebody 0 = .ok (.iconst 0, 1) := by decide +kernel
theorem dX8_allNameSomebody_1 : decode cX8_allNameSomebody 1 = .ok (.istore 4, 2) := by decide +kernel
theorem dX8_allNameSomebody_3 : decode cX8_allNameSomebody 3 = .ok (.iload 4, 2) := by decide +kernel
theorem dX8_allNameSomebody_5 : decode cX8_allNameSomebody 5 = .ok (.iload_n 3, 1) := by decide +kernel
theorem dX8_allNameSomebody_6 : decode cX8_allNameSomebody 6 = .ok (.if_icmp .ge 28, 3) := by decide +kernel
theorem dX8_allNameSomebody_9 : decode cX8_allNameSomebody 9 = .ok (.aload_n 0, 1) := by decide +kernel
theorem dX8_allNameSomebody_10 : decode cX8_allNameSomebody 10 = .ok (.aload_n 1, 1) := by decide +kernel
theorem dX8_allNameSomebody_11 : decode cX8_allNameSomebody 11 = .ok (.iload_n 2, 1) := by decide +kernel
theorem dX8_allNameSomebody_12 : decode cX8_allNameSomebody 12 = .ok (.iconst 2, 1) := by decide +kernel
theorem dX8_allNameSomebody_13 : decode cX8_allNameSomebody 13 = .ok (.iload 4, 2) := by decide +kernel
theorem dX8_allNameSomebody_15 : decode cX8_allNameSomebody 15 = .ok (.imul, 1) := by decide +kernel
theorem dX8_allNameSomebody_16 : decode cX8_allNameSomebody 16 = .ok (.iadd, 1) := by decide +kernel
theorem dX8_allNameSomebody_17 : decode cX8_allNameSomebody 17 = .ok (.invokevirtual 226, 3) := by decide +kernel
theorem dX8_allNameSomebody_20 : decode cX8_allNameSomebody 20 = .ok (.invokevirtual 87, 3) := by decide +kernel
theorem dX8_allNameSomebody_23 : decode cX8_allNameSomebody 23 = .ok (.ifnonnull 5, 3) := by decide +kernel
theorem dX8_allNameSomebody_26 : decode cX8_allNameSomebody 26 = .ok (.iconst 0, 1) := by decide +kernel
theorem dX8_allNameSomebody_27 : decode cX8_allNameSomebody 27 = .ok (.ireturn, 1) := by decide +kernel
theorem dX8_allNameSomebody_28 : decode cX8_allNameSomebody 28 = .ok (.iinc 4 1, 3) := by decide +kernel
theorem dX8_allNameSomebody_31 : decode cX8_allNameSomebody 31 = .ok (.goto (-28), 3) := by decide +kernel
theorem dX8_allNameSomebody_34 : decode cX8_allNameSomebody 34 = .ok (.iconst 1, 1) := by decide +kernel
theorem dX8_allNameSomebody_35 : decode cX8_allNameSomebody 35 = .ok (.ireturn, 1) := by decide +kernel
theorem dX8_callsTold_0 : decode cX8_callsTold 0 = .ok (.aload_n 0, 1) := by decide +kernel
theorem dX8_callsTold_1 : decode cX8_callsTold 1 = .ok (.invokevirtual 129, 3) := by decide +kernel
theorem dX8_callsTold_4 : decode cX8_callsTold 4 = .ok (.astore 5, 2) := by decide +kernel
theorem dX8_callsTold_6 : decode cX8_callsTold 6 = .ok (.iconst 0, 1) := by decide +kernel
theorem dX8_callsTold_7 : decode cX8_callsTold 7 = .ok (.istore 6, 2) := by decide +kernel
theorem dX8_callsTold_9 : decode cX8_callsTold 9 = .ok (.bipush (-9), 2) := by decide +kernel
theorem dX8_callsTold_11 : decode cX8_callsTold 11 = .ok (.istore 7, 2) := by decide +kernel
theorem dX8_callsTold_13 : decode cX8_callsTold 13 = .ok (.iconst 0, 1) := by decide +kernel
theorem dX8_callsTold_14 : decode cX8_callsTold 14 = .ok (.istore 8, 2) := by decide +kernel
theorem dX8_callsTold_16 : decode cX8_callsTold 16 = .ok (.iload 8, 2) := by decide +kernel
theorem dX8_callsTold_18 : decode cX8_callsTold 18 = .ok (.iload_n 3, 1) := by decide +kernel
theorem dX8_callsTold_19 : decode cX8_callsTold 19 = .ok (.if_icmp .ge 98, 3) := by decide +kernel
theorem dX8_callsTold_22 : decode cX8_callsTold 22 = .ok (.aload_n 1, 1) := by decide +kernel
theorem dX8_callsTold_23 : decode cX8_callsTold 23 = .ok (.iload_n 2, 1) := by decide +kernel
theorem dX8_callsTold_24 : decode cX8_callsTold 24 = .ok (.iconst 2, 1) := by decide +kernel
theorem dX8_callsTold_25 : decode cX8_callsTold 25 = .ok (.iload 8, 2) := by decide +kernel
theorem dX8_callsTold_27 : decode cX8_callsTold 27 = .ok (.imul, 1) := by decide +kernel
theorem dX8_callsTold_28 : decode cX8_callsTold 28 = .ok (.iadd, 1) := by decide +kernel
theorem dX8_callsTold_29 : decode cX8_callsTold 29 = .ok (.invokevirtual 226, 3) := by decide +kernel
theorem dX8_callsTold_32 : decode cX8_callsTold 32 = .ok (.istore 9, 2) := by decide +kernel
theorem dX8_callsTold_34 : decode cX8_callsTold 34 = .ok (.aload_n 1, 1) := by decide +kernel
theorem dX8_callsTold_35 : decode cX8_callsTold 35 = .ok (.iload_n 2, 1) := by decide +kernel
theorem dX8_callsTold_36 : decode cX8_callsTold 36 = .ok (.iconst 2, 1) := by decide +kernel
theorem dX8_callsTold_37 : decode cX8_callsTold 37 = .ok (.iload 8, 2) := by decide +kernel
theorem dX8_callsTold_39 : decode cX8_callsTold 39 = .ok (.imul, 1) := by decide +kernel
theorem dX8_callsTold_40 : decode cX8_callsTold 40 = .ok (.iadd, 1) := by decide +kernel
theorem dX8_callsTold_41 : decode cX8_callsTold 41 = .ok (.iconst 1, 1) := by decide +kernel
theorem dX8_callsTold_42 : decode cX8_callsTold 42 = .ok (.iadd, 1) := by decide +kernel
theorem dX8_callsTold_43 : decode cX8_callsTold 43 = .ok (.invokevirtual 226, 3) := by decide +kernel
theorem dX8_callsTold_46 : decode cX8_callsTold 46 = .ok (.istore 10, 2) := by decide +kernel
theorem dX8_callsTold_48 : decode cX8_callsTold 48 = .ok (.aload_n 0, 1) := by decide +kernel
theorem dX8_callsTold_49 : decode cX8_callsTold 49 = .ok (.iload 9, 2) := by decide +kernel
theorem dX8_callsTold_51 : decode cX8_callsTold 51 = .ok (.invokevirtual 87, 3) := by decide +kernel
theorem dX8_callsTold_54 : decode cX8_callsTold 54 = .ok (.ifnull 32, 3) := by decide +kernel
theorem dX8_callsTold_57 : decode cX8_callsTold 57 = .ok (.aload_n 0, 1) := by decide +kernel
theorem dX8_callsTold_58 : decode cX8_callsTold 58 = .ok (.getfield 109, 3) := by decide +kernel
theorem dX8_callsTold_61 : decode cX8_callsTold 61 = .ok (.iload 9, 2) := by decide +kernel
theorem dX8_callsTold_63 : decode cX8_callsTold 63 = .ok (.invokestatic 112, 3) := by decide +kernel
theorem dX8_callsTold_66 : decode cX8_callsTold 66 = .ok (.ifCond .eq 20, 3) := by decide +kernel
theorem dX8_callsTold_69 : decode cX8_callsTold 69 = .ok (.aload 5, 2) := by decide +kernel
theorem dX8_callsTold_71 : decode cX8_callsTold 71 = .ok (.iload 9, 2) := by decide +kernel
theorem dX8_callsTold_73 : decode cX8_callsTold 73 = .ok (.iaload, 1) := by decide +kernel
theorem dX8_callsTold_74 : decode cX8_callsTold 74 = .ok (.iload 10, 2) := by decide +kernel
theorem dX8_callsTold_76 : decode cX8_callsTold 76 = .ok (.if_icmp .lt 10, 3) := by decide +kernel
theorem dX8_callsTold_79 : decode cX8_callsTold 79 = .ok (.iload 10, 2) := by decide +kernel
theorem dX8_callsTold_81 : decode cX8_callsTold 81 = .ok (.iload 6, 2) := by decide +kernel
theorem dX8_callsTold_83 : decode cX8_callsTold 83 = .ok (.if_icmp .gt 20, 3) := by decide +kernel
theorem dX8_callsTold_86 : decode cX8_callsTold 86 = .ok (.iload 4, 2) := by decide +kernel
theorem dX8_callsTold_88 : decode cX8_callsTold 88 = .ok (.iconst 1, 1) := by decide +kernel
theorem dX8_callsTold_89 : decode cX8_callsTold 89 = .ok (.if_icmp .ne 8, 3) := by decide +kernel
theorem dX8_callsTold_92 : decode cX8_callsTold 92 = .ok (.iload 8, 2) := by decide +kernel
theorem dX8_callsTold_94 : decode cX8_callsTold 94 = .ok (.goto 8, 3) := by decide +kernel
theorem dX8_callsTold_97 : decode cX8_callsTold 97 = .ok (.bipush (-100), 2) := by decide +kernel
theorem dX8_callsTold_99 : decode cX8_callsTold 99 = .ok (.iload 8, 2) := by decide +kernel
theorem dX8_callsTold_101 : decode cX8_callsTold 101 = .ok (.isub, 1) := by decide +kernel
theorem dX8_callsTold_102 : decode cX8_callsTold 102 = .ok (.ireturn, 1) := by decide +kernel
theorem dX8_callsTold_103 : decode cX8_callsTold 103 = .ok (.iload 10, 2) := by decide +kernel
theorem dX8_callsTold_105 : decode cX8_callsTold 105 = .ok (.istore 6, 2) := by decide +kernel
theorem dX8_callsTold_107 : decode cX8_callsTold 107 = .ok (.iload 9, 2) := by decide +kernel
theorem dX8_callsTold_109 : decode cX8_callsTold 109 = .ok (.istore 7, 2) := by decide +kernel
theorem dX8_callsTold_111 : decode cX8_callsTold 111 = .ok (.iinc 8 1, 3) := by decide +kernel
theorem dX8_callsTold_114 : decode cX8_callsTold 114 = .ok (.goto (-98), 3) := by decide +kernel
theorem dX8_callsTold_117 : decode cX8_callsTold 117 = .ok (.iload 4, 2) := by decide +kernel
theorem dX8_callsTold_119 : decode cX8_callsTold 119 = .ok (.tableswitch 34 0 2 #[25, 28, 31], 25) := by decide +kernel
theorem dX8_callsTold_144 : decode cX8_callsTold 144 = .ok (.iload 6, 2) := by decide +kernel
theorem dX8_callsTold_146 : decode cX8_callsTold 146 = .ok (.ireturn, 1) := by decide +kernel
theorem dX8_callsTold_147 : decode cX8_callsTold 147 = .ok (.bipush (-9), 2) := by decide +kernel
theorem dX8_callsTold_149 : decode cX8_callsTold 149 = .ok (.ireturn, 1) := by decide +kernel
theorem dX8_callsTold_150 : decode cX8_callsTold 150 = .ok (.iload 7, 2) := by decide +kernel
theorem dX8_callsTold_152 : decode cX8_callsTold 152 = .ok (.ireturn, 1) := by decide +kernel
theorem dX8_callsTold_153 : decode cX8_callsTold 153 = .ok (.aload_n 0, 1) := by decide +kernel
theorem dX8_callsTold_154 : decode cX8_callsTold 154 = .ok (.aload 5, 2) := by decide +kernel
theorem dX8_callsTold_156 : decode cX8_callsTold 156 = .ok (.iload 6, 2) := by decide +kernel
theorem dX8_callsTold_158 : decode cX8_callsTold 158 = .ok (.iload 7, 2) := by decide +kernel
theorem dX8_callsTold_160 : decode cX8_callsTold 160 = .ok (.invokevirtual 281, 3) := by decide +kernel
theorem dX8_callsTold_163 : decode cX8_callsTold 163 = .ok (.ireturn, 1) := by decide +kernel
theorem dX8_howManyGoOn_0 : decode cX8_howManyGoOn 0 = .ok (.iconst 0, 1) := by decide +kernel
theorem dX8_howManyGoOn_1 : decode cX8_howManyGoOn 1 = .ok (.istore 4, 2) := by decide +kernel
theorem dX8_howManyGoOn_3 : decode cX8_howManyGoOn 3 = .ok (.iconst 0, 1) := by decide +kernel
theorem dX8_howManyGoOn_4 : decode cX8_howManyGoOn 4 = .ok (.istore 5, 2) := by decide +kernel
theorem dX8_howManyGoOn_6 : decode cX8_howManyGoOn 6 = .ok (.iload 5, 2) := by decide +kernel
theorem dX8_howManyGoOn_8 : decode cX8_howManyGoOn 8 = .ok (.aload_n 0, 1) := by decide +kernel
theorem dX8_howManyGoOn_9 : decode cX8_howManyGoOn 9 = .ok (.getfield 84, 3) := by decide +kernel
theorem dX8_howManyGoOn_12 : decode cX8_howManyGoOn 12 = .ok (.if_icmp .ge 45, 3) := by decide +kernel
theorem dX8_howManyGoOn_15 : decode cX8_howManyGoOn 15 = .ok (.iload 4, 2) := by decide +kernel
theorem dX8_howManyGoOn_17 : decode cX8_howManyGoOn 17 = .ok (.aload_n 0, 1) := by decide +kernel
theorem dX8_howManyGoOn_18 : decode cX8_howManyGoOn 18 = .ok (.getfield 109, 3) := by decide +kernel
theorem dX8_howManyGoOn_21 : decode cX8_howManyGoOn 21 = .ok (.iload 5, 2) := by decide +kernel
theorem dX8_howManyGoOn_23 : decode cX8_howManyGoOn 23 = .ok (.invokestatic 112, 3) := by decide +kernel
theorem dX8_howManyGoOn_26 : decode cX8_howManyGoOn 26 = .ok (.ifCond .eq 21, 3) := by decide +kernel
theorem dX8_howManyGoOn_29 : decode cX8_howManyGoOn 29 = .ok (.iload 5, 2) := by decide +kernel
theorem dX8_howManyGoOn_31 : decode cX8_howManyGoOn 31 = .ok (.iload_n 3, 1) := by decide +kernel
theorem dX8_howManyGoOn_32 : decode cX8_howManyGoOn 32 = .ok (.if_icmp .eq 15, 3) := by decide +kernel
theorem dX8_howManyGoOn_35 : decode cX8_howManyGoOn 35 = .ok (.aload_n 1, 1) := by decide +kernel
theorem dX8_howManyGoOn_36 : decode cX8_howManyGoOn 36 = .ok (.iload 5, 2) := by decide +kernel
theorem dX8_howManyGoOn_38 : decode cX8_howManyGoOn 38 = .ok (.iaload, 1) := by decide +kernel
theorem dX8_howManyGoOn_39 : decode cX8_howManyGoOn 39 = .ok (.iload_n 2, 1) := by decide +kernel
theorem dX8_howManyGoOn_40 : decode cX8_howManyGoOn 40 = .ok (.if_icmp .le 7, 3) := by decide +kernel
theorem dX8_howManyGoOn_43 : decode cX8_howManyGoOn 43 = .ok (.iconst 1, 1) := by decide +kernel
theorem dX8_howManyGoOn_44 : decode cX8_howManyGoOn 44 = .ok (.goto 4, 3) := by decide +kernel
theorem dX8_howManyGoOn_47 : decode cX8_howManyGoOn 47 = .ok (.iconst 0, 1) := by decide +kernel
theorem dX8_howManyGoOn_48 : decode cX8_howManyGoOn 48 = .ok (.iadd, 1) := by decide +kernel
theorem dX8_howManyGoOn_49 : decode cX8_howManyGoOn 49 = .ok (.istore 4, 2) := by decide +kernel
theorem dX8_howManyGoOn_51 : decode cX8_howManyGoOn 51 = .ok (.iinc 5 1, 3) := by decide +kernel
theorem dX8_howManyGoOn_54 : decode cX8_howManyGoOn 54 = .ok (.goto (-48), 3) := by decide +kernel
theorem dX8_howManyGoOn_57 : decode cX8_howManyGoOn 57 = .ok (.iload 4, 2) := by decide +kernel
theorem dX8_howManyGoOn_59 : decode cX8_howManyGoOn 59 = .ok (.ireturn, 1) := by decide +kernel
theorem dX8_lossOfOrder_0 : decode cX8_lossOfOrder 0 = .ok (.aload_n 0, 1) := by decide +kernel
theorem dX8_lossOfOrder_1 : decode cX8_lossOfOrder 1 = .ok (.getfield 30, 3) := by decide +kernel
theorem dX8_lossOfOrder_4 : decode cX8_lossOfOrder 4 = .ok (.aload_n 0, 1) := by decide +kernel
theorem dX8_lossOfOrder_5 : decode cX8_lossOfOrder 5 = .ok (.invokevirtual 129, 3) := by decide +kernel
theorem dX8_lossOfOrder_8 : decode cX8_lossOfOrder 8 = .ok (.aload_n 0, 1) := by decide +kernel
theorem dX8_lossOfOrder_9 : decode cX8_lossOfOrder 9 = .ok (.getfield 109, 3) := by decide +kernel
theorem dX8_lossOfOrder_12 : decode cX8_lossOfOrder 12 = .ok (.invokevirtual 174, 3) := by decide +kernel
theorem dX8_lossOfOrder_15 : decode cX8_lossOfOrder 15 = .ok (.istore_n 1, 1) := by decide +kernel
theorem dX8_lossOfOrder_16 : decode cX8_lossOfOrder 16 = .ok (.iconst 0, 1) := by decide +kernel
theorem dX8_lossOfOrder_17 : decode cX8_lossOfOrder 17 = .ok (.istore_n 2, 1) := by decide +kernel
theorem dX8_lossOfOrder_18 : decode cX8_lossOfOrder 18 = .ok (.iconst 0, 1) := by decide +kernel
theorem dX8_lossOfOrder_19 : decode cX8_lossOfOrder 19 = .ok (.istore_n 3, 1) := by decide +kernel
theorem dX8_lossOfOrder_20 : decode cX8_lossOfOrder 20 = .ok (.iload_n 3, 1) := by decide +kernel
theorem dX8_lossOfOrder_21 : decode cX8_lossOfOrder 21 = .ok (.iload_n 1, 1) := by decide +kernel
theorem dX8_lossOfOrder_22 : decode cX8_lossOfOrder 22 = .ok (.if_icmp .ge 27, 3) := by decide +kernel
theorem dX8_lossOfOrder_25 : decode cX8_lossOfOrder 25 = .ok (.iload_n 2, 1) := by decide +kernel
theorem dX8_lossOfOrder_26 : decode cX8_lossOfOrder 26 = .ok (.iload_n 3, 1) := by decide +kernel
theorem dX8_lossOfOrder_27 : decode cX8_lossOfOrder 27 = .ok (.aload_n 0, 1) := by decide +kernel
theorem dX8_lossOfOrder_28 : decode cX8_lossOfOrder 28 = .ok (.aload_n 0, 1) := by decide +kernel
theorem dX8_lossOfOrder_29 : decode cX8_lossOfOrder 29 = .ok (.getfield 30, 3) := by decide +kernel
theorem dX8_lossOfOrder_32 : decode cX8_lossOfOrder 32 = .ok (.getfield 177, 3) := by decide +kernel
theorem dX8_lossOfOrder_35 : decode cX8_lossOfOrder 35 = .ok (.iload_n 3, 1) := by decide +kernel
theorem dX8_lossOfOrder_36 : decode cX8_lossOfOrder 36 = .ok (.iaload, 1) := by decide +kernel
theorem dX8_lossOfOrder_37 : decode cX8_lossOfOrder 37 = .ok (.invokevirtual 285, 3) := by decide +kernel
theorem dX8_lossOfOrder_40 : decode cX8_lossOfOrder 40 = .ok (.imul, 1) := by decide +kernel
theorem dX8_lossOfOrder_41 : decode cX8_lossOfOrder 41 = .ok (.iadd, 1) := by decide +kernel
theorem dX8_lossOfOrder_42 : decode cX8_lossOfOrder 42 = .ok (.istore_n 2, 1) := by decide +kernel
theorem dX8_lossOfOrder_43 : decode cX8_lossOfOrder 43 = .ok (.iinc 3 1, 3) := by decide +kernel
theorem dX8_lossOfOrder_46 : decode cX8_lossOfOrder 46 = .ok (.goto (-26), 3) := by decide +kernel
theorem dX8_lossOfOrder_49 : decode cX8_lossOfOrder 49 = .ok (.iload_n 2, 1) := by decide +kernel
theorem dX8_lossOfOrder_50 : decode cX8_lossOfOrder 50 = .ok (.ireturn, 1) := by decide +kernel
theorem dX8_leastLoss_0 : decode cX8_leastLoss 0 = .ok (.iconst 0, 1) := by decide +kernel
theorem dX8_leastLoss_1 : decode cX8_leastLoss 1 = .ok (.istore_n 1, 1) := by decide +kernel
theorem dX8_leastLoss_2 : decode cX8_leastLoss 2 = .ok (.iconst 0, 1) := by decide +kernel
theorem dX8_leastLoss_3 : decode cX8_leastLoss 3 = .ok (.istore_n 2, 1) := by decide +kernel
theorem dX8_leastLoss_4 : decode cX8_leastLoss 4 = .ok (.iload_n 2, 1) := by decide +kernel
theorem dX8_leastLoss_5 : decode cX8_leastLoss 5 = .ok (.aload_n 0, 1) := by decide +kernel
theorem dX8_leastLoss_6 : decode cX8_leastLoss 6 = .ok (.getfield 84, 3) := by decide +kernel
theorem dX8_leastLoss_9 : decode cX8_leastLoss 9 = .ok (.if_icmp .ge 76, 3) := by decide +kernel
theorem dX8_leastLoss_12 : decode cX8_leastLoss 12 = .ok (.iconst 0, 1) := by decide +kernel
theorem dX8_leastLoss_13 : decode cX8_leastLoss 13 = .ok (.istore_n 3, 1) := by decide +kernel
theorem dX8_leastLoss_14 : decode cX8_leastLoss 14 = .ok (.iload_n 3, 1) := by decide +kernel
theorem dX8_leastLoss_15 : decode cX8_leastLoss 15 = .ok (.iload_n 2, 1) := by decide +kernel
theorem dX8_leastLoss_16 : decode cX8_leastLoss 16 = .ok (.if_icmp .ge 63, 3) := by decide +kernel
theorem dX8_leastLoss_19 : decode cX8_leastLoss 19 = .ok (.aload_n 0, 1) := by decide +kernel
theorem dX8_leastLoss_20 : decode cX8_leastLoss 20 = .ok (.getfield 109, 3) := by decide +kernel
theorem dX8_leastLoss_23 : decode cX8_leastLoss 23 = .ok (.iload_n 2, 1) := by decide +kernel
theorem dX8_leastLoss_24 : decode cX8_leastLoss 24 = .ok (.invokestatic 112, 3) := by decide +kernel
theorem dX8_leastLoss_27 : decode cX8_leastLoss 27 = .ok (.ifCond .eq 18, 3) := by decide +kernel
theorem dX8_leastLoss_30 : decode cX8_leastLoss 30 = .ok (.aload_n 0, 1) := by decide +kernel
theorem dX8_leastLoss_31 : decode cX8_leastLoss 31 = .ok (.getfield 109, 3) := by decide +kernel
theorem dX8_leastLoss_34 : decode cX8_leastLoss 34 = .ok (.iload_n 3, 1) := by decide +kernel
theorem dX8_leastLoss_35 : decode cX8_leastLoss 35 = .ok (.invokestatic 112, 3) := by decide +kernel
theorem dX8_leastLoss_38 : decode cX8_leastLoss 38 = .ok (.ifCond .eq 7, 3) := by decide +kernel
theorem dX8_leastLoss_41 : decode cX8_leastLoss 41 = .ok (.iconst 1, 1) := by decide +kernel
theorem dX8_leastLoss_42 : decode cX8_leastLoss 42 = .ok (.goto 4, 3) := by decide +kernel
theorem dX8_leastLoss_45 : decode cX8_leastLoss 45 = .ok (.iconst 0, 1) := by decide +kernel
theorem dX8_leastLoss_46 : decode cX8_leastLoss 46 = .ok (.istore 4, 2) := by decide +kernel
theorem dX8_leastLoss_48 : decode cX8_leastLoss 48 = .ok (.iload_n 1, 1) := by decide +kernel
theorem dX8_leastLoss_49 : decode cX8_leastLoss 49 = .ok (.iload 4, 2) := by decide +kernel
theorem dX8_leastLoss_51 : decode cX8_leastLoss 51 = .ok (.ifCond .eq 19, 3) := by decide +kernel
theorem dX8_leastLoss_54 : decode cX8_leastLoss 54 = .ok (.aload_n 0, 1) := by decide +kernel
theorem dX8_leastLoss_55 : decode cX8_leastLoss 55 = .ok (.iload_n 2, 1) := by decide +kernel
theorem dX8_leastLoss_56 : decode cX8_leastLoss 56 = .ok (.invokevirtual 285, 3) := by decide +kernel
theorem dX8_leastLoss_59 : decode cX8_leastLoss 59 = .ok (.aload_n 0, 1) := by decide +kernel
theorem dX8_leastLoss_60 : decode cX8_leastLoss 60 = .ok (.iload_n 3, 1) := by decide +kernel
theorem dX8_leastLoss_61 : decode cX8_leastLoss 61 = .ok (.invokevirtual 285, 3) := by decide +kernel
theorem dX8_leastLoss_64 : decode cX8_leastLoss 64 = .ok (.invokestatic 259, 3) := by decide +kernel
theorem dX8_leastLoss_67 : decode cX8_leastLoss 67 = .ok (.goto 4, 3) := by decide +kernel
theorem dX8_leastLoss_70 : decode cX8_leastLoss 70 = .ok (.iconst 0, 1) := by decide +kernel
theorem dX8_leastLoss_71 : decode cX8_leastLoss 71 = .ok (.iadd, 1) := by decide +kernel
theorem dX8_leastLoss_72 : decode cX8_leastLoss 72 = .ok (.istore_n 1, 1) := by decide +kernel
theorem dX8_leastLoss_73 : decode cX8_leastLoss 73 = .ok (.iinc 3 1, 3) := by decide +kernel
theorem dX8_leastLoss_76 : decode cX8_leastLoss 76 = .ok (.goto (-62), 3) := by decide +kernel
theorem dX8_leastLoss_79 : decode cX8_leastLoss 79 = .ok (.iinc 2 1, 3) := by decide +kernel
theorem dX8_leastLoss_82 : decode cX8_leastLoss 82 = .ok (.goto (-78), 3) := by decide +kernel
theorem dX8_leastLoss_85 : decode cX8_leastLoss 85 = .ok (.iload_n 1, 1) := by decide +kernel
theorem dX8_leastLoss_86 : decode cX8_leastLoss 86 = .ok (.ireturn, 1) := by decide +kernel
