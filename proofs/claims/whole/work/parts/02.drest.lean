theorem dX0_init_0 : decode cX0_init 0 = .ok (.aload_n 0, 1) := by decide +kernel
theorem dX0_init_1 : decode cX0_init 1 = .ok (.invokespecial 3, 3) := by decide +kernel
theorem dX0_init_4 : decode cX0_init 4 = .ok (.aload_n 0, 1) := by decide +kernel
theorem dX0_init_5 : decode cX0_init 5 = .ok (.bipush 56, 2) := by decide +kernel
theorem dX0_init_7 : decode cX0_init 7 = .ok (.newarray .int, 2) := by decide +kernel
theorem dX0_init_9 : decode cX0_init 9 = .ok (.putfield 9, 3) := by decide +kernel
theorem dX0_init_12 : decode cX0_init 12 = .ok (.aload_n 0, 1) := by decide +kernel
theorem dX0_init_13 : decode cX0_init 13 = .ok (.bipush 8, 2) := by decide +kernel
theorem dX0_init_15 : decode cX0_init 15 = .ok (.newarray .int, 2) := by decide +kernel
theorem dX0_init_17 : decode cX0_init 17 = .ok (.putfield 15, 3) := by decide +kernel
theorem dX0_init_20 : decode cX0_init 20 = .ok (.aload_n 0, 1) := by decide +kernel
theorem dX0_init_21 : decode cX0_init 21 = .ok (.bipush 8, 2) := by decide +kernel
theorem dX0_init_23 : decode cX0_init 23 = .ok (.newarray .int, 2) := by decide +kernel
theorem dX0_init_25 : decode cX0_init 25 = .ok (.putfield 18, 3) := by decide +kernel
theorem dX0_init_28 : decode cX0_init 28 = .ok (.aload_n 0, 1) := by decide +kernel
theorem dX0_init_29 : decode cX0_init 29 = .ok (.bipush 6, 2) := by decide +kernel
theorem dX0_init_31 : decode cX0_init 31 = .ok (.newarray .int, 2) := by decide +kernel
theorem dX0_init_33 : decode cX0_init 33 = .ok (.putfield 23, 3) := by decide +kernel
theorem dX0_init_36 : decode cX0_init 36 = .ok (.return_, 1) := by decide +kernel
theorem dX0_reckonPoints_0 : decode cX0_reckonPoints 0 = .ok (.aload_n 0, 1) := by decide +kernel
theorem dX0_reckonPoints_1 : decode cX0_reckonPoints 1 = .ok (.iload 4, 2) := by decide +kernel
theorem dX0_reckonPoints_3 : decode cX0_reckonPoints 3 = .ok (.iconst 0, 1) := by decide +kernel
theorem dX0_reckonPoints_4 : decode cX0_reckonPoints 4 = .ok (.bipush 8, 2) := by decide +kernel
theorem dX0_reckonPoints_6 : decode cX0_reckonPoints 6 = .ok (.aload_n 2, 1) := by decide +kernel
theorem dX0_reckonPoints_7 : decode cX0_reckonPoints 7 = .ok (.arraylength, 1) := by decide +kernel
theorem dX0_reckonPoints_8 : decode cX0_reckonPoints 8 = .ok (.aload_n 3, 1) := by decide +kernel
theorem dX0_reckonPoints_9 : decode cX0_reckonPoints 9 = .ok (.arraylength, 1) := by decide +kernel
theorem dX0_reckonPoints_10 : decode cX0_reckonPoints 10 = .ok (.invokestatic 26, 3) := by decide +kernel
theorem dX0_reckonPoints_13 : decode cX0_reckonPoints 13 = .ok (.invokestatic 26, 3) := by decide +kernel
theorem dX0_reckonPoints_16 : decode cX0_reckonPoints 16 = .ok (.invokestatic 32, 3) := by decide +kernel
theorem dX0_reckonPoints_19 : decode cX0_reckonPoints 19 = .ok (.putfield 36, 3) := by decide +kernel
theorem dX0_reckonPoints_22 : decode cX0_reckonPoints 22 = .ok (.iconst 0, 1) := by decide +kernel
theorem dX0_reckonPoints_23 : decode cX0_reckonPoints 23 = .ok (.istore 5, 2) := by decide +kernel
theorem dX0_reckonPoints_25 : decode cX0_reckonPoints 25 = .ok (.iload 5, 2) := by decide +kernel
theorem dX0_reckonPoints_27 : decode cX0_reckonPoints 27 = .ok (.aload_n 0, 1) := by decide +kernel
theorem dX0_reckonPoints_28 : decode cX0_reckonPoints 28 = .ok (.getfield 36, 3) := by decide +kernel
theorem dX0_reckonPoints_31 : decode cX0_reckonPoints 31 = .ok (.if_icmp .ge 68, 3) := by decide +kernel
theorem dX0_reckonPoints_34 : decode cX0_reckonPoints 34 = .ok (.aload_n 0, 1) := by decide +kernel
theorem dX0_reckonPoints_35 : decode cX0_reckonPoints 35 = .ok (.getfield 15, 3) := by decide +kernel
theorem dX0_reckonPoints_38 : decode cX0_reckonPoints 38 = .ok (.iload 5, 2) := by decide +kernel
theorem dX0_reckonPoints_40 : decode cX0_reckonPoints 40 = .ok (.iconst 0, 1) := by decide +kernel
theorem dX0_reckonPoints_41 : decode cX0_reckonPoints 41 = .ok (.iastore, 1) := by decide +kernel
theorem dX0_reckonPoints_42 : decode cX0_reckonPoints 42 = .ok (.aload_n 0, 1) := by decide +kernel
theorem dX0_reckonPoints_43 : decode cX0_reckonPoints 43 = .ok (.getfield 23, 3) := by decide +kernel
theorem dX0_reckonPoints_46 : decode cX0_reckonPoints 46 = .ok (.iconst 0, 1) := by decide +kernel
theorem dX0_reckonPoints_47 : decode cX0_reckonPoints 47 = .ok (.aload_n 3, 1) := by decide +kernel
theorem dX0_reckonPoints_48 : decode cX0_reckonPoints 48 = .ok (.iload 5, 2) := by decide +kernel
theorem dX0_reckonPoints_50 : decode cX0_reckonPoints 50 = .ok (.iaload, 1) := by decide +kernel
theorem dX0_reckonPoints_51 : decode cX0_reckonPoints 51 = .ok (.iconst 0, 1) := by decide +kernel
theorem dX0_reckonPoints_52 : decode cX0_reckonPoints 52 = .ok (.invokestatic 40, 3) := by decide +kernel
theorem dX0_reckonPoints_55 : decode cX0_reckonPoints 55 = .ok (.aload_n 0, 1) := by decide +kernel
theorem dX0_reckonPoints_56 : decode cX0_reckonPoints 56 = .ok (.getfield 23, 3) := by decide +kernel
theorem dX0_reckonPoints_59 : decode cX0_reckonPoints 59 = .ok (.aload_n 2, 1) := by decide +kernel
theorem dX0_reckonPoints_60 : decode cX0_reckonPoints 60 = .ok (.iload 5, 2) := by decide +kernel
theorem dX0_reckonPoints_62 : decode cX0_reckonPoints 62 = .ok (.iaload, 1) := by decide +kernel
theorem dX0_reckonPoints_63 : decode cX0_reckonPoints 63 = .ok (.iload 5, 2) := by decide +kernel
theorem dX0_reckonPoints_65 : decode cX0_reckonPoints 65 = .ok (.iconst 0, 1) := by decide +kernel
theorem dX0_reckonPoints_66 : decode cX0_reckonPoints 66 = .ok (.invokestatic 44, 3) := by decide +kernel
theorem dX0_reckonPoints_69 : decode cX0_reckonPoints 69 = .ok (.aload_n 0, 1) := by decide +kernel
theorem dX0_reckonPoints_70 : decode cX0_reckonPoints 70 = .ok (.getfield 18, 3) := by decide +kernel
theorem dX0_reckonPoints_73 : decode cX0_reckonPoints 73 = .ok (.iload 5, 2) := by decide +kernel
theorem dX0_reckonPoints_75 : decode cX0_reckonPoints 75 = .ok (.aload_n 1, 1) := by decide +kernel
theorem dX0_reckonPoints_76 : decode cX0_reckonPoints 76 = .ok (.ifnonnull 7, 3) := by decide +kernel
theorem dX0_reckonPoints_79 : decode cX0_reckonPoints 79 = .ok (.iconst 0, 1) := by decide +kernel
theorem dX0_reckonPoints_80 : decode cX0_reckonPoints 80 = .ok (.goto 12, 3) := by decide +kernel
theorem dX0_reckonPoints_83 : decode cX0_reckonPoints 83 = .ok (.aload_n 1, 1) := by decide +kernel
theorem dX0_reckonPoints_84 : decode cX0_reckonPoints 84 = .ok (.iconst 1, 1) := by decide +kernel
theorem dX0_reckonPoints_85 : decode cX0_reckonPoints 85 = .ok (.aload_n 0, 1) := by decide +kernel
theorem dX0_reckonPoints_86 : decode cX0_reckonPoints 86 = .ok (.getfield 23, 3) := by decide +kernel
theorem dX0_reckonPoints_89 : decode cX0_reckonPoints 89 = .ok (.invokevirtual 47, 3) := by decide +kernel
theorem dX0_reckonPoints_92 : decode cX0_reckonPoints 92 = .ok (.iastore, 1) := by decide +kernel
theorem dX0_reckonPoints_93 : decode cX0_reckonPoints 93 = .ok (.iinc 5 1, 3) := by decide +kernel
theorem dX0_reckonPoints_96 : decode cX0_reckonPoints 96 = .ok (.goto (-71), 3) := by decide +kernel
theorem dX0_reckonPoints_99 : decode cX0_reckonPoints 99 = .ok (.return_, 1) := by decide +kernel
theorem dX0_reckonPerson_0 : decode cX0_reckonPerson 0 = .ok (.aload_n 1, 1) := by decide +kernel
theorem dX0_reckonPerson_1 : decode cX0_reckonPerson 1 = .ok (.ifnull 17, 3) := by decide +kernel
theorem dX0_reckonPerson_4 : decode cX0_reckonPerson 4 = .ok (.aload_n 3, 1) := by decide +kernel
theorem dX0_reckonPerson_5 : decode cX0_reckonPerson 5 = .ok (.ifnull 13, 3) := by decide +kernel
theorem dX0_reckonPerson_8 : decode cX0_reckonPerson 8 = .ok (.iload_n 2, 1) := by decide +kernel
theorem dX0_reckonPerson_9 : decode cX0_reckonPerson 9 = .ok (.ifCond .lt 9, 3) := by decide +kernel
theorem dX0_reckonPerson_12 : decode cX0_reckonPerson 12 = .ok (.iload_n 2, 1) := by decide +kernel
theorem dX0_reckonPerson_13 : decode cX0_reckonPerson 13 = .ok (.bipush 7, 2) := by decide +kernel
theorem dX0_reckonPerson_15 : decode cX0_reckonPerson 15 = .ok (.if_icmp .lt 4, 3) := by decide +kernel
theorem dX0_reckonPerson_18 : decode cX0_reckonPerson 18 = .ok (.return_, 1) := by decide +kernel
theorem dX0_reckonPerson_19 : decode cX0_reckonPerson 19 = .ok (.iconst 0, 1) := by decide +kernel
theorem dX0_reckonPerson_20 : decode cX0_reckonPerson 20 = .ok (.istore 6, 2) := by decide +kernel
theorem dX0_reckonPerson_22 : decode cX0_reckonPerson 22 = .ok (.iload 6, 2) := by decide +kernel
theorem dX0_reckonPerson_24 : decode cX0_reckonPerson 24 = .ok (.aload_n 0, 1) := by decide +kernel
theorem dX0_reckonPerson_25 : decode cX0_reckonPerson 25 = .ok (.getfield 36, 3) := by decide +kernel
theorem dX0_reckonPerson_28 : decode cX0_reckonPerson 28 = .ok (.if_icmp .ge 120, 3) := by decide +kernel
theorem dX0_reckonPerson_31 : decode cX0_reckonPerson 31 = .ok (.iload 6, 2) := by decide +kernel
theorem dX0_reckonPerson_33 : decode cX0_reckonPerson 33 = .ok (.aload 4, 2) := by decide +kernel
theorem dX0_reckonPerson_35 : decode cX0_reckonPerson 35 = .ok (.arraylength, 1) := by decide +kernel
theorem dX0_reckonPerson_36 : decode cX0_reckonPerson 36 = .ok (.if_icmp .ge 112, 3) := by decide +kernel
theorem dX0_reckonPerson_39 : decode cX0_reckonPerson 39 = .ok (.iload 6, 2) := by decide +kernel
theorem dX0_reckonPerson_41 : decode cX0_reckonPerson 41 = .ok (.aload 5, 2) := by decide +kernel
theorem dX0_reckonPerson_43 : decode cX0_reckonPerson 43 = .ok (.arraylength, 1) := by decide +kernel
theorem dX0_reckonPerson_44 : decode cX0_reckonPerson 44 = .ok (.if_icmp .ge 104, 3) := by decide +kernel
theorem dX0_reckonPerson_47 : decode cX0_reckonPerson 47 = .ok (.aload_n 3, 1) := by decide +kernel
theorem dX0_reckonPerson_48 : decode cX0_reckonPerson 48 = .ok (.aload 4, 2) := by decide +kernel
theorem dX0_reckonPerson_50 : decode cX0_reckonPerson 50 = .ok (.iload 6, 2) := by decide +kernel
theorem dX0_reckonPerson_52 : decode cX0_reckonPerson 52 = .ok (.iaload, 1) := by decide +kernel
theorem dX0_reckonPerson_53 : decode cX0_reckonPerson 53 = .ok (.iload 6, 2) := by decide +kernel
theorem dX0_reckonPerson_55 : decode cX0_reckonPerson 55 = .ok (.invokevirtual 51, 3) := by decide +kernel
theorem dX0_reckonPerson_58 : decode cX0_reckonPerson 58 = .ok (.istore 7, 2) := by decide +kernel
theorem dX0_reckonPerson_60 : decode cX0_reckonPerson 60 = .ok (.iload 7, 2) := by decide +kernel
theorem dX0_reckonPerson_62 : decode cX0_reckonPerson 62 = .ok (.aload 5, 2) := by decide +kernel
theorem dX0_reckonPerson_64 : decode cX0_reckonPerson 64 = .ok (.iload 6, 2) := by decide +kernel
theorem dX0_reckonPerson_66 : decode cX0_reckonPerson 66 = .ok (.iaload, 1) := by decide +kernel
theorem dX0_reckonPerson_67 : decode cX0_reckonPerson 67 = .ok (.if_icmp .lt 16, 3) := by decide +kernel
theorem dX0_reckonPerson_70 : decode cX0_reckonPerson 70 = .ok (.aload_n 0, 1) := by decide +kernel
theorem dX0_reckonPerson_71 : decode cX0_reckonPerson 71 = .ok (.getfield 15, 3) := by decide +kernel
theorem dX0_reckonPerson_74 : decode cX0_reckonPerson 74 = .ok (.iload 6, 2) := by decide +kernel
theorem dX0_reckonPerson_76 : decode cX0_reckonPerson 76 = .ok (.dup2, 1) := by decide +kernel
theorem dX0_reckonPerson_77 : decode cX0_reckonPerson 77 = .ok (.iaload, 1) := by decide +kernel
theorem dX0_reckonPerson_78 : decode cX0_reckonPerson 78 = .ok (.iconst 1, 1) := by decide +kernel
theorem dX0_reckonPerson_79 : decode cX0_reckonPerson 79 = .ok (.iload_n 2, 1) := by decide +kernel
theorem dX0_reckonPerson_80 : decode cX0_reckonPerson 80 = .ok (.ishl, 1) := by decide +kernel
theorem dX0_reckonPerson_81 : decode cX0_reckonPerson 81 = .ok (.ior, 1) := by decide +kernel
theorem dX0_reckonPerson_82 : decode cX0_reckonPerson 82 = .ok (.iastore, 1) := by decide +kernel
theorem dX0_reckonPerson_83 : decode cX0_reckonPerson 83 = .ok (.aload_n 0, 1) := by decide +kernel
theorem dX0_reckonPerson_84 : decode cX0_reckonPerson 84 = .ok (.getfield 23, 3) := by decide +kernel
theorem dX0_reckonPerson_87 : decode cX0_reckonPerson 87 = .ok (.iload 7, 2) := by decide +kernel
theorem dX0_reckonPerson_89 : decode cX0_reckonPerson 89 = .ok (.aload 5, 2) := by decide +kernel
theorem dX0_reckonPerson_91 : decode cX0_reckonPerson 91 = .ok (.iload 6, 2) := by decide +kernel
theorem dX0_reckonPerson_93 : decode cX0_reckonPerson 93 = .ok (.iaload, 1) := by decide +kernel
theorem dX0_reckonPerson_94 : decode cX0_reckonPerson 94 = .ok (.aload_n 3, 1) := by decide +kernel
theorem dX0_reckonPerson_95 : decode cX0_reckonPerson 95 = .ok (.aload 4, 2) := by decide +kernel
theorem dX0_reckonPerson_97 : decode cX0_reckonPerson 97 = .ok (.iload 6, 2) := by decide +kernel
theorem dX0_reckonPerson_99 : decode cX0_reckonPerson 99 = .ok (.iaload, 1) := by decide +kernel
theorem dX0_reckonPerson_100 : decode cX0_reckonPerson 100 = .ok (.invokevirtual 56, 3) := by decide +kernel
theorem dX0_reckonPerson_103 : decode cX0_reckonPerson 103 = .ok (.invokestatic 40, 3) := by decide +kernel
theorem dX0_reckonPerson_106 : decode cX0_reckonPerson 106 = .ok (.aload_n 0, 1) := by decide +kernel
theorem dX0_reckonPerson_107 : decode cX0_reckonPerson 107 = .ok (.getfield 23, 3) := by decide +kernel
theorem dX0_reckonPerson_110 : decode cX0_reckonPerson 110 = .ok (.aload 4, 2) := by decide +kernel
theorem dX0_reckonPerson_112 : decode cX0_reckonPerson 112 = .ok (.iload 6, 2) := by decide +kernel
theorem dX0_reckonPerson_114 : decode cX0_reckonPerson 114 = .ok (.iaload, 1) := by decide +kernel
theorem dX0_reckonPerson_115 : decode cX0_reckonPerson 115 = .ok (.iload 6, 2) := by decide +kernel
theorem dX0_reckonPerson_117 : decode cX0_reckonPerson 117 = .ok (.iload_n 2, 1) := by decide +kernel
theorem dX0_reckonPerson_118 : decode cX0_reckonPerson 118 = .ok (.invokestatic 44, 3) := by decide +kernel
theorem dX0_reckonPerson_121 : decode cX0_reckonPerson 121 = .ok (.aload_n 0, 1) := by decide +kernel
theorem dX0_reckonPerson_122 : decode cX0_reckonPerson 122 = .ok (.getfield 9, 3) := by decide +kernel
theorem dX0_reckonPerson_125 : decode cX0_reckonPerson 125 = .ok (.iload_n 2, 1) := by decide +kernel
theorem dX0_reckonPerson_126 : decode cX0_reckonPerson 126 = .ok (.bipush 8, 2) := by decide +kernel
theorem dX0_reckonPerson_128 : decode cX0_reckonPerson 128 = .ok (.imul, 1) := by decide +kernel
theorem dX0_reckonPerson_129 : decode cX0_reckonPerson 129 = .ok (.iload 6, 2) := by decide +kernel
theorem dX0_reckonPerson_131 : decode cX0_reckonPerson 131 = .ok (.iadd, 1) := by decide +kernel
theorem dX0_reckonPerson_132 : decode cX0_reckonPerson 132 = .ok (.aload_n 1, 1) := by decide +kernel
theorem dX0_reckonPerson_133 : decode cX0_reckonPerson 133 = .ok (.iconst 0, 1) := by decide +kernel
theorem dX0_reckonPerson_134 : decode cX0_reckonPerson 134 = .ok (.aload_n 0, 1) := by decide +kernel
theorem dX0_reckonPerson_135 : decode cX0_reckonPerson 135 = .ok (.getfield 23, 3) := by decide +kernel
theorem dX0_reckonPerson_138 : decode cX0_reckonPerson 138 = .ok (.invokevirtual 47, 3) := by decide +kernel
theorem dX0_reckonPerson_141 : decode cX0_reckonPerson 141 = .ok (.iastore, 1) := by decide +kernel
theorem dX0_reckonPerson_142 : decode cX0_reckonPerson 142 = .ok (.iinc 6 1, 3) := by decide +kernel
theorem dX0_reckonPerson_145 : decode cX0_reckonPerson 145 = .ok (.goto (-123), 3) := by decide +kernel
theorem dX0_reckonPerson_148 : decode cX0_reckonPerson 148 = .ok (.return_, 1) := by decide +kernel
theorem dX0_believed_0 : decode cX0_believed 0 = .ok (.iload_n 2, 1) := by decide +kernel
theorem dX0_believed_1 : decode cX0_believed 1 = .ok (.ifCond .lt 11, 3) := by decide +kernel
theorem dX0_believed_4 : decode cX0_believed 4 = .ok (.iload_n 2, 1) := by decide +kernel
theorem dX0_believed_5 : decode cX0_believed 5 = .ok (.aload_n 0, 1) := by decide +kernel
theorem dX0_believed_6 : decode cX0_believed 6 = .ok (.getfield 36, 3) := by decide +kernel
theorem dX0_believed_9 : decode cX0_believed 9 = .ok (.if_icmp .lt 5, 3) := by decide +kernel
theorem dX0_believed_12 : decode cX0_believed 12 = .ok (.iconst (-1), 1) := by decide +kernel
theorem dX0_believed_13 : decode cX0_believed 13 = .ok (.ireturn, 1) := by decide +kernel
theorem dX0_believed_14 : decode cX0_believed 14 = .ok (.iconst (-1), 1) := by decide +kernel
theorem dX0_believed_15 : decode cX0_believed 15 = .ok (.istore_n 3, 1) := by decide +kernel
theorem dX0_believed_16 : decode cX0_believed 16 = .ok (.iconst 0, 1) := by decide +kernel
theorem dX0_believed_17 : decode cX0_believed 17 = .ok (.istore 4, 2) := by decide +kernel
theorem dX0_believed_19 : decode cX0_believed 19 = .ok (.iconst 0, 1) := by decide +kernel
theorem dX0_believed_20 : decode cX0_believed 20 = .ok (.istore 5, 2) := by decide +kernel
theorem dX0_believed_22 : decode cX0_believed 22 = .ok (.iload 5, 2) := by decide +kernel
theorem dX0_believed_24 : decode cX0_believed 24 = .ok (.bipush 7, 2) := by decide +kernel
theorem dX0_believed_26 : decode cX0_believed 26 = .ok (.if_icmp .ge 54, 3) := by decide +kernel
theorem dX0_believed_29 : decode cX0_believed 29 = .ok (.iload_n 1, 1) := by decide +kernel
theorem dX0_believed_30 : decode cX0_believed 30 = .ok (.iload 5, 2) := by decide +kernel
theorem dX0_believed_32 : decode cX0_believed 32 = .ok (.ishr, 1) := by decide +kernel
theorem dX0_believed_33 : decode cX0_believed 33 = .ok (.iconst 1, 1) := by decide +kernel
theorem dX0_believed_34 : decode cX0_believed 34 = .ok (.iand, 1) := by decide +kernel
theorem dX0_believed_35 : decode cX0_believed 35 = .ok (.ifCond .ne 6, 3) := by decide +kernel
theorem dX0_believed_38 : decode cX0_believed 38 = .ok (.goto 36, 3) := by decide +kernel
theorem dX0_believed_41 : decode cX0_believed 41 = .ok (.aload_n 0, 1) := by decide +kernel
theorem dX0_believed_42 : decode cX0_believed 42 = .ok (.getfield 9, 3) := by decide +kernel
theorem dX0_believed_45 : decode cX0_believed 45 = .ok (.iload 5, 2) := by decide +kernel
theorem dX0_believed_47 : decode cX0_believed 47 = .ok (.bipush 8, 2) := by decide +kernel
theorem dX0_believed_49 : decode cX0_believed 49 = .ok (.imul, 1) := by decide +kernel
theorem dX0_believed_50 : decode cX0_believed 50 = .ok (.iload_n 2, 1) := by decide +kernel
theorem dX0_believed_51 : decode cX0_believed 51 = .ok (.iadd, 1) := by decide +kernel
theorem dX0_believed_52 : decode cX0_believed 52 = .ok (.iaload, 1) := by decide +kernel
theorem dX0_believed_53 : decode cX0_believed 53 = .ok (.istore 6, 2) := by decide +kernel
theorem dX0_believed_55 : decode cX0_believed 55 = .ok (.iload_n 3, 1) := by decide +kernel
theorem dX0_believed_56 : decode cX0_believed 56 = .ok (.iconst (-1), 1) := by decide +kernel
theorem dX0_believed_57 : decode cX0_believed 57 = .ok (.if_icmp .eq 10, 3) := by decide +kernel
theorem dX0_believed_60 : decode cX0_believed 60 = .ok (.iload 6, 2) := by decide +kernel
theorem dX0_believed_62 : decode cX0_believed 62 = .ok (.iload 4, 2) := by decide +kernel
theorem dX0_believed_64 : decode cX0_believed 64 = .ok (.if_icmp .le 10, 3) := by decide +kernel
theorem dX0_believed_67 : decode cX0_believed 67 = .ok (.iload 5, 2) := by decide +kernel
theorem dX0_believed_69 : decode cX0_believed 69 = .ok (.istore_n 3, 1) := by decide +kernel
theorem dX0_believed_70 : decode cX0_believed 70 = .ok (.iload 6, 2) := by decide +kernel
theorem dX0_believed_72 : decode cX0_believed 72 = .ok (.istore 4, 2) := by decide +kernel
theorem dX0_believed_74 : decode cX0_believed 74 = .ok (.iinc 5 1, 3) := by decide +kernel
theorem dX0_believed_77 : decode cX0_believed 77 = .ok (.goto (-55), 3) := by decide +kernel
theorem dX0_believed_80 : decode cX0_believed 80 = .ok (.iload_n 3, 1) := by decide +kernel
theorem dX0_believed_81 : decode cX0_believed 81 = .ok (.ireturn, 1) := by decide +kernel
theorem dX0_ableOf_0 : decode cX0_ableOf 0 = .ok (.iload_n 2, 1) := by decide +kernel
theorem dX0_ableOf_1 : decode cX0_ableOf 1 = .ok (.ifCond .lt 22, 3) := by decide +kernel
theorem dX0_ableOf_4 : decode cX0_ableOf 4 = .ok (.iload_n 2, 1) := by decide +kernel
theorem dX0_ableOf_5 : decode cX0_ableOf 5 = .ok (.aload_n 0, 1) := by decide +kernel
theorem dX0_ableOf_6 : decode cX0_ableOf 6 = .ok (.getfield 36, 3) := by decide +kernel
theorem dX0_ableOf_9 : decode cX0_ableOf 9 = .ok (.if_icmp .ge 14, 3) := by decide +kernel
theorem dX0_ableOf_12 : decode cX0_ableOf 12 = .ok (.aload_n 0, 1) := by decide +kernel
theorem dX0_ableOf_13 : decode cX0_ableOf 13 = .ok (.getfield 15, 3) := by decide +kernel
theorem dX0_ableOf_16 : decode cX0_ableOf 16 = .ok (.iload_n 2, 1) := by decide +kernel
theorem dX0_ableOf_17 : decode cX0_ableOf 17 = .ok (.iaload, 1) := by decide +kernel
theorem dX0_ableOf_18 : decode cX0_ableOf 18 = .ok (.iload_n 1, 1) := by decide +kernel
theorem dX0_ableOf_19 : decode cX0_ableOf 19 = .ok (.iand, 1) := by decide +kernel
theorem dX0_ableOf_20 : decode cX0_ableOf 20 = .ok (.goto 4, 3) := by decide +kernel
theorem dX0_ableOf_23 : decode cX0_ableOf 23 = .ok (.iconst 0, 1) := by decide +kernel
theorem dX0_ableOf_24 : decode cX0_ableOf 24 = .ok (.ireturn, 1) := by decide +kernel
theorem dX0_coveredBy_0 : decode cX0_coveredBy 0 = .ok (.iconst 0, 1) := by decide +kernel
theorem dX0_coveredBy_1 : decode cX0_coveredBy 1 = .ok (.istore_n 2, 1) := by decide +kernel
theorem dX0_coveredBy_2 : decode cX0_coveredBy 2 = .ok (.iconst 0, 1) := by decide +kernel
theorem dX0_coveredBy_3 : decode cX0_coveredBy 3 = .ok (.istore_n 3, 1) := by decide +kernel
theorem dX0_coveredBy_4 : decode cX0_coveredBy 4 = .ok (.iload_n 3, 1) := by decide +kernel
theorem dX0_coveredBy_5 : decode cX0_coveredBy 5 = .ok (.aload_n 0, 1) := by decide +kernel
theorem dX0_coveredBy_6 : decode cX0_coveredBy 6 = .ok (.getfield 36, 3) := by decide +kernel
theorem dX0_coveredBy_9 : decode cX0_coveredBy 9 = .ok (.if_icmp .ge 24, 3) := by decide +kernel
theorem dX0_coveredBy_12 : decode cX0_coveredBy 12 = .ok (.aload_n 0, 1) := by decide +kernel
theorem dX0_coveredBy_13 : decode cX0_coveredBy 13 = .ok (.iload_n 1, 1) := by decide +kernel
theorem dX0_coveredBy_14 : decode cX0_coveredBy 14 = .ok (.iload_n 3, 1) := by decide +kernel
theorem dX0_coveredBy_15 : decode cX0_coveredBy 15 = .ok (.invokevirtual 60, 3) := by decide +kernel
theorem dX0_coveredBy_18 : decode cX0_coveredBy 18 = .ok (.ifCond .eq 9, 3) := by decide +kernel
theorem dX0_coveredBy_21 : decode cX0_coveredBy 21 = .ok (.iload_n 2, 1) := by decide +kernel
theorem dX0_coveredBy_22 : decode cX0_coveredBy 22 = .ok (.iconst 1, 1) := by decide +kernel
theorem dX0_coveredBy_23 : decode cX0_coveredBy 23 = .ok (.iload_n 3, 1) := by decide +kernel
theorem dX0_coveredBy_24 : decode cX0_coveredBy 24 = .ok (.ishl, 1) := by decide +kernel
theorem dX0_coveredBy_25 : decode cX0_coveredBy 25 = .ok (.ior, 1) := by decide +kernel
theorem dX0_coveredBy_26 : decode cX0_coveredBy 26 = .ok (.istore_n 2, 1) := by decide +kernel
theorem dX0_coveredBy_27 : decode cX0_coveredBy 27 = .ok (.iinc 3 1, 3) := by decide +kernel
theorem dX0_coveredBy_30 : decode cX0_coveredBy 30 = .ok (.goto (-26), 3) := by decide +kernel
theorem dX0_coveredBy_33 : decode cX0_coveredBy 33 = .ok (.iload_n 2, 1) := by decide +kernel
theorem dX0_coveredBy_34 : decode cX0_coveredBy 34 = .ok (.ireturn, 1) := by decide +kernel
theorem dX0_rightOf_0 : decode cX0_rightOf 0 = .ok (.iconst 0, 1) := by decide +kernel
theorem dX0_rightOf_1 : decode cX0_rightOf 1 = .ok (.istore_n 2, 1) := by decide +kernel
theorem dX0_rightOf_2 : decode cX0_rightOf 2 = .ok (.iconst 0, 1) := by decide +kernel
theorem dX0_rightOf_3 : decode cX0_rightOf 3 = .ok (.istore_n 3, 1) := by decide +kernel
theorem dX0_rightOf_4 : decode cX0_rightOf 4 = .ok (.iload_n 3, 1) := by decide +kernel
theorem dX0_rightOf_5 : decode cX0_rightOf 5 = .ok (.aload_n 0, 1) := by decide +kernel
theorem dX0_rightOf_6 : decode cX0_rightOf 6 = .ok (.getfield 36, 3) := by decide +kernel
theorem dX0_rightOf_9 : decode cX0_rightOf 9 = .ok (.if_icmp .ge 44, 3) := by decide +kernel
theorem dX0_rightOf_12 : decode cX0_rightOf 12 = .ok (.aload_n 0, 1) := by decide +kernel
theorem dX0_rightOf_13 : decode cX0_rightOf 13 = .ok (.iload_n 1, 1) := by decide +kernel
theorem dX0_rightOf_14 : decode cX0_rightOf 14 = .ok (.iload_n 3, 1) := by decide +kernel
theorem dX0_rightOf_15 : decode cX0_rightOf 15 = .ok (.invokevirtual 63, 3) := by decide +kernel
theorem dX0_rightOf_18 : decode cX0_rightOf 18 = .ok (.istore 4, 2) := by decide +kernel
theorem dX0_rightOf_20 : decode cX0_rightOf 20 = .ok (.iload 4, 2) := by decide +kernel
theorem dX0_rightOf_22 : decode cX0_rightOf 22 = .ok (.iconst (-1), 1) := by decide +kernel
theorem dX0_rightOf_23 : decode cX0_rightOf 23 = .ok (.if_icmp .eq 24, 3) := by decide +kernel
theorem dX0_rightOf_26 : decode cX0_rightOf 26 = .ok (.aload_n 0, 1) := by decide +kernel
theorem dX0_rightOf_27 : decode cX0_rightOf 27 = .ok (.getfield 15, 3) := by decide +kernel
theorem dX0_rightOf_30 : decode cX0_rightOf 30 = .ok (.iload_n 3, 1) := by decide +kernel
theorem dX0_rightOf_31 : decode cX0_rightOf 31 = .ok (.iaload, 1) := by decide +kernel
theorem dX0_rightOf_32 : decode cX0_rightOf 32 = .ok (.iload 4, 2) := by decide +kernel
theorem dX0_rightOf_34 : decode cX0_rightOf 34 = .ok (.ishr, 1) := by decide +kernel
theorem dX0_rightOf_35 : decode cX0_rightOf 35 = .ok (.iconst 1, 1) := by decide +kernel
theorem dX0_rightOf_36 : decode cX0_rightOf 36 = .ok (.iand, 1) := by decide +kernel
theorem dX0_rightOf_37 : decode cX0_rightOf 37 = .ok (.iconst 1, 1) := by decide +kernel
theorem dX0_rightOf_38 : decode cX0_rightOf 38 = .ok (.if_icmp .ne 9, 3) := by decide +kernel
theorem dX0_rightOf_41 : decode cX0_rightOf 41 = .ok (.iload_n 2, 1) := by decide +kernel
theorem dX0_rightOf_42 : decode cX0_rightOf 42 = .ok (.iconst 1, 1) := by decide +kernel
theorem dX0_rightOf_43 : decode cX0_rightOf 43 = .ok (.iload_n 3, 1) := by decide +kernel
theorem dX0_rightOf_44 : decode cX0_rightOf 44 = .ok (.ishl, 1) := by decide +kernel
theorem dX0_rightOf_45 : decode cX0_rightOf 45 = .ok (.ior, 1) := by decide +kernel
theorem dX0_rightOf_46 : decode cX0_rightOf 46 = .ok (.istore_n 2, 1) := by decide +kernel
theorem dX0_rightOf_47 : decode cX0_rightOf 47 = .ok (.iinc 3 1, 3) := by decide +kernel
theorem dX0_rightOf_50 : decode cX0_rightOf 50 = .ok (.goto (-46), 3) := by decide +kernel
theorem dX0_rightOf_53 : decode cX0_rightOf 53 = .ok (.iload_n 2, 1) := by decide +kernel
theorem dX0_rightOf_54 : decode cX0_rightOf 54 = .ok (.ireturn, 1) := by decide +kernel
theorem dX0_worth_0 : decode cX0_worth 0 = .ok (.iconst 0, 1) := by decide +kernel
theorem dX0_worth_1 : decode cX0_worth 1 = .ok (.istore_n 3, 1) := by decide +kernel
theorem dX0_worth_2 : decode cX0_worth 2 = .ok (.iconst 0, 1) := by decide +kernel
theorem dX0_worth_3 : decode cX0_worth 3 = .ok (.istore 4, 2) := by decide +kernel
theorem dX0_worth_5 : decode cX0_worth 5 = .ok (.iload 4, 2) := by decide +kernel
theorem dX0_worth_7 : decode cX0_worth 7 = .ok (.aload_n 0, 1) := by decide +kernel
theorem dX0_worth_8 : decode cX0_worth 8 = .ok (.getfield 36, 3) := by decide +kernel
theorem dX0_worth_11 : decode cX0_worth 11 = .ok (.if_icmp .ge 49, 3) := by decide +kernel
theorem dX0_worth_14 : decode cX0_worth 14 = .ok (.iload_n 1, 1) := by decide +kernel
theorem dX0_worth_15 : decode cX0_worth 15 = .ok (.iload 4, 2) := by decide +kernel
theorem dX0_worth_17 : decode cX0_worth 17 = .ok (.ishr, 1) := by decide +kernel
theorem dX0_worth_18 : decode cX0_worth 18 = .ok (.iconst 1, 1) := by decide +kernel
theorem dX0_worth_19 : decode cX0_worth 19 = .ok (.iand, 1) := by decide +kernel
theorem dX0_worth_20 : decode cX0_worth 20 = .ok (.ifCond .ne 6, 3) := by decide +kernel
theorem dX0_worth_23 : decode cX0_worth 23 = .ok (.goto 31, 3) := by decide +kernel
theorem dX0_worth_26 : decode cX0_worth 26 = .ok (.iload_n 3, 1) := by decide +kernel
theorem dX0_worth_27 : decode cX0_worth 27 = .ok (.iload 4, 2) := by decide +kernel
theorem dX0_worth_29 : decode cX0_worth 29 = .ok (.iload_n 2, 1) := by decide +kernel
theorem dX0_worth_30 : decode cX0_worth 30 = .ok (.if_icmp .ne 15, 3) := by decide +kernel
theorem dX0_worth_33 : decode cX0_worth 33 = .ok (.iconst 2, 1) := by decide +kernel
theorem dX0_worth_34 : decode cX0_worth 34 = .ok (.aload_n 0, 1) := by decide +kernel
theorem dX0_worth_35 : decode cX0_worth 35 = .ok (.getfield 18, 3) := by decide +kernel
theorem dX0_worth_38 : decode cX0_worth 38 = .ok (.iload 4, 2) := by decide +kernel
theorem dX0_worth_40 : decode cX0_worth 40 = .ok (.iaload, 1) := by decide +kernel
theorem dX0_worth_41 : decode cX0_worth 41 = .ok (.imul, 1) := by decide +kernel
theorem dX0_worth_42 : decode cX0_worth 42 = .ok (.goto 10, 3) := by decide +kernel
theorem dX0_worth_45 : decode cX0_worth 45 = .ok (.aload_n 0, 1) := by decide +kernel
theorem dX0_worth_46 : decode cX0_worth 46 = .ok (.getfield 18, 3) := by decide +kernel
theorem dX0_worth_49 : decode cX0_worth 49 = .ok (.iload 4, 2) := by decide +kernel
theorem dX0_worth_51 : decode cX0_worth 51 = .ok (.iaload, 1) := by decide +kernel
theorem dX0_worth_52 : decode cX0_worth 52 = .ok (.iadd, 1) := by decide +kernel
theorem dX0_worth_53 : decode cX0_worth 53 = .ok (.istore_n 3, 1) := by decide +kernel
theorem dX0_worth_54 : decode cX0_worth 54 = .ok (.iinc 4 1, 3) := by decide +kernel
theorem dX0_worth_57 : decode cX0_worth 57 = .ok (.goto (-52), 3) := by decide +kernel
theorem dX0_worth_60 : decode cX0_worth 60 = .ok (.iload_n 3, 1) := by decide +kernel
theorem dX0_worth_61 : decode cX0_worth 61 = .ok (.ireturn, 1) := by decide +kernel
theorem dX1_init_0 : decode cX1_init 0 = .ok (.aload_n 0, 1) := by decide +kernel
theorem dX1_init_1 : decode cX1_init 1 = .ok (.invokespecial 3, 3) := by decide +kernel
theorem dX1_init_4 : decode cX1_init 4 = .ok (.aload_n 0, 1) := by decide +kernel
theorem dX1_init_5 : decode cX1_init 5 = .ok (.iconst 4, 1) := by decide +kernel
theorem dX1_init_6 : decode cX1_init 6 = .ok (.newarray .int, 2) := by decide +kernel
theorem dX1_init_8 : decode cX1_init 8 = .ok (.putfield 9, 3) := by decide +kernel
theorem dX1_init_11 : decode cX1_init 11 = .ok (.aload_n 0, 1) := by decide +kernel
theorem dX1_init_12 : decode cX1_init 12 = .ok (.iload_n 1, 1) := by decide +kernel
theorem dX1_init_13 : decode cX1_init 13 = .ok (.putfield 15, 3) := by decide +kernel
theorem dX1_init_16 : decode cX1_init 16 = .ok (.aload_n 0, 1) := by decide +kernel
theorem dX1_init_17 : decode cX1_init 17 = .ok (.iload_n 2, 1) := by decide +kernel
theorem dX1_init_18 : decode cX1_init 18 = .ok (.putfield 19, 3) := by decide +kernel
theorem dX1_init_21 : decode cX1_init 21 = .ok (.aload_n 0, 1) := by decide +kernel
theorem dX1_init_22 : decode cX1_init 22 = .ok (.iload_n 3, 1) := by decide +kernel
theorem dX1_init_23 : decode cX1_init 23 = .ok (.putfield 22, 3) := by decide +kernel
theorem dX1_init_26 : decode cX1_init 26 = .ok (.aload_n 0, 1) := by decide +kernel
theorem dX1_init_27 : decode cX1_init 27 = .ok (.iload 4, 2) := by decide +kernel
theorem dX1_init_29 : decode cX1_init 29 = .ok (.putfield 25, 3) := by decide +kernel
theorem dX1_init_32 : decode cX1_init 32 = .ok (.return_, 1) := by decide +kernel
theorem dX1_isOf_0 : decode cX1_isOf 0 = .ok (.aload_n 0, 1) := by decide +kernel
theorem dX1_isOf_1 : decode cX1_isOf 1 = .ok (.getfield 15, 3) := by decide +kernel
theorem dX1_isOf_4 : decode cX1_isOf 4 = .ok (.istore_n 2, 1) := by decide +kernel
theorem dX1_isOf_5 : decode cX1_isOf 5 = .ok (.iconst 0, 1) := by decide +kernel
theorem dX1_isOf_6 : decode cX1_isOf 6 = .ok (.istore_n 3, 1) := by decide +kernel
theorem dX1_isOf_7 : decode cX1_isOf 7 = .ok (.iload_n 3, 1) := by decide +kernel
theorem dX1_isOf_8 : decode cX1_isOf 8 = .ok (.bipush 6, 2) := by decide +kernel
theorem dX1_isOf_10 : decode cX1_isOf 10 = .ok (.if_icmp .ge 32, 3) := by decide +kernel
theorem dX1_isOf_13 : decode cX1_isOf 13 = .ok (.iload_n 2, 1) := by decide +kernel
theorem dX1_isOf_14 : decode cX1_isOf 14 = .ok (.ifCond .lt 28, 3) := by decide +kernel
theorem dX1_isOf_17 : decode cX1_isOf 17 = .ok (.iload_n 2, 1) := by decide +kernel
theorem dX1_isOf_18 : decode cX1_isOf 18 = .ok (.bipush 6, 2) := by decide +kernel
theorem dX1_isOf_20 : decode cX1_isOf 20 = .ok (.if_icmp .ge 22, 3) := by decide +kernel
theorem dX1_isOf_23 : decode cX1_isOf 23 = .ok (.iload_n 2, 1) := by decide +kernel
theorem dX1_isOf_24 : decode cX1_isOf 24 = .ok (.iload_n 1, 1) := by decide +kernel
theorem dX1_isOf_25 : decode cX1_isOf 25 = .ok (.if_icmp .ne 5, 3) := by decide +kernel
theorem dX1_isOf_28 : decode cX1_isOf 28 = .ok (.iconst 1, 1) := by decide +kernel
theorem dX1_isOf_29 : decode cX1_isOf 29 = .ok (.ireturn, 1) := by decide +kernel
theorem dX1_isOf_30 : decode cX1_isOf 30 = .ok (.getstatic 28, 3) := by decide +kernel
theorem dX1_isOf_33 : decode cX1_isOf 33 = .ok (.iload_n 2, 1) := by decide +kernel
theorem dX1_isOf_34 : decode cX1_isOf 34 = .ok (.iaload, 1) := by decide +kernel
theorem dX1_isOf_35 : decode cX1_isOf 35 = .ok (.istore_n 2, 1) := by decide +kernel
theorem dX1_isOf_36 : decode cX1_isOf 36 = .ok (.iinc 3 1, 3) := by decide +kernel
theorem dX1_isOf_39 : decode cX1_isOf 39 = .ok (.goto (-32), 3) := by decide +kernel
theorem dX1_isOf_42 : decode cX1_isOf 42 = .ok (.iconst 0, 1) := by decide +kernel
theorem dX1_isOf_43 : decode cX1_isOf 43 = .ok (.ireturn, 1) := by decide +kernel
theorem dX1_deepAt_0 : decode cX1_deepAt 0 = .ok (.iload_n 1, 1) := by decide +kernel
theorem dX1_deepAt_1 : decode cX1_deepAt 1 = .ok (.invokestatic 31, 3) := by decide +kernel
theorem dX1_deepAt_4 : decode cX1_deepAt 4 = .ok (.ifCond .eq 12, 3) := by decide +kernel
theorem dX1_deepAt_7 : decode cX1_deepAt 7 = .ok (.aload_n 0, 1) := by decide +kernel
theorem dX1_deepAt_8 : decode cX1_deepAt 8 = .ok (.getfield 9, 3) := by decide +kernel
theorem dX1_deepAt_11 : decode cX1_deepAt 11 = .ok (.iload_n 1, 1) := by decide +kernel
theorem dX1_deepAt_12 : decode cX1_deepAt 12 = .ok (.iaload, 1) := by decide +kernel
theorem dX1_deepAt_13 : decode cX1_deepAt 13 = .ok (.goto 4, 3) := by decide +kernel
theorem dX1_deepAt_16 : decode cX1_deepAt 16 = .ok (.iconst 0, 1) := by decide +kernel
theorem dX1_deepAt_17 : decode cX1_deepAt 17 = .ok (.ireturn, 1) := by decide +kernel
theorem dX1_becomeDeep_0 : decode cX1_becomeDeep 0 = .ok (.iload_n 1, 1) := by decide +kernel
theorem dX1_becomeDeep_1 : decode cX1_becomeDeep 1 = .ok (.invokestatic 31, 3) := by decide +kernel
theorem dX1_becomeDeep_4 : decode cX1_becomeDeep 4 = .ok (.ifCond .eq 16, 3) := by decide +kernel
theorem dX1_becomeDeep_7 : decode cX1_becomeDeep 7 = .ok (.aload_n 0, 1) := by decide +kernel
theorem dX1_becomeDeep_8 : decode cX1_becomeDeep 8 = .ok (.getfield 9, 3) := by decide +kernel
theorem dX1_becomeDeep_11 : decode cX1_becomeDeep 11 = .ok (.iload_n 1, 1) := by decide +kernel
theorem dX1_becomeDeep_12 : decode cX1_becomeDeep 12 = .ok (.iload_n 2, 1) := by decide +kernel
theorem dX1_becomeDeep_13 : decode cX1_becomeDeep 13 = .ok (.iconst 0, 1) := by decide +kernel
theorem dX1_becomeDeep_14 : decode cX1_becomeDeep 14 = .ok (.bipush 9, 2) := by decide +kernel
theorem dX1_becomeDeep_16 : decode cX1_becomeDeep 16 = .ok (.invokestatic 35, 3) := by decide +kernel
theorem dX1_becomeDeep_19 : decode cX1_becomeDeep 19 = .ok (.iastore, 1) := by decide +kernel
theorem dX1_becomeDeep_20 : decode cX1_becomeDeep 20 = .ok (.return_, 1) := by decide +kernel
theorem dX1_deepestTopic_0 : decode cX1_deepestTopic 0 = .ok (.iconst 0, 1) := by decide +kernel
theorem dX1_deepestTopic_1 : decode cX1_deepestTopic 1 = .ok (.istore_n 1, 1) := by decide +kernel
theorem dX1_deepestTopic_2 : decode cX1_deepestTopic 2 = .ok (.iconst 1, 1) := by decide +kernel
theorem dX1_deepestTopic_3 : decode cX1_deepestTopic 3 = .ok (.istore_n 2, 1) := by decide +kernel
theorem dX1_deepestTopic_4 : decode cX1_deepestTopic 4 = .ok (.iload_n 2, 1) := by decide +kernel
theorem dX1_deepestTopic_5 : decode cX1_deepestTopic 5 = .ok (.iconst 4, 1) := by decide +kernel
theorem dX1_deepestTopic_6 : decode cX1_deepestTopic 6 = .ok (.if_icmp .ge 26, 3) := by decide +kernel
theorem dX1_deepestTopic_9 : decode cX1_deepestTopic 9 = .ok (.aload_n 0, 1) := by decide +kernel
theorem dX1_deepestTopic_10 : decode cX1_deepestTopic 10 = .ok (.getfield 9, 3) := by decide +kernel
theorem dX1_deepestTopic_13 : decode cX1_deepestTopic 13 = .ok (.iload_n 2, 1) := by decide +kernel
theorem dX1_deepestTopic_14 : decode cX1_deepestTopic 14 = .ok (.iaload, 1) := by decide +kernel
theorem dX1_deepestTopic_15 : decode cX1_deepestTopic 15 = .ok (.aload_n 0, 1) := by decide +kernel
theorem dX1_deepestTopic_16 : decode cX1_deepestTopic 16 = .ok (.getfield 9, 3) := by decide +kernel
theorem dX1_deepestTopic_19 : decode cX1_deepestTopic 19 = .ok (.iload_n 1, 1) := by decide +kernel
theorem dX1_deepestTopic_20 : decode cX1_deepestTopic 20 = .ok (.iaload, 1) := by decide +kernel
theorem dX1_deepestTopic_21 : decode cX1_deepestTopic 21 = .ok (.if_icmp .le 5, 3) := by decide +kernel
theorem dX1_deepestTopic_24 : decode cX1_deepestTopic 24 = .ok (.iload_n 2, 1) := by decide +kernel
theorem dX1_deepestTopic_25 : decode cX1_deepestTopic 25 = .ok (.istore_n 1, 1) := by decide +kernel
theorem dX1_deepestTopic_26 : decode cX1_deepestTopic 26 = .ok (.iinc 2 1, 3) := by decide +kernel
theorem dX1_deepestTopic_29 : decode cX1_deepestTopic 29 = .ok (.goto (-25), 3) := by decide +kernel
theorem dX1_deepestTopic_32 : decode cX1_deepestTopic 32 = .ok (.iload_n 1, 1) := by decide +kernel
theorem dX1_deepestTopic_33 : decode cX1_deepestTopic 33 = .ok (.ireturn, 1) := by decide +kernel
theorem dX1_knows_0 : decode cX1_knows 0 = .ok (.aload_n 0, 1) := by decide +kernel
theorem dX1_knows_1 : decode cX1_knows 1 = .ok (.iload_n 1, 1) := by decide +kernel
theorem dX1_knows_2 : decode cX1_knows 2 = .ok (.invokevirtual 39, 3) := by decide +kernel
theorem dX1_knows_5 : decode cX1_knows 5 = .ok (.istore_n 3, 1) := by decide +kernel
theorem dX1_knows_6 : decode cX1_knows 6 = .ok (.aload_n 0, 1) := by decide +kernel
theorem dX1_knows_7 : decode cX1_knows 7 = .ok (.iconst 1, 1) := by decide +kernel
theorem dX1_knows_8 : decode cX1_knows 8 = .ok (.invokevirtual 43, 3) := by decide +kernel
theorem dX1_knows_11 : decode cX1_knows 11 = .ok (.ifCond .eq 14, 3) := by decide +kernel
theorem dX1_knows_14 : decode cX1_knows 14 = .ok (.aload_n 0, 1) := by decide +kernel
theorem dX1_knows_15 : decode cX1_knows 15 = .ok (.iload_n 1, 1) := by decide +kernel
theorem dX1_knows_16 : decode cX1_knows 16 = .ok (.invokevirtual 46, 3) := by decide +kernel
theorem dX1_knows_19 : decode cX1_knows 19 = .ok (.ifCond .eq 6, 3) := by decide +kernel
theorem dX1_knows_22 : decode cX1_knows 22 = .ok (.iinc 3 3, 3) := by decide +kernel
theorem dX1_knows_25 : decode cX1_knows 25 = .ok (.aload_n 0, 1) := by decide +kernel
theorem dX1_knows_26 : decode cX1_knows 26 = .ok (.iconst 3, 1) := by decide +kernel
theorem dX1_knows_27 : decode cX1_knows 27 = .ok (.invokevirtual 43, 3) := by decide +kernel
theorem dX1_knows_30 : decode cX1_knows 30 = .ok (.ifCond .eq 9, 3) := by decide +kernel
theorem dX1_knows_33 : decode cX1_knows 33 = .ok (.iload_n 3, 1) := by decide +kernel
theorem dX1_knows_34 : decode cX1_knows 34 = .ok (.iload_n 2, 1) := by decide +kernel
theorem dX1_knows_35 : decode cX1_knows 35 = .ok (.iconst 3, 1) := by decide +kernel
theorem dX1_knows_36 : decode cX1_knows 36 = .ok (.idiv, 1) := by decide +kernel
theorem dX1_knows_37 : decode cX1_knows 37 = .ok (.isub, 1) := by decide +kernel
theorem dX1_knows_38 : decode cX1_knows 38 = .ok (.istore_n 3, 1) := by decide +kernel
theorem dX1_knows_39 : decode cX1_knows 39 = .ok (.aload_n 0, 1) := by decide +kernel
theorem dX1_knows_40 : decode cX1_knows 40 = .ok (.iconst 4, 1) := by decide +kernel
theorem dX1_knows_41 : decode cX1_knows 41 = .ok (.invokevirtual 43, 3) := by decide +kernel
theorem dX1_knows_44 : decode cX1_knows 44 = .ok (.ifCond .eq 6, 3) := by decide +kernel
theorem dX1_knows_47 : decode cX1_knows 47 = .ok (.iinc 3 2, 3) := by decide +kernel
theorem dX1_knows_50 : decode cX1_knows 50 = .ok (.aload_n 0, 1) := by decide +kernel
theorem dX1_knows_51 : decode cX1_knows 51 = .ok (.iconst 5, 1) := by decide +kernel
theorem dX1_knows_52 : decode cX1_knows 52 = .ok (.invokevirtual 43, 3) := by decide +kernel
theorem dX1_knows_55 : decode cX1_knows 55 = .ok (.ifCond .eq 14, 3) := by decide +kernel
theorem dX1_knows_58 : decode cX1_knows 58 = .ok (.iload_n 2, 1) := by decide +kernel
theorem dX1_knows_59 : decode cX1_knows 59 = .ok (.aload_n 0, 1) := by decide +kernel
theorem dX1_knows_60 : decode cX1_knows 60 = .ok (.getfield 19, 3) := by decide +kernel
theorem dX1_knows_63 : decode cX1_knows 63 = .ok (.if_icmp .lt 6, 3) := by decide +kernel
theorem dX1_knows_66 : decode cX1_knows 66 = .ok (.bipush 9, 2) := by decide +kernel
theorem dX1_knows_68 : decode cX1_knows 68 = .ok (.istore_n 3, 1) := by decide +kernel
theorem dX1_knows_69 : decode cX1_knows 69 = .ok (.iload_n 3, 1) := by decide +kernel
theorem dX1_knows_70 : decode cX1_knows 70 = .ok (.iconst 0, 1) := by decide +kernel
theorem dX1_knows_71 : decode cX1_knows 71 = .ok (.bipush 9, 2) := by decide +kernel
theorem dX1_knows_73 : decode cX1_knows 73 = .ok (.invokestatic 35, 3) := by decide +kernel
theorem dX1_knows_76 : decode cX1_knows 76 = .ok (.ireturn, 1) := by decide +kernel
theorem dX1_loudAt_0 : decode cX1_loudAt 0 = .ok (.aload_n 0, 1) := by decide +kernel
theorem dX1_loudAt_1 : decode cX1_loudAt 1 = .ok (.iconst 4, 1) := by decide +kernel
theorem dX1_loudAt_2 : decode cX1_loudAt 2 = .ok (.invokevirtual 43, 3) := by decide +kernel
theorem dX1_loudAt_5 : decode cX1_loudAt 5 = .ok (.ifCond .eq 13, 3) := by decide +kernel
theorem dX1_loudAt_8 : decode cX1_loudAt 8 = .ok (.aload_n 0, 1) := by decide +kernel
theorem dX1_loudAt_9 : decode cX1_loudAt 9 = .ok (.iload_n 1, 1) := by decide +kernel
theorem dX1_loudAt_10 : decode cX1_loudAt 10 = .ok (.invokevirtual 46, 3) := by decide +kernel
theorem dX1_loudAt_13 : decode cX1_loudAt 13 = .ok (.ifCond .ne 5, 3) := by decide +kernel
theorem dX1_loudAt_16 : decode cX1_loudAt 16 = .ok (.iconst 0, 1) := by decide +kernel
theorem dX1_loudAt_17 : decode cX1_loudAt 17 = .ok (.ireturn, 1) := by decide +kernel
theorem dX1_loudAt_18 : decode cX1_loudAt 18 = .ok (.aload_n 0, 1) := by decide +kernel
theorem dX1_loudAt_19 : decode cX1_loudAt 19 = .ok (.iconst 2, 1) := by decide +kernel
theorem dX1_loudAt_20 : decode cX1_loudAt 20 = .ok (.invokevirtual 43, 3) := by decide +kernel
theorem dX1_loudAt_23 : decode cX1_loudAt 23 = .ok (.ifCond .eq 10, 3) := by decide +kernel
theorem dX1_loudAt_26 : decode cX1_loudAt 26 = .ok (.aload_n 0, 1) := by decide +kernel
theorem dX1_loudAt_27 : decode cX1_loudAt 27 = .ok (.getfield 22, 3) := by decide +kernel
theorem dX1_loudAt_30 : decode cX1_loudAt 30 = .ok (.iconst 3, 1) := by decide +kernel
theorem dX1_loudAt_31 : decode cX1_loudAt 31 = .ok (.idiv, 1) := by decide +kernel
theorem dX1_loudAt_32 : decode cX1_loudAt 32 = .ok (.ireturn, 1) := by decide +kernel
theorem dX1_loudAt_33 : decode cX1_loudAt 33 = .ok (.aload_n 0, 1) := by decide +kernel
theorem dX1_loudAt_34 : decode cX1_loudAt 34 = .ok (.iconst 3, 1) := by decide +kernel
theorem dX1_loudAt_35 : decode cX1_loudAt 35 = .ok (.invokevirtual 43, 3) := by decide +kernel
theorem dX1_loudAt_38 : decode cX1_loudAt 38 = .ok (.ifCond .eq 14, 3) := by decide +kernel
theorem dX1_loudAt_41 : decode cX1_loudAt 41 = .ok (.iconst 2, 1) := by decide +kernel
theorem dX1_loudAt_42 : decode cX1_loudAt 42 = .ok (.aload_n 0, 1) := by decide +kernel
theorem dX1_loudAt_43 : decode cX1_loudAt 43 = .ok (.getfield 22, 3) := by decide +kernel
theorem dX1_loudAt_46 : decode cX1_loudAt 46 = .ok (.imul, 1) := by decide +kernel
theorem dX1_loudAt_47 : decode cX1_loudAt 47 = .ok (.iconst 5, 1) := by decide +kernel
theorem dX1_loudAt_48 : decode cX1_loudAt 48 = .ok (.iadd, 1) := by decide +kernel
theorem dX1_loudAt_49 : decode cX1_loudAt 49 = .ok (.goto 7, 3) := by decide +kernel
theorem dX1_loudAt_52 : decode cX1_loudAt 52 = .ok (.aload_n 0, 1) := by decide +kernel
theorem dX1_loudAt_53 : decode cX1_loudAt 53 = .ok (.getfield 22, 3) := by decide +kernel
theorem dX1_loudAt_56 : decode cX1_loudAt 56 = .ok (.ireturn, 1) := by decide +kernel
theorem dX1_isOwn_0 : decode cX1_isOwn 0 = .ok (.iload_n 1, 1) := by decide +kernel
theorem dX1_isOwn_1 : decode cX1_isOwn 1 = .ok (.aload_n 0, 1) := by decide +kernel
theorem dX1_isOwn_2 : decode cX1_isOwn 2 = .ok (.getfield 19, 3) := by decide +kernel
theorem dX1_isOwn_5 : decode cX1_isOwn 5 = .ok (.iconst 4, 1) := by decide +kernel
theorem dX1_isOwn_6 : decode cX1_isOwn 6 = .ok (.irem, 1) := by decide +kernel
theorem dX1_isOwn_7 : decode cX1_isOwn 7 = .ok (.if_icmp .ne 7, 3) := by decide +kernel
theorem dX1_isOwn_10 : decode cX1_isOwn 10 = .ok (.iconst 1, 1) := by decide +kernel
theorem dX1_isOwn_11 : decode cX1_isOwn 11 = .ok (.goto 4, 3) := by decide +kernel
theorem dX1_isOwn_14 : decode cX1_isOwn 14 = .ok (.iconst 0, 1) := by decide +kernel
theorem dX1_isOwn_15 : decode cX1_isOwn 15 = .ok (.ireturn, 1) := by decide +kernel
theorem dX2_init_0 : decode cX2_init 0 = .ok (.aload_n 0, 1) := by decide +kernel
theorem dX2_init_1 : decode cX2_init 1 = .ok (.invokespecial 3, 3) := by decide +kernel
theorem dX2_init_4 : decode cX2_init 4 = .ok (.aload_n 0, 1) := by decide +kernel
theorem dX2_init_5 : decode cX2_init 5 = .ok (.bipush 28, 2) := by decide +kernel
theorem dX2_init_7 : decode cX2_init 7 = .ok (.newarray .int, 2) := by decide +kernel
theorem dX2_init_9 : decode cX2_init 9 = .ok (.putfield 9, 3) := by decide +kernel
theorem dX2_init_12 : decode cX2_init 12 = .ok (.aload_n 0, 1) := by decide +kernel
theorem dX2_init_13 : decode cX2_init 13 = .ok (.bipush 7, 2) := by decide +kernel
theorem dX2_init_15 : decode cX2_init 15 = .ok (.newarray .int, 2) := by decide +kernel
theorem dX2_init_17 : decode cX2_init 17 = .ok (.putfield 15, 3) := by decide +kernel
theorem dX2_init_20 : decode cX2_init 20 = .ok (.aload_n 0, 1) := by decide +kernel
theorem dX2_init_21 : decode cX2_init 21 = .ok (.iconst 3, 1) := by decide +kernel
theorem dX2_init_22 : decode cX2_init 22 = .ok (.newarray .int, 2) := by decide +kernel
theorem dX2_init_24 : decode cX2_init 24 = .ok (.putfield 18, 3) := by decide +kernel
theorem dX2_init_27 : decode cX2_init 27 = .ok (.return_, 1) := by decide +kernel
theorem dX3_init_0 : decode cX3_init 0 = .ok (.aload_n 0, 1) := by decide +kernel
theorem dX3_init_1 : decode cX3_init 1 = .ok (.invokespecial 1, 3) := by decide +kernel
theorem dX3_init_4 : decode cX3_init 4 = .ok (.aload_n 0, 1) := by decide +kernel
theorem dX3_init_5 : decode cX3_init 5 = .ok (.bipush 40, 2) := by decide +kernel
theorem dX3_init_7 : decode cX3_init 7 = .ok (.newarray .int, 2) := by decide +kernel
theorem dX3_init_9 : decode cX3_init 9 = .ok (.putfield 9, 3) := by decide +kernel
theorem dX3_init_12 : decode cX3_init 12 = .ok (.aload_n 0, 1) := by decide +kernel
theorem dX3_init_13 : decode cX3_init 13 = .ok (.iconst (-1), 1) := by decide +kernel
theorem dX3_init_14 : decode cX3_init 14 = .ok (.putfield 13, 3) := by decide +kernel
theorem dX3_init_17 : decode cX3_init 17 = .ok (.return_, 1) := by decide +kernel
theorem dX3_isMissing_0 : decode cX3_isMissing 0 = .ok (.aload_n 0, 1) := by decide +kernel
theorem dX3_isMissing_1 : decode cX3_isMissing 1 = .ok (.getfield 13, 3) := by decide +kernel
theorem dX3_isMissing_4 : decode cX3_isMissing 4 = .ok (.iconst (-1), 1) := by decide +kernel
theorem dX3_isMissing_5 : decode cX3_isMissing 5 = .ok (.if_icmp .ne 7, 3) := by decide +kernel
theorem dX3_isMissing_8 : decode cX3_isMissing 8 = .ok (.iconst 1, 1) := by decide +kernel
theorem dX3_isMissing_9 : decode cX3_isMissing 9 = .ok (.goto 4, 3) := by decide +kernel
theorem dX3_isMissing_12 : decode cX3_isMissing 12 = .ok (.iconst 0, 1) := by decide +kernel
theorem dX3_isMissing_13 : decode cX3_isMissing 13 = .ok (.ireturn, 1) := by decide +kernel
theorem dX3_become_0 : decode cX3_become 0 = .ok (.aload_n 0, 1) := by decide +kernel
theorem dX3_become_1 : decode cX3_become 1 = .ok (.iload_n 1, 1) := by decide +kernel
theorem dX3_become_2 : decode cX3_become 2 = .ok (.putfield 13, 3) := by decide +kernel
theorem dX3_become_5 : decode cX3_become 5 = .ok (.aload_n 0, 1) := by decide +kernel
theorem dX3_become_6 : decode cX3_become 6 = .ok (.iload_n 2, 1) := by decide +kernel
theorem dX3_become_7 : decode cX3_become 7 = .ok (.iconst 0, 1) := by decide +kernel
theorem dX3_become_8 : decode cX3_become 8 = .ok (.bipush 40, 2) := by decide +kernel
theorem dX3_become_10 : decode cX3_become 10 = .ok (.invokestatic 17, 3) := by decide +kernel
theorem dX3_become_13 : decode cX3_become 13 = .ok (.putfield 23, 3) := by decide +kernel
theorem dX3_become_16 : decode cX3_become 16 = .ok (.aload_n 0, 1) := by decide +kernel
theorem dX3_become_17 : decode cX3_become 17 = .ok (.getfield 9, 3) := by decide +kernel
theorem dX3_become_20 : decode cX3_become 20 = .ok (.iconst 0, 1) := by decide +kernel
theorem dX3_become_21 : decode cX3_become 21 = .ok (.invokestatic 26, 3) := by decide +kernel
theorem dX3_become_24 : decode cX3_become 24 = .ok (.return_, 1) := by decide +kernel
theorem dX3_has_0 : decode cX3_has 0 = .ok (.iload_n 1, 1) := by decide +kernel
theorem dX3_has_1 : decode cX3_has 1 = .ok (.ifCond .lt 15, 3) := by decide +kernel
theorem dX3_has_4 : decode cX3_has 4 = .ok (.iload_n 1, 1) := by decide +kernel
theorem dX3_has_5 : decode cX3_has 5 = .ok (.aload_n 0, 1) := by decide +kernel
theorem dX3_has_6 : decode cX3_has 6 = .ok (.getfield 23, 3) := by decide +kernel
theorem dX3_has_9 : decode cX3_has 9 = .ok (.if_icmp .ge 7, 3) := by decide +kernel
theorem dX3_has_12 : decode cX3_has 12 = .ok (.iconst 1, 1) := by decide +kernel
theorem dX3_has_13 : decode cX3_has 13 = .ok (.goto 4, 3) := by decide +kernel
theorem dX3_has_16 : decode cX3_has 16 = .ok (.iconst 0, 1) := by decide +kernel
theorem dX3_has_17 : decode cX3_has 17 = .ok (.ireturn, 1) := by decide +kernel
theorem dX3_hasRow_0 : decode cX3_hasRow 0 = .ok (.iload_n 1, 1) := by decide +kernel
theorem dX3_hasRow_1 : decode cX3_hasRow 1 = .ok (.ifCond .lt 21, 3) := by decide +kernel
theorem dX3_hasRow_4 : decode cX3_hasRow 4 = .ok (.iload_n 2, 1) := by decide +kernel
theorem dX3_hasRow_5 : decode cX3_hasRow 5 = .ok (.ifCond .lt 17, 3) := by decide +kernel
theorem dX3_hasRow_8 : decode cX3_hasRow 8 = .ok (.iload_n 1, 1) := by decide +kernel
theorem dX3_hasRow_9 : decode cX3_hasRow 9 = .ok (.aload_n 0, 1) := by decide +kernel
theorem dX3_hasRow_10 : decode cX3_hasRow 10 = .ok (.getfield 23, 3) := by decide +kernel
theorem dX3_hasRow_13 : decode cX3_hasRow 13 = .ok (.iload_n 2, 1) := by decide +kernel
theorem dX3_hasRow_14 : decode cX3_hasRow 14 = .ok (.isub, 1) := by decide +kernel
theorem dX3_hasRow_15 : decode cX3_hasRow 15 = .ok (.if_icmp .gt 7, 3) := by decide +kernel
theorem dX3_hasRow_18 : decode cX3_hasRow 18 = .ok (.iconst 1, 1) := by decide +kernel
theorem dX3_hasRow_19 : decode cX3_hasRow 19 = .ok (.goto 4, 3) := by decide +kernel
theorem dX3_hasRow_22 : decode cX3_hasRow 22 = .ok (.iconst 0, 1) := by decide +kernel
theorem dX3_hasRow_23 : decode cX3_hasRow 23 = .ok (.ireturn, 1) := by decide +kernel
theorem dX3_get_0 : decode cX3_get 0 = .ok (.aload_n 0, 1) := by decide +kernel
theorem dX3_get_1 : decode cX3_get 1 = .ok (.iload_n 1, 1) := by decide +kernel
theorem dX3_get_2 : decode cX3_get 2 = .ok (.invokevirtual 32, 3) := by decide +kernel
theorem dX3_get_5 : decode cX3_get 5 = .ok (.ifCond .eq 12, 3) := by decide +kernel
theorem dX3_get_8 : decode cX3_get 8 = .ok (.aload_n 0, 1) := by decide +kernel
theorem dX3_get_9 : decode cX3_get 9 = .ok (.getfield 9, 3) := by decide +kernel
theorem dX3_get_12 : decode cX3_get 12 = .ok (.iload_n 1, 1) := by decide +kernel
theorem dX3_get_13 : decode cX3_get 13 = .ok (.iaload, 1) := by decide +kernel
theorem dX3_get_14 : decode cX3_get 14 = .ok (.goto 4, 3) := by decide +kernel
theorem dX3_get_17 : decode cX3_get 17 = .ok (.iconst 0, 1) := by decide +kernel
theorem dX3_get_18 : decode cX3_get 18 = .ok (.ireturn, 1) := by decide +kernel
theorem dX3_put_0 : decode cX3_put 0 = .ok (.aload_n 0, 1) := by decide +kernel
theorem dX3_put_1 : decode cX3_put 1 = .ok (.iload_n 1, 1) := by decide +kernel
theorem dX3_put_2 : decode cX3_put 2 = .ok (.invokevirtual 32, 3) := by decide +kernel
theorem dX3_put_5 : decode cX3_put 5 = .ok (.ifCond .ne 4, 3) := by decide +kernel
theorem dX3_put_8 : decode cX3_put 8 = .ok (.return_, 1) := by decide +kernel
theorem dX3_put_9 : decode cX3_put 9 = .ok (.aload_n 0, 1) := by decide +kernel
theorem dX3_put_10 : decode cX3_put 10 = .ok (.getfield 9, 3) := by decide +kernel
theorem dX3_put_13 : decode cX3_put 13 = .ok (.iload_n 1, 1) := by decide +kernel
theorem dX3_put_14 : decode cX3_put 14 = .ok (.aload_n 0, 1) := by decide +kernel
theorem dX3_put_15 : decode cX3_put 15 = .ok (.getfield 13, 3) := by decide +kernel
theorem dX3_put_18 : decode cX3_put 18 = .ok (.ifCond .ne 8, 3) := by decide +kernel
theorem dX3_put_21 : decode cX3_put 21 = .ok (.iload_n 2, 1) := by decide +kernel
theorem dX3_put_22 : decode cX3_put 22 = .ok (.i2b, 1) := by decide +kernel
theorem dX3_put_23 : decode cX3_put 23 = .ok (.goto 17, 3) := by decide +kernel
theorem dX3_put_26 : decode cX3_put 26 = .ok (.aload_n 0, 1) := by decide +kernel
theorem dX3_put_27 : decode cX3_put 27 = .ok (.getfield 13, 3) := by decide +kernel
theorem dX3_put_30 : decode cX3_put 30 = .ok (.iconst 1, 1) := by decide +kernel
theorem dX3_put_31 : decode cX3_put 31 = .ok (.if_icmp .ne 8, 3) := by decide +kernel
theorem dX3_put_34 : decode cX3_put 34 = .ok (.iload_n 2, 1) := by decide +kernel
theorem dX3_put_35 : decode cX3_put 35 = .ok (.i2s, 1) := by decide +kernel
theorem dX3_put_36 : decode cX3_put 36 = .ok (.goto 4, 3) := by decide +kernel
theorem dX3_put_39 : decode cX3_put 39 = .ok (.iload_n 2, 1) := by decide +kernel
theorem dX3_put_40 : decode cX3_put 40 = .ok (.iastore, 1) := by decide +kernel
theorem dX3_put_41 : decode cX3_put 41 = .ok (.return_, 1) := by decide +kernel
theorem dX4_init_0 : decode cX4_init 0 = .ok (.aload_n 0, 1) := by decide +kernel
theorem dX4_init_1 : decode cX4_init 1 = .ok (.invokespecial 1, 3) := by decide +kernel
theorem dX4_init_4 : decode cX4_init 4 = .ok (.aload_n 0, 1) := by decide +kernel
theorem dX4_init_5 : decode cX4_init 5 = .ok (.sipush 160, 3) := by decide +kernel
theorem dX4_init_8 : decode cX4_init 8 = .ok (.newarray .int, 2) := by decide +kernel
theorem dX4_init_10 : decode cX4_init 10 = .ok (.putfield 9, 3) := by decide +kernel
theorem dX4_init_13 : decode cX4_init 13 = .ok (.aload_n 0, 1) := by decide +kernel
theorem dX4_init_14 : decode cX4_init 14 = .ok (.sipush 160, 3) := by decide +kernel
theorem dX4_init_17 : decode cX4_init 17 = .ok (.newarray .int, 2) := by decide +kernel
theorem dX4_init_19 : decode cX4_init 19 = .ok (.putfield 13, 3) := by decide +kernel
theorem dX4_init_22 : decode cX4_init 22 = .ok (.return_, 1) := by decide +kernel
theorem dX4_put_0 : decode cX4_put 0 = .ok (.aload_n 0, 1) := by decide +kernel
theorem dX4_put_1 : decode cX4_put 1 = .ok (.getfield 16, 3) := by decide +kernel
theorem dX4_put_4 : decode cX4_put 4 = .ok (.sipush 160, 3) := by decide +kernel
theorem dX4_put_7 : decode cX4_put 7 = .ok (.if_icmp .lt 4, 3) := by decide +kernel
theorem dX4_put_10 : decode cX4_put 10 = .ok (.return_, 1) := by decide +kernel
theorem dX4_put_11 : decode cX4_put 11 = .ok (.aload_n 0, 1) := by decide +kernel
theorem dX4_put_12 : decode cX4_put 12 = .ok (.getfield 9, 3) := by decide +kernel
theorem dX4_put_15 : decode cX4_put 15 = .ok (.aload_n 0, 1) := by decide +kernel
theorem dX4_put_16 : decode cX4_put 16 = .ok (.getfield 16, 3) := by decide +kernel
theorem dX4_put_19 : decode cX4_put 19 = .ok (.iload_n 1, 1) := by decide +kernel
theorem dX4_put_20 : decode cX4_put 20 = .ok (.iastore, 1) := by decide +kernel
theorem dX4_put_21 : decode cX4_put 21 = .ok (.aload_n 0, 1) := by decide +kernel
theorem dX4_put_22 : decode cX4_put 22 = .ok (.dup, 1) := by decide +kernel
theorem dX4_put_23 : decode cX4_put 23 = .ok (.getfield 16, 3) := by decide +kernel
theorem dX4_put_26 : decode cX4_put 26 = .ok (.iconst 1, 1) := by decide +kernel
theorem dX4_put_27 : decode cX4_put 27 = .ok (.iadd, 1) := by decide +kernel
theorem dX4_put_28 : decode cX4_put 28 = .ok (.putfield 16, 3) := by decide +kernel
theorem dX4_put_31 : decode cX4_put 31 = .ok (.return_, 1) := by decide +kernel
theorem dX4_write_0 : decode cX4_write 0 = .ok (.iconst 0, 1) := by decide +kernel
theorem dX4_write_1 : decode cX4_write 1 = .ok (.istore_n 2, 1) := by decide +kernel
theorem dX4_write_2 : decode cX4_write 2 = .ok (.iload_n 2, 1) := by decide +kernel
theorem dX4_write_3 : decode cX4_write 3 = .ok (.aload_n 1, 1) := by decide +kernel
theorem dX4_write_4 : decode cX4_write 4 = .ok (.invokevirtual 20, 3) := by decide +kernel
theorem dX4_write_7 : decode cX4_write 7 = .ok (.if_icmp .ge 18, 3) := by decide +kernel
theorem dX4_write_10 : decode cX4_write 10 = .ok (.aload_n 0, 1) := by decide +kernel
theorem dX4_write_11 : decode cX4_write 11 = .ok (.aload_n 1, 1) := by decide +kernel
theorem dX4_write_12 : decode cX4_write 12 = .ok (.iload_n 2, 1) := by decide +kernel
theorem dX4_write_13 : decode cX4_write 13 = .ok (.invokevirtual 26, 3) := by decide +kernel
theorem dX4_write_16 : decode cX4_write 16 = .ok (.invokevirtual 30, 3) := by decide +kernel
theorem dX4_write_19 : decode cX4_write 19 = .ok (.iinc 2 1, 3) := by decide +kernel
theorem dX4_write_22 : decode cX4_write 22 = .ok (.goto (-20), 3) := by decide +kernel
theorem dX4_write_25 : decode cX4_write 25 = .ok (.return_, 1) := by decide +kernel
theorem dX4_clear_0 : decode cX4_clear 0 = .ok (.aload_n 0, 1) := by decide +kernel
theorem dX4_clear_1 : decode cX4_clear 1 = .ok (.iconst 0, 1) := by decide +kernel
theorem dX4_clear_2 : decode cX4_clear 2 = .ok (.putfield 16, 3) := by decide +kernel
theorem dX4_clear_5 : decode cX4_clear 5 = .ok (.return_, 1) := by decide +kernel
theorem dX4_read_0 : decode cX4_read 0 = .ok (.aload_n 0, 1) := by decide +kernel
theorem dX4_read_1 : decode cX4_read 1 = .ok (.iconst 0, 1) := by decide +kernel
theorem dX4_read_2 : decode cX4_read 2 = .ok (.putfield 34, 3) := by decide +kernel
theorem dX4_read_5 : decode cX4_read 5 = .ok (.aload_n 0, 1) := by decide +kernel
theorem dX4_read_6 : decode cX4_read 6 = .ok (.iconst 0, 1) := by decide +kernel
theorem dX4_read_7 : decode cX4_read 7 = .ok (.putfield 37, 3) := by decide +kernel
theorem dX4_read_10 : decode cX4_read 10 = .ok (.aload_n 0, 1) := by decide +kernel
theorem dX4_read_11 : decode cX4_read 11 = .ok (.invokevirtual 40, 3) := by decide +kernel
theorem dX4_read_14 : decode cX4_read 14 = .ok (.aload_n 0, 1) := by decide +kernel
theorem dX4_read_15 : decode cX4_read 15 = .ok (.bipush (-19), 2) := by decide +kernel
theorem dX4_read_17 : decode cX4_read 17 = .ok (.invokevirtual 43, 3) := by decide +kernel
theorem dX4_read_20 : decode cX4_read 20 = .ok (.ifCond .ne 5, 3) := by decide +kernel
theorem dX4_read_23 : decode cX4_read 23 = .ok (.aconst_null, 1) := by decide +kernel
theorem dX4_read_24 : decode cX4_read 24 = .ok (.areturn, 1) := by decide +kernel
theorem dX4_read_25 : decode cX4_read 25 = .ok (.aload_n 0, 1) := by decide +kernel
theorem dX4_read_26 : decode cX4_read 26 = .ok (.getfield 37, 3) := by decide +kernel
theorem dX4_read_29 : decode cX4_read 29 = .ok (.istore_n 1, 1) := by decide +kernel
theorem dX4_read_30 : decode cX4_read 30 = .ok (.aload_n 0, 1) := by decide +kernel
theorem dX4_read_31 : decode cX4_read 31 = .ok (.bipush (-20), 2) := by decide +kernel
theorem dX4_read_33 : decode cX4_read 33 = .ok (.invokevirtual 43, 3) := by decide +kernel
theorem dX4_read_36 : decode cX4_read 36 = .ok (.ifCond .ne 5, 3) := by decide +kernel
theorem dX4_read_39 : decode cX4_read 39 = .ok (.aconst_null, 1) := by decide +kernel
theorem dX4_read_40 : decode cX4_read 40 = .ok (.areturn, 1) := by decide +kernel
theorem dX4_read_41 : decode cX4_read 41 = .ok (.aload_n 0, 1) := by decide +kernel
theorem dX4_read_42 : decode cX4_read 42 = .ok (.getfield 37, 3) := by decide +kernel
theorem dX4_read_45 : decode cX4_read 45 = .ok (.istore_n 2, 1) := by decide +kernel
theorem dX4_read_46 : decode cX4_read 46 = .ok (.aload_n 0, 1) := by decide +kernel
theorem dX4_read_47 : decode cX4_read 47 = .ok (.bipush (-21), 2) := by decide +kernel
theorem dX4_read_49 : decode cX4_read 49 = .ok (.invokevirtual 43, 3) := by decide +kernel
theorem dX4_read_52 : decode cX4_read 52 = .ok (.ifCond .eq 12, 3) := by decide +kernel
theorem dX4_read_55 : decode cX4_read 55 = .ok (.aload_n 0, 1) := by decide +kernel
theorem dX4_read_56 : decode cX4_read 56 = .ok (.getfield 47, 3) := by decide +kernel
theorem dX4_read_59 : decode cX4_read 59 = .ok (.bipush (-22), 2) := by decide +kernel
theorem dX4_read_61 : decode cX4_read 61 = .ok (.if_icmp .eq 5, 3) := by decide +kernel
theorem dX4_read_64 : decode cX4_read 64 = .ok (.aconst_null, 1) := by decide +kernel
theorem dX4_read_65 : decode cX4_read 65 = .ok (.areturn, 1) := by decide +kernel
theorem dX4_read_66 : decode cX4_read 66 = .ok (.new 50, 3) := by decide +kernel
theorem dX4_read_69 : decode cX4_read 69 = .ok (.dup, 1) := by decide +kernel
theorem dX4_read_70 : decode cX4_read 70 = .ok (.aload_n 0, 1) := by decide +kernel
theorem dX4_read_71 : decode cX4_read 71 = .ok (.getfield 13, 3) := by decide +kernel
theorem dX4_read_74 : decode cX4_read 74 = .ok (.aload_n 0, 1) := by decide +kernel
theorem dX4_read_75 : decode cX4_read 75 = .ok (.getfield 37, 3) := by decide +kernel
theorem dX4_read_78 : decode cX4_read 78 = .ok (.invokestatic 52, 3) := by decide +kernel
theorem dX4_read_81 : decode cX4_read 81 = .ok (.iload_n 1, 1) := by decide +kernel
theorem dX4_read_82 : decode cX4_read 82 = .ok (.iload_n 2, 1) := by decide +kernel
theorem dX4_read_83 : decode cX4_read 83 = .ok (.invokespecial 58, 3) := by decide +kernel
theorem dX4_read_86 : decode cX4_read 86 = .ok (.areturn, 1) := by decide +kernel
theorem dX4_readPart_0 : decode cX4_readPart 0 = .ok (.aload_n 0, 1) := by decide +kernel
theorem dX4_readPart_1 : decode cX4_readPart 1 = .ok (.iload_n 1, 1) := by decide +kernel
theorem dX4_readPart_2 : decode cX4_readPart 2 = .ok (.invokevirtual 61, 3) := by decide +kernel
theorem dX4_readPart_5 : decode cX4_readPart 5 = .ok (.ifCond .eq 24, 3) := by decide +kernel
theorem dX4_readPart_8 : decode cX4_readPart 8 = .ok (.aload_n 0, 1) := by decide +kernel
theorem dX4_readPart_9 : decode cX4_readPart 9 = .ok (.iconst 0, 1) := by decide +kernel
theorem dX4_readPart_10 : decode cX4_readPart 10 = .ok (.invokevirtual 64, 3) := by decide +kernel
theorem dX4_readPart_13 : decode cX4_readPart 13 = .ok (.ifCond .eq 16, 3) := by decide +kernel
theorem dX4_readPart_16 : decode cX4_readPart 16 = .ok (.aload_n 0, 1) := by decide +kernel
theorem dX4_readPart_17 : decode cX4_readPart 17 = .ok (.bipush (-18), 2) := by decide +kernel
theorem dX4_readPart_19 : decode cX4_readPart 19 = .ok (.invokevirtual 61, 3) := by decide +kernel
theorem dX4_readPart_22 : decode cX4_readPart 22 = .ok (.ifCond .eq 7, 3) := by decide +kernel
theorem dX4_readPart_25 : decode cX4_readPart 25 = .ok (.iconst 1, 1) := by decide +kernel
theorem dX4_readPart_26 : decode cX4_readPart 26 = .ok (.goto 4, 3) := by decide +kernel
theorem dX4_readPart_29 : decode cX4_readPart 29 = .ok (.iconst 0, 1) := by decide +kernel
theorem dX4_readPart_30 : decode cX4_readPart 30 = .ok (.ireturn, 1) := by decide +kernel
theorem dX4_readE_0 : decode cX4_readE 0 = .ok (.aload_n 0, 1) := by decide +kernel
theorem dX4_readE_1 : decode cX4_readE 1 = .ok (.iload_n 1, 1) := by decide +kernel
theorem dX4_readE_2 : decode cX4_readE 2 = .ok (.invokevirtual 67, 3) := by decide +kernel
theorem dX4_readE_5 : decode cX4_readE 5 = .ok (.ifCond .ne 5, 3) := by decide +kernel
theorem dX4_readE_8 : decode cX4_readE 8 = .ok (.iconst 0, 1) := by decide +kernel
theorem dX4_readE_9 : decode cX4_readE 9 = .ok (.ireturn, 1) := by decide +kernel
theorem dX4_readE_10 : decode cX4_readE 10 = .ok (.iconst 0, 1) := by decide +kernel
theorem dX4_readE_11 : decode cX4_readE 11 = .ok (.istore_n 2, 1) := by decide +kernel
theorem dX4_readE_12 : decode cX4_readE 12 = .ok (.iload_n 2, 1) := by decide +kernel
theorem dX4_readE_13 : decode cX4_readE 13 = .ok (.sipush 160, 3) := by decide +kernel
theorem dX4_readE_16 : decode cX4_readE 16 = .ok (.if_icmp .ge 38, 3) := by decide +kernel
theorem dX4_readE_19 : decode cX4_readE 19 = .ok (.aload_n 0, 1) := by decide +kernel
theorem dX4_readE_20 : decode cX4_readE 20 = .ok (.getfield 47, 3) := by decide +kernel
theorem dX4_readE_23 : decode cX4_readE 23 = .ok (.bipush (-7), 2) := by decide +kernel
theorem dX4_readE_25 : decode cX4_readE 25 = .ok (.if_icmp .ne 29, 3) := by decide +kernel
theorem dX4_readE_28 : decode cX4_readE 28 = .ok (.aload_n 0, 1) := by decide +kernel
theorem dX4_readE_29 : decode cX4_readE 29 = .ok (.invokevirtual 40, 3) := by decide +kernel
theorem dX4_readE_32 : decode cX4_readE 32 = .ok (.aload_n 0, 1) := by decide +kernel
theorem dX4_readE_33 : decode cX4_readE 33 = .ok (.iload_n 1, 1) := by decide +kernel
theorem dX4_readE_34 : decode cX4_readE 34 = .ok (.invokevirtual 67, 3) := by decide +kernel
theorem dX4_readE_37 : decode cX4_readE 37 = .ok (.ifCond .ne 5, 3) := by decide +kernel
theorem dX4_readE_40 : decode cX4_readE 40 = .ok (.iconst 0, 1) := by decide +kernel
theorem dX4_readE_41 : decode cX4_readE 41 = .ok (.ireturn, 1) := by decide +kernel
theorem dX4_readE_42 : decode cX4_readE 42 = .ok (.aload_n 0, 1) := by decide +kernel
theorem dX4_readE_43 : decode cX4_readE 43 = .ok (.bipush (-7), 2) := by decide +kernel
theorem dX4_readE_45 : decode cX4_readE 45 = .ok (.invokevirtual 70, 3) := by decide +kernel
theorem dX4_readE_48 : decode cX4_readE 48 = .ok (.iinc 2 1, 3) := by decide +kernel
theorem dX4_readE_51 : decode cX4_readE 51 = .ok (.goto (-39), 3) := by decide +kernel
theorem dX4_readE_54 : decode cX4_readE 54 = .ok (.iconst 1, 1) := by decide +kernel
theorem dX4_readE_55 : decode cX4_readE 55 = .ok (.ireturn, 1) := by decide +kernel
theorem dX4_readAnd_0 : decode cX4_readAnd 0 = .ok (.aload_n 0, 1) := by decide +kernel
theorem dX4_readAnd_1 : decode cX4_readAnd 1 = .ok (.iload_n 1, 1) := by decide +kernel
theorem dX4_readAnd_2 : decode cX4_readAnd 2 = .ok (.invokevirtual 73, 3) := by decide +kernel
theorem dX4_readAnd_5 : decode cX4_readAnd 5 = .ok (.ifCond .ne 5, 3) := by decide +kernel
theorem dX4_readAnd_8 : decode cX4_readAnd 8 = .ok (.iconst 0, 1) := by decide +kernel
theorem dX4_readAnd_9 : decode cX4_readAnd 9 = .ok (.ireturn, 1) := by decide +kernel
theorem dX4_readAnd_10 : decode cX4_readAnd 10 = .ok (.iconst 0, 1) := by decide +kernel
theorem dX4_readAnd_11 : decode cX4_readAnd 11 = .ok (.istore_n 2, 1) := by decide +kernel
theorem dX4_readAnd_12 : decode cX4_readAnd 12 = .ok (.iload_n 2, 1) := by decide +kernel
theorem dX4_readAnd_13 : decode cX4_readAnd 13 = .ok (.sipush 160, 3) := by decide +kernel
theorem dX4_readAnd_16 : decode cX4_readAnd 16 = .ok (.if_icmp .ge 38, 3) := by decide +kernel
theorem dX4_readAnd_19 : decode cX4_readAnd 19 = .ok (.aload_n 0, 1) := by decide +kernel
theorem dX4_readAnd_20 : decode cX4_readAnd 20 = .ok (.getfield 47, 3) := by decide +kernel
theorem dX4_readAnd_23 : decode cX4_readAnd 23 = .ok (.bipush (-8), 2) := by decide +kernel
theorem dX4_readAnd_25 : decode cX4_readAnd 25 = .ok (.if_icmp .ne 29, 3) := by decide +kernel
theorem dX4_readAnd_28 : decode cX4_readAnd 28 = .ok (.aload_n 0, 1) := by decide +kernel
theorem dX4_readAnd_29 : decode cX4_readAnd 29 = .ok (.invokevirtual 40, 3) := by decide +kernel
theorem dX4_readAnd_32 : decode cX4_readAnd 32 = .ok (.aload_n 0, 1) := by decide +kernel
theorem dX4_readAnd_33 : decode cX4_readAnd 33 = .ok (.iload_n 1, 1) := by decide +kernel
theorem dX4_readAnd_34 : decode cX4_readAnd 34 = .ok (.invokevirtual 73, 3) := by decide +kernel
theorem dX4_readAnd_37 : decode cX4_readAnd 37 = .ok (.ifCond .ne 5, 3) := by decide +kernel
theorem dX4_readAnd_40 : decode cX4_readAnd 40 = .ok (.iconst 0, 1) := by decide +kernel
theorem dX4_readAnd_41 : decode cX4_readAnd 41 = .ok (.ireturn, 1) := by decide +kernel
theorem dX4_readAnd_42 : decode cX4_readAnd 42 = .ok (.aload_n 0, 1) := by decide +kernel
theorem dX4_readAnd_43 : decode cX4_readAnd 43 = .ok (.bipush (-8), 2) := by decide +kernel
theorem dX4_readAnd_45 : decode cX4_readAnd 45 = .ok (.invokevirtual 70, 3) := by decide +kernel
theorem dX4_readAnd_48 : decode cX4_readAnd 48 = .ok (.iinc 2 1, 3) := by decide +kernel
theorem dX4_readAnd_51 : decode cX4_readAnd 51 = .ok (.goto (-39), 3) := by decide +kernel
theorem dX4_readAnd_54 : decode cX4_readAnd 54 = .ok (.iconst 1, 1) := by decide +kernel
theorem dX4_readAnd_55 : decode cX4_readAnd 55 = .ok (.ireturn, 1) := by decide +kernel
theorem dX4_readNot_0 : decode cX4_readNot 0 = .ok (.aload_n 0, 1) := by decide +kernel
theorem dX4_readNot_1 : decode cX4_readNot 1 = .ok (.getfield 47, 3) := by decide +kernel
theorem dX4_readNot_4 : decode cX4_readNot 4 = .ok (.bipush (-9), 2) := by decide +kernel
theorem dX4_readNot_6 : decode cX4_readNot 6 = .ok (.if_icmp .ne 34, 3) := by decide +kernel
theorem dX4_readNot_9 : decode cX4_readNot 9 = .ok (.iload_n 1, 1) := by decide +kernel
theorem dX4_readNot_10 : decode cX4_readNot 10 = .ok (.iconst 5, 1) := by decide +kernel
theorem dX4_readNot_11 : decode cX4_readNot 11 = .ok (.if_icmp .lt 5, 3) := by decide +kernel
theorem dX4_readNot_14 : decode cX4_readNot 14 = .ok (.iconst 0, 1) := by decide +kernel
theorem dX4_readNot_15 : decode cX4_readNot 15 = .ok (.ireturn, 1) := by decide +kernel
theorem dX4_readNot_16 : decode cX4_readNot 16 = .ok (.aload_n 0, 1) := by decide +kernel
theorem dX4_readNot_17 : decode cX4_readNot 17 = .ok (.invokevirtual 40, 3) := by decide +kernel
theorem dX4_readNot_20 : decode cX4_readNot 20 = .ok (.aload_n 0, 1) := by decide +kernel
theorem dX4_readNot_21 : decode cX4_readNot 21 = .ok (.iload_n 1, 1) := by decide +kernel
theorem dX4_readNot_22 : decode cX4_readNot 22 = .ok (.iconst 1, 1) := by decide +kernel
theorem dX4_readNot_23 : decode cX4_readNot 23 = .ok (.iadd, 1) := by decide +kernel
theorem dX4_readNot_24 : decode cX4_readNot 24 = .ok (.invokevirtual 73, 3) := by decide +kernel
theorem dX4_readNot_27 : decode cX4_readNot 27 = .ok (.ifCond .ne 5, 3) := by decide +kernel
theorem dX4_readNot_30 : decode cX4_readNot 30 = .ok (.iconst 0, 1) := by decide +kernel
theorem dX4_readNot_31 : decode cX4_readNot 31 = .ok (.ireturn, 1) := by decide +kernel
theorem dX4_readNot_32 : decode cX4_readNot 32 = .ok (.aload_n 0, 1) := by decide +kernel
theorem dX4_readNot_33 : decode cX4_readNot 33 = .ok (.bipush (-9), 2) := by decide +kernel
theorem dX4_readNot_35 : decode cX4_readNot 35 = .ok (.invokevirtual 70, 3) := by decide +kernel
theorem dX4_readNot_38 : decode cX4_readNot 38 = .ok (.iconst 1, 1) := by decide +kernel
theorem dX4_readNot_39 : decode cX4_readNot 39 = .ok (.ireturn, 1) := by decide +kernel
theorem dX4_readNot_40 : decode cX4_readNot 40 = .ok (.aload_n 0, 1) := by decide +kernel
theorem dX4_readNot_41 : decode cX4_readNot 41 = .ok (.iload_n 1, 1) := by decide +kernel
theorem dX4_readNot_42 : decode cX4_readNot 42 = .ok (.invokevirtual 76, 3) := by decide +kernel
theorem dX4_readNot_45 : decode cX4_readNot 45 = .ok (.ifCond .ne 5, 3) := by decide +kernel
theorem dX4_readNot_48 : decode cX4_readNot 48 = .ok (.iconst 0, 1) := by decide +kernel
theorem dX4_readNot_49 : decode cX4_readNot 49 = .ok (.ireturn, 1) := by decide +kernel
theorem dX4_readNot_50 : decode cX4_readNot 50 = .ok (.aload_n 0, 1) := by decide +kernel
theorem dX4_readNot_51 : decode cX4_readNot 51 = .ok (.getfield 47, 3) := by decide +kernel
theorem dX4_readNot_54 : decode cX4_readNot 54 = .ok (.istore_n 2, 1) := by decide +kernel
theorem dX4_readNot_55 : decode cX4_readNot 55 = .ok (.iload_n 2, 1) := by decide +kernel
theorem dX4_readNot_56 : decode cX4_readNot 56 = .ok (.bipush (-10), 2) := by decide +kernel
theorem dX4_readNot_58 : decode cX4_readNot 58 = .ok (.if_icmp .eq 11, 3) := by decide +kernel
theorem dX4_readNot_61 : decode cX4_readNot 61 = .ok (.iload_n 2, 1) := by decide +kernel
theorem dX4_readNot_62 : decode cX4_readNot 62 = .ok (.bipush (-11), 2) := by decide +kernel
theorem dX4_readNot_64 : decode cX4_readNot 64 = .ok (.if_icmp .eq 5, 3) := by decide +kernel
theorem dX4_readNot_67 : decode cX4_readNot 67 = .ok (.iconst 1, 1) := by decide +kernel
theorem dX4_readNot_68 : decode cX4_readNot 68 = .ok (.ireturn, 1) := by decide +kernel
theorem dX4_readNot_69 : decode cX4_readNot 69 = .ok (.aload_n 0, 1) := by decide +kernel
theorem dX4_readNot_70 : decode cX4_readNot 70 = .ok (.invokevirtual 40, 3) := by decide +kernel
theorem dX4_readNot_73 : decode cX4_readNot 73 = .ok (.aload_n 0, 1) := by decide +kernel
theorem dX4_readNot_74 : decode cX4_readNot 74 = .ok (.iload_n 1, 1) := by decide +kernel
theorem dX4_readNot_75 : decode cX4_readNot 75 = .ok (.invokevirtual 76, 3) := by decide +kernel
theorem dX4_readNot_78 : decode cX4_readNot 78 = .ok (.ifCond .ne 5, 3) := by decide +kernel
theorem dX4_readNot_81 : decode cX4_readNot 81 = .ok (.iconst 0, 1) := by decide +kernel
theorem dX4_readNot_82 : decode cX4_readNot 82 = .ok (.ireturn, 1) := by decide +kernel
theorem dX4_readNot_83 : decode cX4_readNot 83 = .ok (.aload_n 0, 1) := by decide +kernel
theorem dX4_readNot_84 : decode cX4_readNot 84 = .ok (.iload_n 2, 1) := by decide +kernel
theorem dX4_readNot_85 : decode cX4_readNot 85 = .ok (.invokevirtual 70, 3) := by decide +kernel
theorem dX4_readNot_88 : decode cX4_readNot 88 = .ok (.iconst 1, 1) := by decide +kernel
theorem dX4_readNot_89 : decode cX4_readNot 89 = .ok (.ireturn, 1) := by decide +kernel
theorem dX4_readSum_0 : decode cX4_readSum 0 = .ok (.aload_n 0, 1) := by decide +kernel
theorem dX4_readSum_1 : decode cX4_readSum 1 = .ok (.iload_n 1, 1) := by decide +kernel
theorem dX4_readSum_2 : decode cX4_readSum 2 = .ok (.invokevirtual 79, 3) := by decide +kernel
theorem dX4_readSum_5 : decode cX4_readSum 5 = .ok (.ifCond .ne 5, 3) := by decide +kernel
theorem dX4_readSum_8 : decode cX4_readSum 8 = .ok (.iconst 0, 1) := by decide +kernel
theorem dX4_readSum_9 : decode cX4_readSum 9 = .ok (.ireturn, 1) := by decide +kernel
theorem dX4_readSum_10 : decode cX4_readSum 10 = .ok (.iconst 0, 1) := by decide +kernel
theorem dX4_readSum_11 : decode cX4_readSum 11 = .ok (.istore_n 2, 1) := by decide +kernel
theorem dX4_readSum_12 : decode cX4_readSum 12 = .ok (.iload_n 2, 1) := by decide +kernel
theorem dX4_readSum_13 : decode cX4_readSum 13 = .ok (.sipush 160, 3) := by decide +kernel
theorem dX4_readSum_16 : decode cX4_readSum 16 = .ok (.if_icmp .ge 51, 3) := by decide +kernel
theorem dX4_readSum_19 : decode cX4_readSum 19 = .ok (.aload_n 0, 1) := by decide +kernel
theorem dX4_readSum_20 : decode cX4_readSum 20 = .ok (.getfield 47, 3) := by decide +kernel
theorem dX4_readSum_23 : decode cX4_readSum 23 = .ok (.bipush (-12), 2) := by decide +kernel
theorem dX4_readSum_25 : decode cX4_readSum 25 = .ok (.if_icmp .eq 12, 3) := by decide +kernel
theorem dX4_readSum_28 : decode cX4_readSum 28 = .ok (.aload_n 0, 1) := by decide +kernel
theorem dX4_readSum_29 : decode cX4_readSum 29 = .ok (.getfield 47, 3) := by decide +kernel
theorem dX4_readSum_32 : decode cX4_readSum 32 = .ok (.bipush (-13), 2) := by decide +kernel
theorem dX4_readSum_34 : decode cX4_readSum 34 = .ok (.if_icmp .ne 33, 3) := by decide +kernel
theorem dX4_readSum_37 : decode cX4_readSum 37 = .ok (.aload_n 0, 1) := by decide +kernel
theorem dX4_readSum_38 : decode cX4_readSum 38 = .ok (.getfield 47, 3) := by decide +kernel
theorem dX4_readSum_41 : decode cX4_readSum 41 = .ok (.istore_n 3, 1) := by decide +kernel
theorem dX4_readSum_42 : decode cX4_readSum 42 = .ok (.aload_n 0, 1) := by decide +kernel
theorem dX4_readSum_43 : decode cX4_readSum 43 = .ok (.invokevirtual 40, 3) := by decide +kernel
theorem dX4_readSum_46 : decode cX4_readSum 46 = .ok (.aload_n 0, 1) := by decide +kernel
theorem dX4_readSum_47 : decode cX4_readSum 47 = .ok (.iload_n 1, 1) := by decide +kernel
theorem dX4_readSum_48 : decode cX4_readSum 48 = .ok (.invokevirtual 79, 3) := by decide +kernel
theorem dX4_readSum_51 : decode cX4_readSum 51 = .ok (.ifCond .ne 5, 3) := by decide +kernel
theorem dX4_readSum_54 : decode cX4_readSum 54 = .ok (.iconst 0, 1) := by decide +kernel
theorem dX4_readSum_55 : decode cX4_readSum 55 = .ok (.ireturn, 1) := by decide +kernel
theorem dX4_readSum_56 : decode cX4_readSum 56 = .ok (.aload_n 0, 1) := by decide +kernel
theorem dX4_readSum_57 : decode cX4_readSum 57 = .ok (.iload_n 3, 1) := by decide +kernel
theorem dX4_readSum_58 : decode cX4_readSum 58 = .ok (.invokevirtual 70, 3) := by decide +kernel
theorem dX4_readSum_61 : decode cX4_readSum 61 = .ok (.iinc 2 1, 3) := by decide +kernel
theorem dX4_readSum_64 : decode cX4_readSum 64 = .ok (.goto (-52), 3) := by decide +kernel
theorem dX4_readSum_67 : decode cX4_readSum 67 = .ok (.iconst 1, 1) := by decide +kernel
theorem dX4_readSum_68 : decode cX4_readSum 68 = .ok (.ireturn, 1) := by decide +kernel
theorem dX4_readTerm_0 : decode cX4_readTerm 0 = .ok (.aload_n 0, 1) := by decide +kernel
theorem dX4_readTerm_1 : decode cX4_readTerm 1 = .ok (.iload_n 1, 1) := by decide +kernel
theorem dX4_readTerm_2 : decode cX4_readTerm 2 = .ok (.invokevirtual 82, 3) := by decide +kernel
theorem dX4_readTerm_5 : decode cX4_readTerm 5 = .ok (.ifCond .ne 5, 3) := by decide +kernel
theorem dX4_readTerm_8 : decode cX4_readTerm 8 = .ok (.iconst 0, 1) := by decide +kernel
theorem dX4_readTerm_9 : decode cX4_readTerm 9 = .ok (.ireturn, 1) := by decide +kernel
theorem dX4_readTerm_10 : decode cX4_readTerm 10 = .ok (.iconst 0, 1) := by decide +kernel
theorem dX4_readTerm_11 : decode cX4_readTerm 11 = .ok (.istore_n 2, 1) := by decide +kernel
theorem dX4_readTerm_12 : decode cX4_readTerm 12 = .ok (.iload_n 2, 1) := by decide +kernel
theorem dX4_readTerm_13 : decode cX4_readTerm 13 = .ok (.sipush 160, 3) := by decide +kernel
theorem dX4_readTerm_16 : decode cX4_readTerm 16 = .ok (.if_icmp .ge 38, 3) := by decide +kernel
theorem dX4_readTerm_19 : decode cX4_readTerm 19 = .ok (.aload_n 0, 1) := by decide +kernel
theorem dX4_readTerm_20 : decode cX4_readTerm 20 = .ok (.getfield 47, 3) := by decide +kernel
theorem dX4_readTerm_23 : decode cX4_readTerm 23 = .ok (.bipush (-14), 2) := by decide +kernel
theorem dX4_readTerm_25 : decode cX4_readTerm 25 = .ok (.if_icmp .ne 29, 3) := by decide +kernel
theorem dX4_readTerm_28 : decode cX4_readTerm 28 = .ok (.aload_n 0, 1) := by decide +kernel
theorem dX4_readTerm_29 : decode cX4_readTerm 29 = .ok (.invokevirtual 40, 3) := by decide +kernel
theorem dX4_readTerm_32 : decode cX4_readTerm 32 = .ok (.aload_n 0, 1) := by decide +kernel
theorem dX4_readTerm_33 : decode cX4_readTerm 33 = .ok (.iload_n 1, 1) := by decide +kernel
theorem dX4_readTerm_34 : decode cX4_readTerm 34 = .ok (.invokevirtual 82, 3) := by decide +kernel
theorem dX4_readTerm_37 : decode cX4_readTerm 37 = .ok (.ifCond .ne 5, 3) := by decide +kernel
theorem dX4_readTerm_40 : decode cX4_readTerm 40 = .ok (.iconst 0, 1) := by decide +kernel
theorem dX4_readTerm_41 : decode cX4_readTerm 41 = .ok (.ireturn, 1) := by decide +kernel
theorem dX4_readTerm_42 : decode cX4_readTerm 42 = .ok (.aload_n 0, 1) := by decide +kernel
theorem dX4_readTerm_43 : decode cX4_readTerm 43 = .ok (.bipush (-14), 2) := by decide +kernel
theorem dX4_readTerm_45 : decode cX4_readTerm 45 = .ok (.invokevirtual 70, 3) := by decide +kernel
theorem dX4_readTerm_48 : decode cX4_readTerm 48 = .ok (.iinc 2 1, 3) := by decide +kernel
theorem dX4_readTerm_51 : decode cX4_readTerm 51 = .ok (.goto (-39), 3) := by decide +kernel
theorem dX4_readTerm_54 : decode cX4_readTerm 54 = .ok (.iconst 1, 1) := by decide +kernel
theorem dX4_readTerm_55 : decode cX4_readTerm 55 = .ok (.ireturn, 1) := by decide +kernel
theorem dX4_readOne_0 : decode cX4_readOne 0 = .ok (.aload_n 0, 1) := by decide +kernel
theorem dX4_readOne_1 : decode cX4_readOne 1 = .ok (.getfield 47, 3) := by decide +kernel
theorem dX4_readOne_4 : decode cX4_readOne 4 = .ok (.bipush (-6), 2) := by decide +kernel
theorem dX4_readOne_6 : decode cX4_readOne 6 = .ok (.if_icmp .lt 17, 3) := by decide +kernel
theorem dX4_readOne_9 : decode cX4_readOne 9 = .ok (.aload_n 0, 1) := by decide +kernel
theorem dX4_readOne_10 : decode cX4_readOne 10 = .ok (.aload_n 0, 1) := by decide +kernel
theorem dX4_readOne_11 : decode cX4_readOne 11 = .ok (.getfield 47, 3) := by decide +kernel
theorem dX4_readOne_14 : decode cX4_readOne 14 = .ok (.invokevirtual 70, 3) := by decide +kernel
theorem dX4_readOne_17 : decode cX4_readOne 17 = .ok (.aload_n 0, 1) := by decide +kernel
theorem dX4_readOne_18 : decode cX4_readOne 18 = .ok (.invokevirtual 40, 3) := by decide +kernel
theorem dX4_readOne_21 : decode cX4_readOne 21 = .ok (.iconst 1, 1) := by decide +kernel
theorem dX4_readOne_22 : decode cX4_readOne 22 = .ok (.ireturn, 1) := by decide +kernel
theorem dX4_readOne_23 : decode cX4_readOne 23 = .ok (.aload_n 0, 1) := by decide +kernel
theorem dX4_readOne_24 : decode cX4_readOne 24 = .ok (.getfield 47, 3) := by decide +kernel
theorem dX4_readOne_27 : decode cX4_readOne 27 = .ok (.bipush (-13), 2) := by decide +kernel
theorem dX4_readOne_29 : decode cX4_readOne 29 = .ok (.if_icmp .eq 12, 3) := by decide +kernel
theorem dX4_readOne_32 : decode cX4_readOne 32 = .ok (.aload_n 0, 1) := by decide +kernel
theorem dX4_readOne_33 : decode cX4_readOne 33 = .ok (.getfield 47, 3) := by decide +kernel
theorem dX4_readOne_36 : decode cX4_readOne 36 = .ok (.bipush (-16), 2) := by decide +kernel
theorem dX4_readOne_38 : decode cX4_readOne 38 = .ok (.if_icmp .ne 8, 3) := by decide +kernel
theorem dX4_readOne_41 : decode cX4_readOne 41 = .ok (.iload_n 1, 1) := by decide +kernel
theorem dX4_readOne_42 : decode cX4_readOne 42 = .ok (.iconst 5, 1) := by decide +kernel
theorem dX4_readOne_43 : decode cX4_readOne 43 = .ok (.if_icmp .lt 5, 3) := by decide +kernel
theorem dX4_readOne_46 : decode cX4_readOne 46 = .ok (.iconst 0, 1) := by decide +kernel
theorem dX4_readOne_47 : decode cX4_readOne 47 = .ok (.ireturn, 1) := by decide +kernel
theorem dX4_readOne_48 : decode cX4_readOne 48 = .ok (.aload_n 0, 1) := by decide +kernel
theorem dX4_readOne_49 : decode cX4_readOne 49 = .ok (.getfield 47, 3) := by decide +kernel
theorem dX4_readOne_52 : decode cX4_readOne 52 = .ok (.bipush (-16), 2) := by decide +kernel
theorem dX4_readOne_54 : decode cX4_readOne 54 = .ok (.if_icmp .ne 34, 3) := by decide +kernel
theorem dX4_readOne_57 : decode cX4_readOne 57 = .ok (.aload_n 0, 1) := by decide +kernel
theorem dX4_readOne_58 : decode cX4_readOne 58 = .ok (.invokevirtual 40, 3) := by decide +kernel
theorem dX4_readOne_61 : decode cX4_readOne 61 = .ok (.aload_n 0, 1) := by decide +kernel
theorem dX4_readOne_62 : decode cX4_readOne 62 = .ok (.iload_n 1, 1) := by decide +kernel
theorem dX4_readOne_63 : decode cX4_readOne 63 = .ok (.iconst 1, 1) := by decide +kernel
theorem dX4_readOne_64 : decode cX4_readOne 64 = .ok (.iadd, 1) := by decide +kernel
theorem dX4_readOne_65 : decode cX4_readOne 65 = .ok (.invokevirtual 64, 3) := by decide +kernel
theorem dX4_readOne_68 : decode cX4_readOne 68 = .ok (.ifCond .eq 12, 3) := by decide +kernel
theorem dX4_readOne_71 : decode cX4_readOne 71 = .ok (.aload_n 0, 1) := by decide +kernel
theorem dX4_readOne_72 : decode cX4_readOne 72 = .ok (.getfield 47, 3) := by decide +kernel
theorem dX4_readOne_75 : decode cX4_readOne 75 = .ok (.bipush (-17), 2) := by decide +kernel
theorem dX4_readOne_77 : decode cX4_readOne 77 = .ok (.if_icmp .eq 5, 3) := by decide +kernel
theorem dX4_readOne_80 : decode cX4_readOne 80 = .ok (.iconst 0, 1) := by decide +kernel
theorem dX4_readOne_81 : decode cX4_readOne 81 = .ok (.ireturn, 1) := by decide +kernel
theorem dX4_readOne_82 : decode cX4_readOne 82 = .ok (.aload_n 0, 1) := by decide +kernel
theorem dX4_readOne_83 : decode cX4_readOne 83 = .ok (.invokevirtual 40, 3) := by decide +kernel
theorem dX4_readOne_86 : decode cX4_readOne 86 = .ok (.iconst 1, 1) := by decide +kernel
theorem dX4_readOne_87 : decode cX4_readOne 87 = .ok (.ireturn, 1) := by decide +kernel
theorem dX4_readOne_88 : decode cX4_readOne 88 = .ok (.aload_n 0, 1) := by decide +kernel
theorem dX4_readOne_89 : decode cX4_readOne 89 = .ok (.invokevirtual 40, 3) := by decide +kernel
theorem dX4_readOne_92 : decode cX4_readOne 92 = .ok (.aload_n 0, 1) := by decide +kernel
theorem dX4_readOne_93 : decode cX4_readOne 93 = .ok (.iload_n 1, 1) := by decide +kernel
theorem dX4_readOne_94 : decode cX4_readOne 94 = .ok (.iconst 1, 1) := by decide +kernel
theorem dX4_readOne_95 : decode cX4_readOne 95 = .ok (.iadd, 1) := by decide +kernel
theorem dX4_readOne_96 : decode cX4_readOne 96 = .ok (.invokevirtual 82, 3) := by decide +kernel
theorem dX4_readOne_99 : decode cX4_readOne 99 = .ok (.ifCond .ne 5, 3) := by decide +kernel
theorem dX4_readOne_102 : decode cX4_readOne 102 = .ok (.iconst 0, 1) := by decide +kernel
theorem dX4_readOne_103 : decode cX4_readOne 103 = .ok (.ireturn, 1) := by decide +kernel
theorem dX4_readOne_104 : decode cX4_readOne 104 = .ok (.aload_n 0, 1) := by decide +kernel
theorem dX4_readOne_105 : decode cX4_readOne 105 = .ok (.bipush (-15), 2) := by decide +kernel
theorem dX4_readOne_107 : decode cX4_readOne 107 = .ok (.invokevirtual 70, 3) := by decide +kernel
theorem dX4_readOne_110 : decode cX4_readOne 110 = .ok (.iconst 1, 1) := by decide +kernel
theorem dX4_readOne_111 : decode cX4_readOne 111 = .ok (.ireturn, 1) := by decide +kernel
theorem dX4_took_0 : decode cX4_took 0 = .ok (.aload_n 0, 1) := by decide +kernel
theorem dX4_took_1 : decode cX4_took 1 = .ok (.getfield 47, 3) := by decide +kernel
theorem dX4_took_4 : decode cX4_took 4 = .ok (.iload_n 1, 1) := by decide +kernel
theorem dX4_took_5 : decode cX4_took 5 = .ok (.if_icmp .eq 5, 3) := by decide +kernel
theorem dX4_took_8 : decode cX4_took 8 = .ok (.iconst 0, 1) := by decide +kernel
theorem dX4_took_9 : decode cX4_took 9 = .ok (.ireturn, 1) := by decide +kernel
theorem dX4_took_10 : decode cX4_took 10 = .ok (.aload_n 0, 1) := by decide +kernel
theorem dX4_took_11 : decode cX4_took 11 = .ok (.invokevirtual 40, 3) := by decide +kernel
theorem dX4_took_14 : decode cX4_took 14 = .ok (.iconst 1, 1) := by decide +kernel
theorem dX4_took_15 : decode cX4_took 15 = .ok (.ireturn, 1) := by decide +kernel
theorem dX4_step_0 : decode cX4_step 0 = .ok (.aload_n 0, 1) := by decide +kernel
theorem dX4_step_1 : decode cX4_step 1 = .ok (.getfield 37, 3) := by decide +kernel
theorem dX4_step_4 : decode cX4_step 4 = .ok (.sipush 160, 3) := by decide +kernel
theorem dX4_step_7 : decode cX4_step 7 = .ok (.if_icmp .lt 4, 3) := by decide +kernel
theorem dX4_step_10 : decode cX4_step 10 = .ok (.return_, 1) := by decide +kernel
theorem dX4_step_11 : decode cX4_step 11 = .ok (.aload_n 0, 1) := by decide +kernel
theorem dX4_step_12 : decode cX4_step 12 = .ok (.getfield 13, 3) := by decide +kernel
theorem dX4_step_15 : decode cX4_step 15 = .ok (.aload_n 0, 1) := by decide +kernel
theorem dX4_step_16 : decode cX4_step 16 = .ok (.getfield 37, 3) := by decide +kernel
theorem dX4_step_19 : decode cX4_step 19 = .ok (.iload_n 1, 1) := by decide +kernel
theorem dX4_step_20 : decode cX4_step 20 = .ok (.iastore, 1) := by decide +kernel
theorem dX4_step_21 : decode cX4_step 21 = .ok (.aload_n 0, 1) := by decide +kernel
theorem dX4_step_22 : decode cX4_step 22 = .ok (.dup, 1) := by decide +kernel
theorem dX4_step_23 : decode cX4_step 23 = .ok (.getfield 37, 3) := by decide +kernel
theorem dX4_step_26 : decode cX4_step 26 = .ok (.iconst 1, 1) := by decide +kernel
theorem dX4_step_27 : decode cX4_step 27 = .ok (.iadd, 1) := by decide +kernel
theorem dX4_step_28 : decode cX4_step 28 = .ok (.putfield 37, 3) := by decide +kernel
theorem dX4_step_31 : decode cX4_step 31 = .ok (.return_, 1) := by decide +kernel
theorem dX4_next_0 : decode cX4_next 0 = .ok (.aload_n 0, 1) := by decide +kernel
theorem dX4_next_1 : decode cX4_next 1 = .ok (.getfield 34, 3) := by decide +kernel
theorem dX4_next_4 : decode cX4_next 4 = .ok (.aload_n 0, 1) := by decide +kernel
theorem dX4_next_5 : decode cX4_next 5 = .ok (.getfield 16, 3) := by decide +kernel
theorem dX4_next_8 : decode cX4_next 8 = .ok (.if_icmp .ge 30, 3) := by decide +kernel
theorem dX4_next_11 : decode cX4_next 11 = .ok (.aload_n 0, 1) := by decide +kernel
theorem dX4_next_12 : decode cX4_next 12 = .ok (.aload_n 0, 1) := by decide +kernel
theorem dX4_next_13 : decode cX4_next 13 = .ok (.getfield 34, 3) := by decide +kernel
theorem dX4_next_16 : decode cX4_next 16 = .ok (.invokevirtual 85, 3) := by decide +kernel
theorem dX4_next_19 : decode cX4_next 19 = .ok (.invokestatic 89, 3) := by decide +kernel
theorem dX4_next_22 : decode cX4_next 22 = .ok (.ifCond .eq 16, 3) := by decide +kernel
theorem dX4_next_25 : decode cX4_next 25 = .ok (.aload_n 0, 1) := by decide +kernel
theorem dX4_next_26 : decode cX4_next 26 = .ok (.dup, 1) := by decide +kernel
theorem dX4_next_27 : decode cX4_next 27 = .ok (.getfield 34, 3) := by decide +kernel
theorem dX4_next_30 : decode cX4_next 30 = .ok (.iconst 1, 1) := by decide +kernel
theorem dX4_next_31 : decode cX4_next 31 = .ok (.iadd, 1) := by decide +kernel
theorem dX4_next_32 : decode cX4_next 32 = .ok (.putfield 34, 3) := by decide +kernel
theorem dX4_next_35 : decode cX4_next 35 = .ok (.goto (-35), 3) := by decide +kernel
theorem dX4_next_38 : decode cX4_next 38 = .ok (.aload_n 0, 1) := by decide +kernel
theorem dX4_next_39 : decode cX4_next 39 = .ok (.aload_n 0, 1) := by decide +kernel
theorem dX4_next_40 : decode cX4_next 40 = .ok (.getfield 34, 3) := by decide +kernel
theorem dX4_next_43 : decode cX4_next 43 = .ok (.putfield 92, 3) := by decide +kernel
theorem dX4_next_46 : decode cX4_next 46 = .ok (.aload_n 0, 1) := by decide +kernel
theorem dX4_next_47 : decode cX4_next 47 = .ok (.getfield 34, 3) := by decide +kernel
theorem dX4_next_50 : decode cX4_next 50 = .ok (.aload_n 0, 1) := by decide +kernel
theorem dX4_next_51 : decode cX4_next 51 = .ok (.getfield 16, 3) := by decide +kernel
theorem dX4_next_54 : decode cX4_next 54 = .ok (.if_icmp .lt 12, 3) := by decide +kernel
theorem dX4_next_57 : decode cX4_next 57 = .ok (.aload_n 0, 1) := by decide +kernel
theorem dX4_next_58 : decode cX4_next 58 = .ok (.bipush (-22), 2) := by decide +kernel
theorem dX4_next_60 : decode cX4_next 60 = .ok (.putfield 47, 3) := by decide +kernel
theorem dX4_next_63 : decode cX4_next 63 = .ok (.goto 78, 3) := by decide +kernel
theorem dX4_next_66 : decode cX4_next 66 = .ok (.aload_n 0, 1) := by decide +kernel
theorem dX4_next_67 : decode cX4_next 67 = .ok (.aload_n 0, 1) := by decide +kernel
theorem dX4_next_68 : decode cX4_next 68 = .ok (.getfield 34, 3) := by decide +kernel
theorem dX4_next_71 : decode cX4_next 71 = .ok (.invokevirtual 85, 3) := by decide +kernel
theorem dX4_next_74 : decode cX4_next 74 = .ok (.invokestatic 95, 3) := by decide +kernel
theorem dX4_next_77 : decode cX4_next 77 = .ok (.ifCond .eq 14, 3) := by decide +kernel
theorem dX4_next_80 : decode cX4_next 80 = .ok (.aload_n 0, 1) := by decide +kernel
theorem dX4_next_81 : decode cX4_next 81 = .ok (.aload_n 0, 1) := by decide +kernel
theorem dX4_next_82 : decode cX4_next 82 = .ok (.invokevirtual 98, 3) := by decide +kernel
theorem dX4_next_85 : decode cX4_next 85 = .ok (.putfield 47, 3) := by decide +kernel
theorem dX4_next_88 : decode cX4_next 88 = .ok (.goto 53, 3) := by decide +kernel
theorem dX4_next_91 : decode cX4_next 91 = .ok (.aload_n 0, 1) := by decide +kernel
theorem dX4_next_92 : decode cX4_next 92 = .ok (.aload_n 0, 1) := by decide +kernel
theorem dX4_next_93 : decode cX4_next 93 = .ok (.getfield 34, 3) := by decide +kernel
theorem dX4_next_96 : decode cX4_next 96 = .ok (.invokevirtual 85, 3) := by decide +kernel
theorem dX4_next_99 : decode cX4_next 99 = .ok (.invokestatic 101, 3) := by decide +kernel
theorem dX4_next_102 : decode cX4_next 102 = .ok (.ifCond .eq 14, 3) := by decide +kernel
theorem dX4_next_105 : decode cX4_next 105 = .ok (.aload_n 0, 1) := by decide +kernel
theorem dX4_next_106 : decode cX4_next 106 = .ok (.aload_n 0, 1) := by decide +kernel
theorem dX4_next_107 : decode cX4_next 107 = .ok (.invokevirtual 104, 3) := by decide +kernel
theorem dX4_next_110 : decode cX4_next 110 = .ok (.putfield 47, 3) := by decide +kernel
theorem dX4_next_113 : decode cX4_next 113 = .ok (.goto 28, 3) := by decide +kernel
theorem dX4_next_116 : decode cX4_next 116 = .ok (.aload_n 0, 1) := by decide +kernel
theorem dX4_next_117 : decode cX4_next 117 = .ok (.aload_n 0, 1) := by decide +kernel
theorem dX4_next_118 : decode cX4_next 118 = .ok (.aload_n 0, 1) := by decide +kernel
theorem dX4_next_119 : decode cX4_next 119 = .ok (.getfield 34, 3) := by decide +kernel
theorem dX4_next_122 : decode cX4_next 122 = .ok (.invokevirtual 85, 3) := by decide +kernel
theorem dX4_next_125 : decode cX4_next 125 = .ok (.invokestatic 107, 3) := by decide +kernel
theorem dX4_next_128 : decode cX4_next 128 = .ok (.putfield 47, 3) := by decide +kernel
theorem dX4_next_131 : decode cX4_next 131 = .ok (.aload_n 0, 1) := by decide +kernel
theorem dX4_next_132 : decode cX4_next 132 = .ok (.dup, 1) := by decide +kernel
theorem dX4_next_133 : decode cX4_next 133 = .ok (.getfield 34, 3) := by decide +kernel
theorem dX4_next_136 : decode cX4_next 136 = .ok (.iconst 1, 1) := by decide +kernel
theorem dX4_next_137 : decode cX4_next 137 = .ok (.iadd, 1) := by decide +kernel
theorem dX4_next_138 : decode cX4_next 138 = .ok (.putfield 34, 3) := by decide +kernel
theorem dX4_next_141 : decode cX4_next 141 = .ok (.return_, 1) := by decide +kernel
theorem dX4_number_0 : decode cX4_number 0 = .ok (.iconst 0, 1) := by decide +kernel
theorem dX4_number_1 : decode cX4_number 1 = .ok (.istore_n 1, 1) := by decide +kernel
theorem dX4_number_2 : decode cX4_number 2 = .ok (.aload_n 0, 1) := by decide +kernel
theorem dX4_number_3 : decode cX4_number 3 = .ok (.getfield 34, 3) := by decide +kernel
theorem dX4_number_6 : decode cX4_number 6 = .ok (.aload_n 0, 1) := by decide +kernel
theorem dX4_number_7 : decode cX4_number 7 = .ok (.getfield 16, 3) := by decide +kernel
theorem dX4_number_10 : decode cX4_number 10 = .ok (.if_icmp .ge 60, 3) := by decide +kernel
theorem dX4_number_13 : decode cX4_number 13 = .ok (.aload_n 0, 1) := by decide +kernel
theorem dX4_number_14 : decode cX4_number 14 = .ok (.aload_n 0, 1) := by decide +kernel
theorem dX4_number_15 : decode cX4_number 15 = .ok (.getfield 34, 3) := by decide +kernel
theorem dX4_number_18 : decode cX4_number 18 = .ok (.invokevirtual 85, 3) := by decide +kernel
theorem dX4_number_21 : decode cX4_number 21 = .ok (.invokestatic 101, 3) := by decide +kernel
theorem dX4_number_24 : decode cX4_number 24 = .ok (.ifCond .eq 46, 3) := by decide +kernel
theorem dX4_number_27 : decode cX4_number 27 = .ok (.aload_n 0, 1) := by decide +kernel
theorem dX4_number_28 : decode cX4_number 28 = .ok (.getfield 34, 3) := by decide +kernel
theorem dX4_number_31 : decode cX4_number 31 = .ok (.aload_n 0, 1) := by decide +kernel
theorem dX4_number_32 : decode cX4_number 32 = .ok (.getfield 92, 3) := by decide +kernel
theorem dX4_number_35 : decode cX4_number 35 = .ok (.isub, 1) := by decide +kernel
theorem dX4_number_36 : decode cX4_number 36 = .ok (.iconst 4, 1) := by decide +kernel
theorem dX4_number_37 : decode cX4_number 37 = .ok (.if_icmp .ge 20, 3) := by decide +kernel
theorem dX4_number_40 : decode cX4_number 40 = .ok (.bipush 10, 2) := by decide +kernel
theorem dX4_number_42 : decode cX4_number 42 = .ok (.iload_n 1, 1) := by decide +kernel
theorem dX4_number_43 : decode cX4_number 43 = .ok (.imul, 1) := by decide +kernel
theorem dX4_number_44 : decode cX4_number 44 = .ok (.aload_n 0, 1) := by decide +kernel
theorem dX4_number_45 : decode cX4_number 45 = .ok (.aload_n 0, 1) := by decide +kernel
theorem dX4_number_46 : decode cX4_number 46 = .ok (.getfield 34, 3) := by decide +kernel
theorem dX4_number_49 : decode cX4_number 49 = .ok (.invokevirtual 85, 3) := by decide +kernel
theorem dX4_number_52 : decode cX4_number 52 = .ok (.iadd, 1) := by decide +kernel
theorem dX4_number_53 : decode cX4_number 53 = .ok (.bipush 48, 2) := by decide +kernel
theorem dX4_number_55 : decode cX4_number 55 = .ok (.isub, 1) := by decide +kernel
theorem dX4_number_56 : decode cX4_number 56 = .ok (.istore_n 1, 1) := by decide +kernel
theorem dX4_number_57 : decode cX4_number 57 = .ok (.aload_n 0, 1) := by decide +kernel
theorem dX4_number_58 : decode cX4_number 58 = .ok (.dup, 1) := by decide +kernel
theorem dX4_number_59 : decode cX4_number 59 = .ok (.getfield 34, 3) := by decide +kernel
theorem dX4_number_62 : decode cX4_number 62 = .ok (.iconst 1, 1) := by decide +kernel
theorem dX4_number_63 : decode cX4_number 63 = .ok (.iadd, 1) := by decide +kernel
theorem dX4_number_64 : decode cX4_number 64 = .ok (.putfield 34, 3) := by decide +kernel
theorem dX4_number_67 : decode cX4_number 67 = .ok (.goto (-65), 3) := by decide +kernel
theorem dX4_number_70 : decode cX4_number 70 = .ok (.aload_n 0, 1) := by decide +kernel
theorem dX4_number_71 : decode cX4_number 71 = .ok (.getfield 34, 3) := by decide +kernel
theorem dX4_number_74 : decode cX4_number 74 = .ok (.aload_n 0, 1) := by decide +kernel
theorem dX4_number_75 : decode cX4_number 75 = .ok (.getfield 92, 3) := by decide +kernel
theorem dX4_number_78 : decode cX4_number 78 = .ok (.isub, 1) := by decide +kernel
theorem dX4_number_79 : decode cX4_number 79 = .ok (.iconst 4, 1) := by decide +kernel
theorem dX4_number_80 : decode cX4_number 80 = .ok (.if_icmp .le 8, 3) := by decide +kernel
theorem dX4_number_83 : decode cX4_number 83 = .ok (.bipush (-23), 2) := by decide +kernel
theorem dX4_number_85 : decode cX4_number 85 = .ok (.goto 4, 3) := by decide +kernel
theorem dX4_number_88 : decode cX4_number 88 = .ok (.iload_n 1, 1) := by decide +kernel
theorem dX4_number_89 : decode cX4_number 89 = .ok (.ireturn, 1) := by decide +kernel
theorem dX4_word_0 : decode cX4_word 0 = .ok (.aload_n 0, 1) := by decide +kernel
theorem dX4_word_1 : decode cX4_word 1 = .ok (.getfield 34, 3) := by decide +kernel
theorem dX4_word_4 : decode cX4_word 4 = .ok (.aload_n 0, 1) := by decide +kernel
theorem dX4_word_5 : decode cX4_word 5 = .ok (.getfield 16, 3) := by decide +kernel
theorem dX4_word_8 : decode cX4_word 8 = .ok (.if_icmp .ge 30, 3) := by decide +kernel
theorem dX4_word_11 : decode cX4_word 11 = .ok (.aload_n 0, 1) := by decide +kernel
theorem dX4_word_12 : decode cX4_word 12 = .ok (.aload_n 0, 1) := by decide +kernel
theorem dX4_word_13 : decode cX4_word 13 = .ok (.getfield 34, 3) := by decide +kernel
theorem dX4_word_16 : decode cX4_word 16 = .ok (.invokevirtual 85, 3) := by decide +kernel
theorem dX4_word_19 : decode cX4_word 19 = .ok (.invokestatic 95, 3) := by decide +kernel
theorem dX4_word_22 : decode cX4_word 22 = .ok (.ifCond .eq 16, 3) := by decide +kernel
theorem dX4_word_25 : decode cX4_word 25 = .ok (.aload_n 0, 1) := by decide +kernel
theorem dX4_word_26 : decode cX4_word 26 = .ok (.dup, 1) := by decide +kernel
theorem dX4_word_27 : decode cX4_word 27 = .ok (.getfield 34, 3) := by decide +kernel
theorem dX4_word_30 : decode cX4_word 30 = .ok (.iconst 1, 1) := by decide +kernel
theorem dX4_word_31 : decode cX4_word 31 = .ok (.iadd, 1) := by decide +kernel
theorem dX4_word_32 : decode cX4_word 32 = .ok (.putfield 34, 3) := by decide +kernel
theorem dX4_word_35 : decode cX4_word 35 = .ok (.goto (-35), 3) := by decide +kernel
theorem dX4_word_38 : decode cX4_word 38 = .ok (.aload_n 0, 1) := by decide +kernel
theorem dX4_word_39 : decode cX4_word 39 = .ok (.ldc 110, 2) := by decide +kernel
theorem dX4_word_41 : decode cX4_word 41 = .ok (.invokevirtual 112, 3) := by decide +kernel
theorem dX4_word_44 : decode cX4_word 44 = .ok (.ifCond .eq 5, 3) := by decide +kernel
theorem dX4_word_47 : decode cX4_word 47 = .ok (.iconst (-1), 1) := by decide +kernel
theorem dX4_word_48 : decode cX4_word 48 = .ok (.ireturn, 1) := by decide +kernel
theorem dX4_word_49 : decode cX4_word 49 = .ok (.aload_n 0, 1) := by decide +kernel
theorem dX4_word_50 : decode cX4_word 50 = .ok (.ldc 116, 2) := by decide +kernel
theorem dX4_word_52 : decode cX4_word 52 = .ok (.invokevirtual 112, 3) := by decide +kernel
theorem dX4_word_55 : decode cX4_word 55 = .ok (.ifCond .eq 6, 3) := by decide +kernel
theorem dX4_word_58 : decode cX4_word 58 = .ok (.bipush (-2), 2) := by decide +kernel
theorem dX4_word_60 : decode cX4_word 60 = .ok (.ireturn, 1) := by decide +kernel
theorem dX4_word_61 : decode cX4_word 61 = .ok (.aload_n 0, 1) := by decide +kernel
theorem dX4_word_62 : decode cX4_word 62 = .ok (.ldc 118, 2) := by decide +kernel
theorem dX4_word_64 : decode cX4_word 64 = .ok (.invokevirtual 112, 3) := by decide +kernel
theorem dX4_word_67 : decode cX4_word 67 = .ok (.ifCond .eq 6, 3) := by decide +kernel
theorem dX4_word_70 : decode cX4_word 70 = .ok (.bipush (-3), 2) := by decide +kernel
theorem dX4_word_72 : decode cX4_word 72 = .ok (.ireturn, 1) := by decide +kernel
theorem dX4_word_73 : decode cX4_word 73 = .ok (.aload_n 0, 1) := by decide +kernel
theorem dX4_word_74 : decode cX4_word 74 = .ok (.ldc 120, 2) := by decide +kernel
theorem dX4_word_76 : decode cX4_word 76 = .ok (.invokevirtual 112, 3) := by decide +kernel
theorem dX4_word_79 : decode cX4_word 79 = .ok (.ifCond .eq 6, 3) := by decide +kernel
theorem dX4_word_82 : decode cX4_word 82 = .ok (.bipush (-4), 2) := by decide +kernel
theorem dX4_word_84 : decode cX4_word 84 = .ok (.ireturn, 1) := by decide +kernel
theorem dX4_word_85 : decode cX4_word 85 = .ok (.aload_n 0, 1) := by decide +kernel
theorem dX4_word_86 : decode cX4_word 86 = .ok (.ldc 122, 2) := by decide +kernel
theorem dX4_word_88 : decode cX4_word 88 = .ok (.invokevirtual 112, 3) := by decide +kernel
theorem dX4_word_91 : decode cX4_word 91 = .ok (.ifCond .eq 6, 3) := by decide +kernel
theorem dX4_word_94 : decode cX4_word 94 = .ok (.bipush (-5), 2) := by decide +kernel
theorem dX4_word_96 : decode cX4_word 96 = .ok (.ireturn, 1) := by decide +kernel
theorem dX4_word_97 : decode cX4_word 97 = .ok (.aload_n 0, 1) := by decide +kernel
theorem dX4_word_98 : decode cX4_word 98 = .ok (.ldc 124, 2) := by decide +kernel
theorem dX4_word_100 : decode cX4_word 100 = .ok (.invokevirtual 112, 3) := by decide +kernel
theorem dX4_word_103 : decode cX4_word 103 = .ok (.ifCond .eq 6, 3) := by decide +kernel
theorem dX4_word_106 : decode cX4_word 106 = .ok (.bipush (-6), 2) := by decide +kernel
theorem dX4_word_108 : decode cX4_word 108 = .ok (.ireturn, 1) := by decide +kernel
theorem dX4_word_109 : decode cX4_word 109 = .ok (.aload_n 0, 1) := by decide +kernel
theorem dX4_word_110 : decode cX4_word 110 = .ok (.ldc 126, 2) := by decide +kernel
theorem dX4_word_112 : decode cX4_word 112 = .ok (.invokevirtual 112, 3) := by decide +kernel
theorem dX4_word_115 : decode cX4_word 115 = .ok (.ifCond .eq 6, 3) := by decide +kernel
theorem dX4_word_118 : decode cX4_word 118 = .ok (.bipush (-7), 2) := by decide +kernel
theorem dX4_word_120 : decode cX4_word 120 = .ok (.ireturn, 1) := by decide +kernel
theorem dX4_word_121 : decode cX4_word 121 = .ok (.aload_n 0, 1) := by decide +kernel
theorem dX4_word_122 : decode cX4_word 122 = .ok (.ldc 128, 2) := by decide +kernel
theorem dX4_word_124 : decode cX4_word 124 = .ok (.invokevirtual 112, 3) := by decide +kernel
theorem dX4_word_127 : decode cX4_word 127 = .ok (.ifCond .eq 6, 3) := by decide +kernel
theorem dX4_word_130 : decode cX4_word 130 = .ok (.bipush (-8), 2) := by decide +kernel
theorem dX4_word_132 : decode cX4_word 132 = .ok (.ireturn, 1) := by decide +kernel
theorem dX4_word_133 : decode cX4_word 133 = .ok (.aload_n 0, 1) := by decide +kernel
theorem dX4_word_134 : decode cX4_word 134 = .ok (.ldc 130, 2) := by decide +kernel
theorem dX4_word_136 : decode cX4_word 136 = .ok (.invokevirtual 112, 3) := by decide +kernel
theorem dX4_word_139 : decode cX4_word 139 = .ok (.ifCond .eq 6, 3) := by decide +kernel
theorem dX4_word_142 : decode cX4_word 142 = .ok (.bipush (-9), 2) := by decide +kernel
theorem dX4_word_144 : decode cX4_word 144 = .ok (.ireturn, 1) := by decide +kernel
theorem dX4_word_145 : decode cX4_word 145 = .ok (.aload_n 0, 1) := by decide +kernel
theorem dX4_word_146 : decode cX4_word 146 = .ok (.ldc 132, 2) := by decide +kernel
theorem dX4_word_148 : decode cX4_word 148 = .ok (.invokevirtual 112, 3) := by decide +kernel
theorem dX4_word_151 : decode cX4_word 151 = .ok (.ifCond .eq 6, 3) := by decide +kernel
theorem dX4_word_154 : decode cX4_word 154 = .ok (.bipush (-19), 2) := by decide +kernel
theorem dX4_word_156 : decode cX4_word 156 = .ok (.ireturn, 1) := by decide +kernel
theorem dX4_word_157 : decode cX4_word 157 = .ok (.aload_n 0, 1) := by decide +kernel
theorem dX4_word_158 : decode cX4_word 158 = .ok (.ldc 134, 2) := by decide +kernel
theorem dX4_word_160 : decode cX4_word 160 = .ok (.invokevirtual 112, 3) := by decide +kernel
theorem dX4_word_163 : decode cX4_word 163 = .ok (.ifCond .eq 6, 3) := by decide +kernel
theorem dX4_word_166 : decode cX4_word 166 = .ok (.bipush (-20), 2) := by decide +kernel
theorem dX4_word_168 : decode cX4_word 168 = .ok (.ireturn, 1) := by decide +kernel
theorem dX4_word_169 : decode cX4_word 169 = .ok (.aload_n 0, 1) := by decide +kernel
theorem dX4_word_170 : decode cX4_word 170 = .ok (.ldc 136, 2) := by decide +kernel
theorem dX4_word_172 : decode cX4_word 172 = .ok (.invokevirtual 112, 3) := by decide +kernel
theorem dX4_word_175 : decode cX4_word 175 = .ok (.ifCond .eq 8, 3) := by decide +kernel
theorem dX4_word_178 : decode cX4_word 178 = .ok (.bipush (-21), 2) := by decide +kernel
theorem dX4_word_180 : decode cX4_word 180 = .ok (.goto 5, 3) := by decide +kernel
theorem dX4_word_183 : decode cX4_word 183 = .ok (.bipush (-23), 2) := by decide +kernel
theorem dX4_word_185 : decode cX4_word 185 = .ok (.ireturn, 1) := by decide +kernel
theorem dX4_isWord_0 : decode cX4_isWord 0 = .ok (.aload_n 1, 1) := by decide +kernel
theorem dX4_isWord_1 : decode cX4_isWord 1 = .ok (.invokevirtual 20, 3) := by decide +kernel
theorem dX4_isWord_4 : decode cX4_isWord 4 = .ok (.aload_n 0, 1) := by decide +kernel
theorem dX4_isWord_5 : decode cX4_isWord 5 = .ok (.getfield 34, 3) := by decide +kernel
theorem dX4_isWord_8 : decode cX4_isWord 8 = .ok (.aload_n 0, 1) := by decide +kernel
theorem dX4_isWord_9 : decode cX4_isWord 9 = .ok (.getfield 92, 3) := by decide +kernel
theorem dX4_isWord_12 : decode cX4_isWord 12 = .ok (.isub, 1) := by decide +kernel
theorem dX4_isWord_13 : decode cX4_isWord 13 = .ok (.if_icmp .eq 5, 3) := by decide +kernel
theorem dX4_isWord_16 : decode cX4_isWord 16 = .ok (.iconst 0, 1) := by decide +kernel
theorem dX4_isWord_17 : decode cX4_isWord 17 = .ok (.ireturn, 1) := by decide +kernel
theorem dX4_isWord_18 : decode cX4_isWord 18 = .ok (.iconst 0, 1) := by decide +kernel
theorem dX4_isWord_19 : decode cX4_isWord 19 = .ok (.istore_n 2, 1) := by decide +kernel
theorem dX4_isWord_20 : decode cX4_isWord 20 = .ok (.iload_n 2, 1) := by decide +kernel
theorem dX4_isWord_21 : decode cX4_isWord 21 = .ok (.aload_n 1, 1) := by decide +kernel
theorem dX4_isWord_22 : decode cX4_isWord 22 = .ok (.invokevirtual 20, 3) := by decide +kernel
theorem dX4_isWord_25 : decode cX4_isWord 25 = .ok (.if_icmp .ge 43, 3) := by decide +kernel
theorem dX4_isWord_28 : decode cX4_isWord 28 = .ok (.aload_n 0, 1) := by decide +kernel
theorem dX4_isWord_29 : decode cX4_isWord 29 = .ok (.getfield 92, 3) := by decide +kernel
theorem dX4_isWord_32 : decode cX4_isWord 32 = .ok (.iload_n 2, 1) := by decide +kernel
theorem dX4_isWord_33 : decode cX4_isWord 33 = .ok (.iadd, 1) := by decide +kernel
theorem dX4_isWord_34 : decode cX4_isWord 34 = .ok (.istore_n 3, 1) := by decide +kernel
theorem dX4_isWord_35 : decode cX4_isWord 35 = .ok (.iload_n 3, 1) := by decide +kernel
theorem dX4_isWord_36 : decode cX4_isWord 36 = .ok (.ifCond .lt 24, 3) := by decide +kernel
theorem dX4_isWord_39 : decode cX4_isWord 39 = .ok (.iload_n 3, 1) := by decide +kernel
theorem dX4_isWord_40 : decode cX4_isWord 40 = .ok (.sipush 160, 3) := by decide +kernel
theorem dX4_isWord_43 : decode cX4_isWord 43 = .ok (.if_icmp .ge 17, 3) := by decide +kernel
theorem dX4_isWord_46 : decode cX4_isWord 46 = .ok (.aload_n 1, 1) := by decide +kernel
theorem dX4_isWord_47 : decode cX4_isWord 47 = .ok (.iload_n 2, 1) := by decide +kernel
theorem dX4_isWord_48 : decode cX4_isWord 48 = .ok (.invokevirtual 26, 3) := by decide +kernel
theorem dX4_isWord_51 : decode cX4_isWord 51 = .ok (.aload_n 0, 1) := by decide +kernel
theorem dX4_isWord_52 : decode cX4_isWord 52 = .ok (.getfield 9, 3) := by decide +kernel
theorem dX4_isWord_55 : decode cX4_isWord 55 = .ok (.iload_n 3, 1) := by decide +kernel
theorem dX4_isWord_56 : decode cX4_isWord 56 = .ok (.iaload, 1) := by decide +kernel
theorem dX4_isWord_57 : decode cX4_isWord 57 = .ok (.if_icmp .eq 5, 3) := by decide +kernel
theorem dX4_isWord_60 : decode cX4_isWord 60 = .ok (.iconst 0, 1) := by decide +kernel
theorem dX4_isWord_61 : decode cX4_isWord 61 = .ok (.ireturn, 1) := by decide +kernel
theorem dX4_isWord_62 : decode cX4_isWord 62 = .ok (.iinc 2 1, 3) := by decide +kernel
theorem dX4_isWord_65 : decode cX4_isWord 65 = .ok (.goto (-45), 3) := by decide +kernel
theorem dX4_isWord_68 : decode cX4_isWord 68 = .ok (.iconst 1, 1) := by decide +kernel
theorem dX4_isWord_69 : decode cX4_isWord 69 = .ok (.ireturn, 1) := by decide +kernel
theorem dX4_sign_0 : decode cX4_sign 0 = .ok (.iload_n 0, 1) := by decide +kernel
theorem dX4_sign_1 : decode cX4_sign 1 = .ok (.tableswitch 127 40 61 #[103, 106, 118, 112, 127, 115, 127, 127, 127, 127, 127, 127, 127, 127, 127, 127, 127, 127, 127, 109, 121, 124], 103) := by decide +kernel
theorem dX4_sign_104 : decode cX4_sign 104 = .ok (.bipush (-16), 2) := by decide +kernel
theorem dX4_sign_106 : decode cX4_sign 106 = .ok (.ireturn, 1) := by decide +kernel
theorem dX4_sign_107 : decode cX4_sign 107 = .ok (.bipush (-17), 2) := by decide +kernel
theorem dX4_sign_109 : decode cX4_sign 109 = .ok (.ireturn, 1) := by decide +kernel
theorem dX4_sign_110 : decode cX4_sign 110 = .ok (.bipush (-18), 2) := by decide +kernel
theorem dX4_sign_112 : decode cX4_sign 112 = .ok (.ireturn, 1) := by decide +kernel
theorem dX4_sign_113 : decode cX4_sign 113 = .ok (.bipush (-12), 2) := by decide +kernel
theorem dX4_sign_115 : decode cX4_sign 115 = .ok (.ireturn, 1) := by decide +kernel
theorem dX4_sign_116 : decode cX4_sign 116 = .ok (.bipush (-13), 2) := by decide +kernel
theorem dX4_sign_118 : decode cX4_sign 118 = .ok (.ireturn, 1) := by decide +kernel
theorem dX4_sign_119 : decode cX4_sign 119 = .ok (.bipush (-14), 2) := by decide +kernel
theorem dX4_sign_121 : decode cX4_sign 121 = .ok (.ireturn, 1) := by decide +kernel
theorem dX4_sign_122 : decode cX4_sign 122 = .ok (.bipush (-10), 2) := by decide +kernel
theorem dX4_sign_124 : decode cX4_sign 124 = .ok (.ireturn, 1) := by decide +kernel
theorem dX4_sign_125 : decode cX4_sign 125 = .ok (.bipush (-11), 2) := by decide +kernel
theorem dX4_sign_127 : decode cX4_sign 127 = .ok (.ireturn, 1) := by decide +kernel
theorem dX4_sign_128 : decode cX4_sign 128 = .ok (.bipush (-23), 2) := by decide +kernel
theorem dX4_sign_130 : decode cX4_sign 130 = .ok (.ireturn, 1) := by decide +kernel
theorem dX4_byteAt_0 : decode cX4_byteAt 0 = .ok (.iload_n 1, 1) := by decide +kernel
theorem dX4_byteAt_1 : decode cX4_byteAt 1 = .ok (.ifCond .lt 19, 3) := by decide +kernel
theorem dX4_byteAt_4 : decode cX4_byteAt 4 = .ok (.iload_n 1, 1) := by decide +kernel
theorem dX4_byteAt_5 : decode cX4_byteAt 5 = .ok (.sipush 160, 3) := by decide +kernel
theorem dX4_byteAt_8 : decode cX4_byteAt 8 = .ok (.if_icmp .ge 12, 3) := by decide +kernel
theorem dX4_byteAt_11 : decode cX4_byteAt 11 = .ok (.aload_n 0, 1) := by decide +kernel
theorem dX4_byteAt_12 : decode cX4_byteAt 12 = .ok (.getfield 9, 3) := by decide +kernel
theorem dX4_byteAt_15 : decode cX4_byteAt 15 = .ok (.iload_n 1, 1) := by decide +kernel
theorem dX4_byteAt_16 : decode cX4_byteAt 16 = .ok (.iaload, 1) := by decide +kernel
theorem dX4_byteAt_17 : decode cX4_byteAt 17 = .ok (.goto 4, 3) := by decide +kernel
theorem dX4_byteAt_20 : decode cX4_byteAt 20 = .ok (.iconst 0, 1) := by decide +kernel
theorem dX4_byteAt_21 : decode cX4_byteAt 21 = .ok (.ireturn, 1) := by decide +kernel
theorem dX4_isBlank_0 : decode cX4_isBlank 0 = .ok (.iload_n 0, 1) := by decide +kernel
theorem dX4_isBlank_1 : decode cX4_isBlank 1 = .ok (.bipush 32, 2) := by decide +kernel
theorem dX4_isBlank_3 : decode cX4_isBlank 3 = .ok (.if_icmp .eq 9, 3) := by decide +kernel
theorem dX4_isBlank_6 : decode cX4_isBlank 6 = .ok (.iload_n 0, 1) := by decide +kernel
theorem dX4_isBlank_7 : decode cX4_isBlank 7 = .ok (.bipush 10, 2) := by decide +kernel
theorem dX4_isBlank_9 : decode cX4_isBlank 9 = .ok (.if_icmp .ne 7, 3) := by decide +kernel
theorem dX4_isBlank_12 : decode cX4_isBlank 12 = .ok (.iconst 1, 1) := by decide +kernel
theorem dX4_isBlank_13 : decode cX4_isBlank 13 = .ok (.goto 4, 3) := by decide +kernel
theorem dX4_isBlank_16 : decode cX4_isBlank 16 = .ok (.iconst 0, 1) := by decide +kernel
theorem dX4_isBlank_17 : decode cX4_isBlank 17 = .ok (.ireturn, 1) := by decide +kernel
theorem dX4_isLetter_0 : decode cX4_isLetter 0 = .ok (.iload_n 0, 1) := by decide +kernel
theorem dX4_isLetter_1 : decode cX4_isLetter 1 = .ok (.bipush 97, 2) := by decide +kernel
theorem dX4_isLetter_3 : decode cX4_isLetter 3 = .ok (.if_icmp .lt 13, 3) := by decide +kernel
theorem dX4_isLetter_6 : decode cX4_isLetter 6 = .ok (.iload_n 0, 1) := by decide +kernel
theorem dX4_isLetter_7 : decode cX4_isLetter 7 = .ok (.bipush 122, 2) := by decide +kernel
theorem dX4_isLetter_9 : decode cX4_isLetter 9 = .ok (.if_icmp .gt 7, 3) := by decide +kernel
theorem dX4_isLetter_12 : decode cX4_isLetter 12 = .ok (.iconst 1, 1) := by decide +kernel
theorem dX4_isLetter_13 : decode cX4_isLetter 13 = .ok (.goto 4, 3) := by decide +kernel
theorem dX4_isLetter_16 : decode cX4_isLetter 16 = .ok (.iconst 0, 1) := by decide +kernel
theorem dX4_isLetter_17 : decode cX4_isLetter 17 = .ok (.ireturn, 1) := by decide +kernel
theorem dX4_isDigit_0 : decode cX4_isDigit 0 = .ok (.iload_n 0, 1) := by decide +kernel
theorem dX4_isDigit_1 : decode cX4_isDigit 1 = .ok (.bipush 48, 2) := by decide +kernel
theorem dX4_isDigit_3 : decode cX4_isDigit 3 = .ok (.if_icmp .lt 13, 3) := by decide +kernel
theorem dX4_isDigit_6 : decode cX4_isDigit 6 = .ok (.iload_n 0, 1) := by decide +kernel
theorem dX4_isDigit_7 : decode cX4_isDigit 7 = .ok (.bipush 57, 2) := by decide +kernel
theorem dX4_isDigit_9 : decode cX4_isDigit 9 = .ok (.if_icmp .gt 7, 3) := by decide +kernel
theorem dX4_isDigit_12 : decode cX4_isDigit 12 = .ok (.iconst 1, 1) := by decide +kernel
theorem dX4_isDigit_13 : decode cX4_isDigit 13 = .ok (.goto 4, 3) := by decide +kernel
theorem dX4_isDigit_16 : decode cX4_isDigit 16 = .ok (.iconst 0, 1) := by decide +kernel
theorem dX4_isDigit_17 : decode cX4_isDigit 17 = .ok (.ireturn, 1) := by decide +kernel
theorem dX5_init_0 : decode cX5_init 0 = .ok (.aload_n 0, 1) := by decide +kernel
theorem dX5_init_1 : decode cX5_init 1 = .ok (.invokespecial 3, 3) := by decide +kernel
theorem dX5_init_4 : decode cX5_init 4 = .ok (.aload_n 0, 1) := by decide +kernel
theorem dX5_init_5 : decode cX5_init 5 = .ok (.bipush 32, 2) := by decide +kernel
theorem dX5_init_7 : decode cX5_init 7 = .ok (.newarray .int, 2) := by decide +kernel
theorem dX5_init_9 : decode cX5_init 9 = .ok (.putfield 11, 3) := by decide +kernel
theorem dX5_init_12 : decode cX5_init 12 = .ok (.aload_n 0, 1) := by decide +kernel
theorem dX5_init_13 : decode cX5_init 13 = .ok (.aload_n 1, 1) := by decide +kernel
theorem dX5_init_14 : decode cX5_init 14 = .ok (.putfield 15, 3) := by decide +kernel
theorem dX5_init_17 : decode cX5_init 17 = .ok (.aload_n 0, 1) := by decide +kernel
theorem dX5_init_18 : decode cX5_init 18 = .ok (.iload_n 2, 1) := by decide +kernel
theorem dX5_init_19 : decode cX5_init 19 = .ok (.putfield 18, 3) := by decide +kernel
theorem dX5_init_22 : decode cX5_init 22 = .ok (.aload_n 0, 1) := by decide +kernel
theorem dX5_init_23 : decode cX5_init 23 = .ok (.iload_n 3, 1) := by decide +kernel
theorem dX5_init_24 : decode cX5_init 24 = .ok (.putfield 22, 3) := by decide +kernel
theorem dX5_init_27 : decode cX5_init 27 = .ok (.return_, 1) := by decide +kernel
theorem dX5_says_0 : decode cX5_says 0 = .ok (.iload_n 1, 1) := by decide +kernel
theorem dX5_says_1 : decode cX5_says 1 = .ok (.lookupswitch 67 #[(0, 27), (1, 47)], 27) := by decide +kernel
theorem dX5_says_28 : decode cX5_says 28 = .ok (.aload_n 0, 1) := by decide +kernel
theorem dX5_says_29 : decode cX5_says 29 = .ok (.iconst 0, 1) := by decide +kernel
theorem dX5_says_30 : decode cX5_says 30 = .ok (.aload_n 0, 1) := by decide +kernel
theorem dX5_says_31 : decode cX5_says 31 = .ok (.getfield 18, 3) := by decide +kernel
theorem dX5_says_34 : decode cX5_says 34 = .ok (.aload_n 2, 1) := by decide +kernel
theorem dX5_says_35 : decode cX5_says 35 = .ok (.invokevirtual 25, 3) := by decide +kernel
theorem dX5_says_38 : decode cX5_says 38 = .ok (.sipush (-999), 3) := by decide +kernel
theorem dX5_says_41 : decode cX5_says 41 = .ok (.sipush 999, 3) := by decide +kernel
theorem dX5_says_44 : decode cX5_says 44 = .ok (.invokestatic 29, 3) := by decide +kernel
theorem dX5_says_47 : decode cX5_says 47 = .ok (.ireturn, 1) := by decide +kernel
theorem dX5_says_48 : decode cX5_says 48 = .ok (.aload_n 0, 1) := by decide +kernel
theorem dX5_says_49 : decode cX5_says 49 = .ok (.aload_n 0, 1) := by decide +kernel
theorem dX5_says_50 : decode cX5_says 50 = .ok (.getfield 18, 3) := by decide +kernel
theorem dX5_says_53 : decode cX5_says 53 = .ok (.aload_n 0, 1) := by decide +kernel
theorem dX5_says_54 : decode cX5_says 54 = .ok (.getfield 22, 3) := by decide +kernel
theorem dX5_says_57 : decode cX5_says 57 = .ok (.aload_n 2, 1) := by decide +kernel
theorem dX5_says_58 : decode cX5_says 58 = .ok (.invokevirtual 25, 3) := by decide +kernel
theorem dX5_says_61 : decode cX5_says 61 = .ok (.iconst 0, 1) := by decide +kernel
theorem dX5_says_62 : decode cX5_says 62 = .ok (.bipush 99, 2) := by decide +kernel
theorem dX5_says_64 : decode cX5_says 64 = .ok (.invokestatic 29, 3) := by decide +kernel
theorem dX5_says_67 : decode cX5_says 67 = .ok (.ireturn, 1) := by decide +kernel
theorem dX5_says_68 : decode cX5_says 68 = .ok (.aload_n 0, 1) := by decide +kernel
theorem dX5_says_69 : decode cX5_says 69 = .ok (.aload_n 0, 1) := by decide +kernel
theorem dX5_says_70 : decode cX5_says 70 = .ok (.getfield 22, 3) := by decide +kernel
theorem dX5_says_73 : decode cX5_says 73 = .ok (.aload_n 0, 1) := by decide +kernel
theorem dX5_says_74 : decode cX5_says 74 = .ok (.getfield 15, 3) := by decide +kernel
theorem dX5_says_77 : decode cX5_says 77 = .ok (.arraylength, 1) := by decide +kernel
theorem dX5_says_78 : decode cX5_says 78 = .ok (.aload_n 2, 1) := by decide +kernel
theorem dX5_says_79 : decode cX5_says 79 = .ok (.invokevirtual 25, 3) := by decide +kernel
theorem dX5_says_82 : decode cX5_says 82 = .ok (.iconst 0, 1) := by decide +kernel
theorem dX5_says_83 : decode cX5_says 83 = .ok (.bipush 99, 2) := by decide +kernel
theorem dX5_says_85 : decode cX5_says 85 = .ok (.invokestatic 29, 3) := by decide +kernel
theorem dX5_says_88 : decode cX5_says 88 = .ok (.ireturn, 1) := by decide +kernel
theorem dX5_valueOf_0 : decode cX5_valueOf 0 = .ok (.iload_n 1, 1) := by decide +kernel
theorem dX5_valueOf_1 : decode cX5_valueOf 1 = .ok (.ifCond .lt 10, 3) := by decide +kernel
theorem dX5_valueOf_4 : decode cX5_valueOf 4 = .ok (.aload_n 3, 1) := by decide +kernel
theorem dX5_valueOf_5 : decode cX5_valueOf 5 = .ok (.arraylength, 1) := by decide +kernel
theorem dX5_valueOf_6 : decode cX5_valueOf 6 = .ok (.bipush 6, 2) := by decide +kernel
theorem dX5_valueOf_8 : decode cX5_valueOf 8 = .ok (.if_icmp .ge 5, 3) := by decide +kernel
theorem dX5_valueOf_11 : decode cX5_valueOf 11 = .ok (.iconst 0, 1) := by decide +kernel
theorem dX5_valueOf_12 : decode cX5_valueOf 12 = .ok (.ireturn, 1) := by decide +kernel
theorem dX5_valueOf_13 : decode cX5_valueOf 13 = .ok (.iconst 0, 1) := by decide +kernel
theorem dX5_valueOf_14 : decode cX5_valueOf 14 = .ok (.istore 4, 2) := by decide +kernel
theorem dX5_valueOf_16 : decode cX5_valueOf 16 = .ok (.iload_n 1, 1) := by decide +kernel
theorem dX5_valueOf_17 : decode cX5_valueOf 17 = .ok (.istore 5, 2) := by decide +kernel
theorem dX5_valueOf_19 : decode cX5_valueOf 19 = .ok (.iload 5, 2) := by decide +kernel
theorem dX5_valueOf_21 : decode cX5_valueOf 21 = .ok (.iload_n 2, 1) := by decide +kernel
theorem dX5_valueOf_22 : decode cX5_valueOf 22 = .ok (.if_icmp .ge 185, 3) := by decide +kernel
theorem dX5_valueOf_25 : decode cX5_valueOf 25 = .ok (.iload 5, 2) := by decide +kernel
theorem dX5_valueOf_27 : decode cX5_valueOf 27 = .ok (.aload_n 0, 1) := by decide +kernel
theorem dX5_valueOf_28 : decode cX5_valueOf 28 = .ok (.getfield 15, 3) := by decide +kernel
theorem dX5_valueOf_31 : decode cX5_valueOf 31 = .ok (.arraylength, 1) := by decide +kernel
theorem dX5_valueOf_32 : decode cX5_valueOf 32 = .ok (.if_icmp .ge 175, 3) := by decide +kernel
theorem dX5_valueOf_35 : decode cX5_valueOf 35 = .ok (.aload_n 0, 1) := by decide +kernel
theorem dX5_valueOf_36 : decode cX5_valueOf 36 = .ok (.getfield 15, 3) := by decide +kernel
theorem dX5_valueOf_39 : decode cX5_valueOf 39 = .ok (.iload 5, 2) := by decide +kernel
theorem dX5_valueOf_41 : decode cX5_valueOf 41 = .ok (.iaload, 1) := by decide +kernel
theorem dX5_valueOf_42 : decode cX5_valueOf 42 = .ok (.istore 6, 2) := by decide +kernel
theorem dX5_valueOf_44 : decode cX5_valueOf 44 = .ok (.iload 6, 2) := by decide +kernel
theorem dX5_valueOf_46 : decode cX5_valueOf 46 = .ok (.bipush (-6), 2) := by decide +kernel
theorem dX5_valueOf_48 : decode cX5_valueOf 48 = .ok (.if_icmp .lt 39, 3) := by decide +kernel
theorem dX5_valueOf_51 : decode cX5_valueOf 51 = .ok (.iload 4, 2) := by decide +kernel
theorem dX5_valueOf_53 : decode cX5_valueOf 53 = .ok (.bipush 32, 2) := by decide +kernel
theorem dX5_valueOf_55 : decode cX5_valueOf 55 = .ok (.if_icmp .ge 32, 3) := by decide +kernel
theorem dX5_valueOf_58 : decode cX5_valueOf 58 = .ok (.aload_n 0, 1) := by decide +kernel
theorem dX5_valueOf_59 : decode cX5_valueOf 59 = .ok (.getfield 11, 3) := by decide +kernel
theorem dX5_valueOf_62 : decode cX5_valueOf 62 = .ok (.iload 4, 2) := by decide +kernel
theorem dX5_valueOf_64 : decode cX5_valueOf 64 = .ok (.iload 6, 2) := by decide +kernel
theorem dX5_valueOf_66 : decode cX5_valueOf 66 = .ok (.ifCond .lt 8, 3) := by decide +kernel
theorem dX5_valueOf_69 : decode cX5_valueOf 69 = .ok (.iload 6, 2) := by decide +kernel
theorem dX5_valueOf_71 : decode cX5_valueOf 71 = .ok (.goto 9, 3) := by decide +kernel
theorem dX5_valueOf_74 : decode cX5_valueOf 74 = .ok (.aload_n 3, 1) := by decide +kernel
theorem dX5_valueOf_75 : decode cX5_valueOf 75 = .ok (.iconst (-1), 1) := by decide +kernel
theorem dX5_valueOf_76 : decode cX5_valueOf 76 = .ok (.iload 6, 2) := by decide +kernel
theorem dX5_valueOf_78 : decode cX5_valueOf 78 = .ok (.isub, 1) := by decide +kernel
theorem dX5_valueOf_79 : decode cX5_valueOf 79 = .ok (.iaload, 1) := by decide +kernel
theorem dX5_valueOf_80 : decode cX5_valueOf 80 = .ok (.iastore, 1) := by decide +kernel
theorem dX5_valueOf_81 : decode cX5_valueOf 81 = .ok (.iinc 4 1, 3) := by decide +kernel
theorem dX5_valueOf_84 : decode cX5_valueOf 84 = .ok (.goto 117, 3) := by decide +kernel
theorem dX5_valueOf_87 : decode cX5_valueOf 87 = .ok (.iload 6, 2) := by decide +kernel
theorem dX5_valueOf_89 : decode cX5_valueOf 89 = .ok (.bipush (-9), 2) := by decide +kernel
theorem dX5_valueOf_91 : decode cX5_valueOf 91 = .ok (.if_icmp .ne 37, 3) := by decide +kernel
theorem dX5_valueOf_94 : decode cX5_valueOf 94 = .ok (.iload 4, 2) := by decide +kernel
theorem dX5_valueOf_96 : decode cX5_valueOf 96 = .ok (.ifCond .le 32, 3) := by decide +kernel
theorem dX5_valueOf_99 : decode cX5_valueOf 99 = .ok (.aload_n 0, 1) := by decide +kernel
theorem dX5_valueOf_100 : decode cX5_valueOf 100 = .ok (.getfield 11, 3) := by decide +kernel
theorem dX5_valueOf_103 : decode cX5_valueOf 103 = .ok (.iload 4, 2) := by decide +kernel
theorem dX5_valueOf_105 : decode cX5_valueOf 105 = .ok (.iconst 1, 1) := by decide +kernel
theorem dX5_valueOf_106 : decode cX5_valueOf 106 = .ok (.isub, 1) := by decide +kernel
theorem dX5_valueOf_107 : decode cX5_valueOf 107 = .ok (.aload_n 0, 1) := by decide +kernel
theorem dX5_valueOf_108 : decode cX5_valueOf 108 = .ok (.getfield 11, 3) := by decide +kernel
theorem dX5_valueOf_111 : decode cX5_valueOf 111 = .ok (.iload 4, 2) := by decide +kernel
theorem dX5_valueOf_113 : decode cX5_valueOf 113 = .ok (.iconst 1, 1) := by decide +kernel
theorem dX5_valueOf_114 : decode cX5_valueOf 114 = .ok (.isub, 1) := by decide +kernel
theorem dX5_valueOf_115 : decode cX5_valueOf 115 = .ok (.iaload, 1) := by decide +kernel
theorem dX5_valueOf_116 : decode cX5_valueOf 116 = .ok (.ifCond .ne 7, 3) := by decide +kernel
theorem dX5_valueOf_119 : decode cX5_valueOf 119 = .ok (.iconst 1, 1) := by decide +kernel
theorem dX5_valueOf_120 : decode cX5_valueOf 120 = .ok (.goto 4, 3) := by decide +kernel
theorem dX5_valueOf_123 : decode cX5_valueOf 123 = .ok (.iconst 0, 1) := by decide +kernel
theorem dX5_valueOf_124 : decode cX5_valueOf 124 = .ok (.iastore, 1) := by decide +kernel
theorem dX5_valueOf_125 : decode cX5_valueOf 125 = .ok (.goto 76, 3) := by decide +kernel
theorem dX5_valueOf_128 : decode cX5_valueOf 128 = .ok (.iload 6, 2) := by decide +kernel
theorem dX5_valueOf_130 : decode cX5_valueOf 130 = .ok (.bipush (-15), 2) := by decide +kernel
theorem dX5_valueOf_132 : decode cX5_valueOf 132 = .ok (.if_icmp .ne 30, 3) := by decide +kernel
theorem dX5_valueOf_135 : decode cX5_valueOf 135 = .ok (.iload 4, 2) := by decide +kernel
theorem dX5_valueOf_137 : decode cX5_valueOf 137 = .ok (.ifCond .le 25, 3) := by decide +kernel
theorem dX5_valueOf_140 : decode cX5_valueOf 140 = .ok (.aload_n 0, 1) := by decide +kernel
theorem dX5_valueOf_141 : decode cX5_valueOf 141 = .ok (.getfield 11, 3) := by decide +kernel
theorem dX5_valueOf_144 : decode cX5_valueOf 144 = .ok (.iload 4, 2) := by decide +kernel
theorem dX5_valueOf_146 : decode cX5_valueOf 146 = .ok (.iconst 1, 1) := by decide +kernel
theorem dX5_valueOf_147 : decode cX5_valueOf 147 = .ok (.isub, 1) := by decide +kernel
theorem dX5_valueOf_148 : decode cX5_valueOf 148 = .ok (.aload_n 0, 1) := by decide +kernel
theorem dX5_valueOf_149 : decode cX5_valueOf 149 = .ok (.getfield 11, 3) := by decide +kernel
theorem dX5_valueOf_152 : decode cX5_valueOf 152 = .ok (.iload 4, 2) := by decide +kernel
theorem dX5_valueOf_154 : decode cX5_valueOf 154 = .ok (.iconst 1, 1) := by decide +kernel
theorem dX5_valueOf_155 : decode cX5_valueOf 155 = .ok (.isub, 1) := by decide +kernel
theorem dX5_valueOf_156 : decode cX5_valueOf 156 = .ok (.iaload, 1) := by decide +kernel
theorem dX5_valueOf_157 : decode cX5_valueOf 157 = .ok (.ineg, 1) := by decide +kernel
theorem dX5_valueOf_158 : decode cX5_valueOf 158 = .ok (.iastore, 1) := by decide +kernel
theorem dX5_valueOf_159 : decode cX5_valueOf 159 = .ok (.goto 42, 3) := by decide +kernel
theorem dX5_valueOf_162 : decode cX5_valueOf 162 = .ok (.iload 4, 2) := by decide +kernel
theorem dX5_valueOf_164 : decode cX5_valueOf 164 = .ok (.iconst 1, 1) := by decide +kernel
theorem dX5_valueOf_165 : decode cX5_valueOf 165 = .ok (.if_icmp .le 36, 3) := by decide +kernel
theorem dX5_valueOf_168 : decode cX5_valueOf 168 = .ok (.iinc 4 (-1), 3) := by decide +kernel
theorem dX5_valueOf_171 : decode cX5_valueOf 171 = .ok (.aload_n 0, 1) := by decide +kernel
theorem dX5_valueOf_172 : decode cX5_valueOf 172 = .ok (.getfield 11, 3) := by decide +kernel
theorem dX5_valueOf_175 : decode cX5_valueOf 175 = .ok (.iload 4, 2) := by decide +kernel
theorem dX5_valueOf_177 : decode cX5_valueOf 177 = .ok (.iconst 1, 1) := by decide +kernel
theorem dX5_valueOf_178 : decode cX5_valueOf 178 = .ok (.isub, 1) := by decide +kernel
theorem dX5_valueOf_179 : decode cX5_valueOf 179 = .ok (.iload 6, 2) := by decide +kernel
theorem dX5_valueOf_181 : decode cX5_valueOf 181 = .ok (.aload_n 0, 1) := by decide +kernel
theorem dX5_valueOf_182 : decode cX5_valueOf 182 = .ok (.getfield 11, 3) := by decide +kernel
theorem dX5_valueOf_185 : decode cX5_valueOf 185 = .ok (.iload 4, 2) := by decide +kernel
theorem dX5_valueOf_187 : decode cX5_valueOf 187 = .ok (.iconst 1, 1) := by decide +kernel
theorem dX5_valueOf_188 : decode cX5_valueOf 188 = .ok (.isub, 1) := by decide +kernel
theorem dX5_valueOf_189 : decode cX5_valueOf 189 = .ok (.iaload, 1) := by decide +kernel
theorem dX5_valueOf_190 : decode cX5_valueOf 190 = .ok (.aload_n 0, 1) := by decide +kernel
theorem dX5_valueOf_191 : decode cX5_valueOf 191 = .ok (.getfield 11, 3) := by decide +kernel
theorem dX5_valueOf_194 : decode cX5_valueOf 194 = .ok (.iload 4, 2) := by decide +kernel
theorem dX5_valueOf_196 : decode cX5_valueOf 196 = .ok (.iaload, 1) := by decide +kernel
theorem dX5_valueOf_197 : decode cX5_valueOf 197 = .ok (.invokestatic 33, 3) := by decide +kernel
theorem dX5_valueOf_200 : decode cX5_valueOf 200 = .ok (.iastore, 1) := by decide +kernel
theorem dX5_valueOf_201 : decode cX5_valueOf 201 = .ok (.iinc 5 1, 3) := by decide +kernel
theorem dX5_valueOf_204 : decode cX5_valueOf 204 = .ok (.goto (-185), 3) := by decide +kernel
theorem dX5_valueOf_207 : decode cX5_valueOf 207 = .ok (.aload_n 0, 1) := by decide +kernel
theorem dX5_valueOf_208 : decode cX5_valueOf 208 = .ok (.getfield 11, 3) := by decide +kernel
theorem dX5_valueOf_211 : decode cX5_valueOf 211 = .ok (.iconst 0, 1) := by decide +kernel
theorem dX5_valueOf_212 : decode cX5_valueOf 212 = .ok (.iaload, 1) := by decide +kernel
theorem dX5_valueOf_213 : decode cX5_valueOf 213 = .ok (.ireturn, 1) := by decide +kernel
theorem dX5_joined_0 : decode cX5_joined 0 = .ok (.iload_n 0, 1) := by decide +kernel
theorem dX5_joined_1 : decode cX5_joined 1 = .ok (.tableswitch 101 (-13) (-7) #[97, 93, 82, 71, 101, 57, 43], 43) := by decide +kernel
theorem dX5_joined_44 : decode cX5_joined 44 = .ok (.iload_n 1, 1) := by decide +kernel
theorem dX5_joined_45 : decode cX5_joined 45 = .ok (.ifCond .ne 7, 3) := by decide +kernel
theorem dX5_joined_48 : decode cX5_joined 48 = .ok (.iload_n 2, 1) := by decide +kernel
theorem dX5_joined_49 : decode cX5_joined 49 = .ok (.ifCond .eq 7, 3) := by decide +kernel
theorem dX5_joined_52 : decode cX5_joined 52 = .ok (.iconst 1, 1) := by decide +kernel
theorem dX5_joined_53 : decode cX5_joined 53 = .ok (.goto 4, 3) := by decide +kernel
theorem dX5_joined_56 : decode cX5_joined 56 = .ok (.iconst 0, 1) := by decide +kernel
theorem dX5_joined_57 : decode cX5_joined 57 = .ok (.ireturn, 1) := by decide +kernel
theorem dX5_joined_58 : decode cX5_joined 58 = .ok (.iload_n 1, 1) := by decide +kernel
theorem dX5_joined_59 : decode cX5_joined 59 = .ok (.ifCond .eq 11, 3) := by decide +kernel
theorem dX5_joined_62 : decode cX5_joined 62 = .ok (.iload_n 2, 1) := by decide +kernel
theorem dX5_joined_63 : decode cX5_joined 63 = .ok (.ifCond .eq 7, 3) := by decide +kernel
theorem dX5_joined_66 : decode cX5_joined 66 = .ok (.iconst 1, 1) := by decide +kernel
theorem dX5_joined_67 : decode cX5_joined 67 = .ok (.goto 4, 3) := by decide +kernel
theorem dX5_joined_70 : decode cX5_joined 70 = .ok (.iconst 0, 1) := by decide +kernel
theorem dX5_joined_71 : decode cX5_joined 71 = .ok (.ireturn, 1) := by decide +kernel
theorem dX5_joined_72 : decode cX5_joined 72 = .ok (.iload_n 1, 1) := by decide +kernel
theorem dX5_joined_73 : decode cX5_joined 73 = .ok (.iload_n 2, 1) := by decide +kernel
theorem dX5_joined_74 : decode cX5_joined 74 = .ok (.if_icmp .ge 7, 3) := by decide +kernel
theorem dX5_joined_77 : decode cX5_joined 77 = .ok (.iconst 1, 1) := by decide +kernel
theorem dX5_joined_78 : decode cX5_joined 78 = .ok (.goto 4, 3) := by decide +kernel
theorem dX5_joined_81 : decode cX5_joined 81 = .ok (.iconst 0, 1) := by decide +kernel
theorem dX5_joined_82 : decode cX5_joined 82 = .ok (.ireturn, 1) := by decide +kernel
theorem dX5_joined_83 : decode cX5_joined 83 = .ok (.iload_n 1, 1) := by decide +kernel
theorem dX5_joined_84 : decode cX5_joined 84 = .ok (.iload_n 2, 1) := by decide +kernel
theorem dX5_joined_85 : decode cX5_joined 85 = .ok (.if_icmp .ne 7, 3) := by decide +kernel
theorem dX5_joined_88 : decode cX5_joined 88 = .ok (.iconst 1, 1) := by decide +kernel
theorem dX5_joined_89 : decode cX5_joined 89 = .ok (.goto 4, 3) := by decide +kernel
theorem dX5_joined_92 : decode cX5_joined 92 = .ok (.iconst 0, 1) := by decide +kernel
theorem dX5_joined_93 : decode cX5_joined 93 = .ok (.ireturn, 1) := by decide +kernel
theorem dX5_joined_94 : decode cX5_joined 94 = .ok (.iload_n 1, 1) := by decide +kernel
theorem dX5_joined_95 : decode cX5_joined 95 = .ok (.iload_n 2, 1) := by decide +kernel
theorem dX5_joined_96 : decode cX5_joined 96 = .ok (.iadd, 1) := by decide +kernel
theorem dX5_joined_97 : decode cX5_joined 97 = .ok (.ireturn, 1) := by decide +kernel
theorem dX5_joined_98 : decode cX5_joined 98 = .ok (.iload_n 1, 1) := by decide +kernel
theorem dX5_joined_99 : decode cX5_joined 99 = .ok (.iload_n 2, 1) := by decide +kernel
theorem dX5_joined_100 : decode cX5_joined 100 = .ok (.isub, 1) := by decide +kernel
theorem dX5_joined_101 : decode cX5_joined 101 = .ok (.ireturn, 1) := by decide +kernel
theorem dX5_joined_102 : decode cX5_joined 102 = .ok (.iload_n 1, 1) := by decide +kernel
theorem dX5_joined_103 : decode cX5_joined 103 = .ok (.iload_n 2, 1) := by decide +kernel
theorem dX5_joined_104 : decode cX5_joined 104 = .ok (.imul, 1) := by decide +kernel
theorem dX5_joined_105 : decode cX5_joined 105 = .ok (.ireturn, 1) := by decide +kernel
theorem dJ6_compare_7cf53_0 : decode cJ6_compare_7cf53 0 = .ok (.iload_n 0, 1) := by decide +kernel
theorem dJ6_compare_7cf53_1 : decode cJ6_compare_7cf53 1 = .ok (.iload_n 1, 1) := by decide +kernel
theorem dJ6_compare_7cf53_2 : decode cJ6_compare_7cf53 2 = .ok (.if_icmp .ge 7, 3) := by decide +kernel
theorem dJ6_compare_7cf53_5 : decode cJ6_compare_7cf53 5 = .ok (.iconst (-1), 1) := by decide +kernel
theorem dJ6_compare_7cf53_6 : decode cJ6_compare_7cf53 6 = .ok (.goto 13, 3) := by decide +kernel
theorem dJ6_compare_7cf53_9 : decode cJ6_compare_7cf53 9 = .ok (.iload_n 0, 1) := by decide +kernel
theorem dJ6_compare_7cf53_10 : decode cJ6_compare_7cf53 10 = .ok (.iload_n 1, 1) := by decide +kernel
theorem dJ6_compare_7cf53_11 : decode cJ6_compare_7cf53 11 = .ok (.if_icmp .ne 7, 3) := by decide +kernel
theorem dJ6_compare_7cf53_14 : decode cJ6_compare_7cf53 14 = .ok (.iconst 0, 1) := by decide +kernel
theorem dJ6_compare_7cf53_15 : decode cJ6_compare_7cf53 15 = .ok (.goto 4, 3) := by decide +kernel
theorem dJ6_compare_7cf53_18 : decode cJ6_compare_7cf53 18 = .ok (.iconst 1, 1) := by decide +kernel
theorem dJ6_compare_7cf53_19 : decode cJ6_compare_7cf53 19 = .ok (.ireturn, 1) := by decide +kernel
theorem dJ6_bitCount_0f7a4_0 : decode cJ6_bitCount_0f7a4 0 = .ok (.iload_n 0, 1) := by decide +kernel
theorem dJ6_bitCount_0f7a4_1 : decode cJ6_bitCount_0f7a4 1 = .ok (.iload_n 0, 1) := by decide +kernel
theorem dJ6_bitCount_0f7a4_2 : decode cJ6_bitCount_0f7a4 2 = .ok (.iconst 1, 1) := by decide +kernel
theorem dJ6_bitCount_0f7a4_3 : decode cJ6_bitCount_0f7a4 3 = .ok (.iushr, 1) := by decide +kernel
theorem dJ6_bitCount_0f7a4_4 : decode cJ6_bitCount_0f7a4 4 = .ok (.ldc_w 265, 3) := by decide +kernel
theorem dJ6_bitCount_0f7a4_7 : decode cJ6_bitCount_0f7a4 7 = .ok (.iand, 1) := by decide +kernel
theorem dJ6_bitCount_0f7a4_8 : decode cJ6_bitCount_0f7a4 8 = .ok (.isub, 1) := by decide +kernel
theorem dJ6_bitCount_0f7a4_9 : decode cJ6_bitCount_0f7a4 9 = .ok (.istore_n 0, 1) := by decide +kernel
theorem dJ6_bitCount_0f7a4_10 : decode cJ6_bitCount_0f7a4 10 = .ok (.iload_n 0, 1) := by decide +kernel
theorem dJ6_bitCount_0f7a4_11 : decode cJ6_bitCount_0f7a4 11 = .ok (.ldc_w 266, 3) := by decide +kernel
theorem dJ6_bitCount_0f7a4_14 : decode cJ6_bitCount_0f7a4 14 = .ok (.iand, 1) := by decide +kernel
theorem dJ6_bitCount_0f7a4_15 : decode cJ6_bitCount_0f7a4 15 = .ok (.iload_n 0, 1) := by decide +kernel
theorem dJ6_bitCount_0f7a4_16 : decode cJ6_bitCount_0f7a4 16 = .ok (.iconst 2, 1) := by decide +kernel
theorem dJ6_bitCount_0f7a4_17 : decode cJ6_bitCount_0f7a4 17 = .ok (.iushr, 1) := by decide +kernel
theorem dJ6_bitCount_0f7a4_18 : decode cJ6_bitCount_0f7a4 18 = .ok (.ldc_w 266, 3) := by decide +kernel
theorem dJ6_bitCount_0f7a4_21 : decode cJ6_bitCount_0f7a4 21 = .ok (.iand, 1) := by decide +kernel
theorem dJ6_bitCount_0f7a4_22 : decode cJ6_bitCount_0f7a4 22 = .ok (.iadd, 1) := by decide +kernel
theorem dJ6_bitCount_0f7a4_23 : decode cJ6_bitCount_0f7a4 23 = .ok (.istore_n 0, 1) := by decide +kernel
theorem dJ6_bitCount_0f7a4_24 : decode cJ6_bitCount_0f7a4 24 = .ok (.iload_n 0, 1) := by decide +kernel
theorem dJ6_bitCount_0f7a4_25 : decode cJ6_bitCount_0f7a4 25 = .ok (.iload_n 0, 1) := by decide +kernel
theorem dJ6_bitCount_0f7a4_26 : decode cJ6_bitCount_0f7a4 26 = .ok (.iconst 4, 1) := by decide +kernel
theorem dJ6_bitCount_0f7a4_27 : decode cJ6_bitCount_0f7a4 27 = .ok (.iushr, 1) := by decide +kernel
theorem dJ6_bitCount_0f7a4_28 : decode cJ6_bitCount_0f7a4 28 = .ok (.iadd, 1) := by decide +kernel
theorem dJ6_bitCount_0f7a4_29 : decode cJ6_bitCount_0f7a4 29 = .ok (.ldc_w 267, 3) := by decide +kernel
theorem dJ6_bitCount_0f7a4_32 : decode cJ6_bitCount_0f7a4 32 = .ok (.iand, 1) := by decide +kernel
theorem dJ6_bitCount_0f7a4_33 : decode cJ6_bitCount_0f7a4 33 = .ok (.istore_n 0, 1) := by decide +kernel
theorem dJ6_bitCount_0f7a4_34 : decode cJ6_bitCount_0f7a4 34 = .ok (.iload_n 0, 1) := by decide +kernel
theorem dJ6_bitCount_0f7a4_35 : decode cJ6_bitCount_0f7a4 35 = .ok (.iload_n 0, 1) := by decide +kernel
theorem dJ6_bitCount_0f7a4_36 : decode cJ6_bitCount_0f7a4 36 = .ok (.bipush 8, 2) := by decide +kernel
theorem dJ6_bitCount_0f7a4_38 : decode cJ6_bitCount_0f7a4 38 = .ok (.iushr, 1) := by decide +kernel
theorem dJ6_bitCount_0f7a4_39 : decode cJ6_bitCount_0f7a4 39 = .ok (.iadd, 1) := by decide +kernel
theorem dJ6_bitCount_0f7a4_40 : decode cJ6_bitCount_0f7a4 40 = .ok (.istore_n 0, 1) := by decide +kernel
theorem dJ6_bitCount_0f7a4_41 : decode cJ6_bitCount_0f7a4 41 = .ok (.iload_n 0, 1) := by decide +kernel
theorem dJ6_bitCount_0f7a4_42 : decode cJ6_bitCount_0f7a4 42 = .ok (.iload_n 0, 1) := by decide +kernel
theorem dJ6_bitCount_0f7a4_43 : decode cJ6_bitCount_0f7a4 43 = .ok (.bipush 16, 2) := by decide +kernel
theorem dJ6_bitCount_0f7a4_45 : decode cJ6_bitCount_0f7a4 45 = .ok (.iushr, 1) := by decide +kernel
theorem dJ6_bitCount_0f7a4_46 : decode cJ6_bitCount_0f7a4 46 = .ok (.iadd, 1) := by decide +kernel
theorem dJ6_bitCount_0f7a4_47 : decode cJ6_bitCount_0f7a4 47 = .ok (.istore_n 0, 1) := by decide +kernel
theorem dJ6_bitCount_0f7a4_48 : decode cJ6_bitCount_0f7a4 48 = .ok (.iload_n 0, 1) := by decide +kernel
theorem dJ6_bitCount_0f7a4_49 : decode cJ6_bitCount_0f7a4 49 = .ok (.bipush 63, 2) := by decide +kernel
theorem dJ6_bitCount_0f7a4_51 : decode cJ6_bitCount_0f7a4 51 = .ok (.iand, 1) := by decide +kernel
theorem dJ6_bitCount_0f7a4_52 : decode cJ6_bitCount_0f7a4 52 = .ok (.ireturn, 1) := by decide +kernel
theorem dJ9_max_7cf53_0 : decode cJ9_max_7cf53 0 = .ok (.iload_n 0, 1) := by decide +kernel
theorem dJ9_max_7cf53_1 : decode cJ9_max_7cf53 1 = .ok (.iload_n 1, 1) := by decide +kernel
theorem dJ9_max_7cf53_2 : decode cJ9_max_7cf53 2 = .ok (.if_icmp .lt 7, 3) := by decide +kernel
theorem dJ9_max_7cf53_5 : decode cJ9_max_7cf53 5 = .ok (.iload_n 0, 1) := by decide +kernel
theorem dJ9_max_7cf53_6 : decode cJ9_max_7cf53 6 = .ok (.goto 4, 3) := by decide +kernel
theorem dJ9_max_7cf53_9 : decode cJ9_max_7cf53 9 = .ok (.iload_n 1, 1) := by decide +kernel
theorem dJ9_max_7cf53_10 : decode cJ9_max_7cf53 10 = .ok (.ireturn, 1) := by decide +kernel
theorem dJ9_min_7cf53_0 : decode cJ9_min_7cf53 0 = .ok (.iload_n 0, 1) := by decide +kernel
theorem dJ9_min_7cf53_1 : decode cJ9_min_7cf53 1 = .ok (.iload_n 1, 1) := by decide +kernel
theorem dJ9_min_7cf53_2 : decode cJ9_min_7cf53 2 = .ok (.if_icmp .gt 7, 3) := by decide +kernel
theorem dJ9_min_7cf53_5 : decode cJ9_min_7cf53 5 = .ok (.iload_n 0, 1) := by decide +kernel
theorem dJ9_min_7cf53_6 : decode cJ9_min_7cf53 6 = .ok (.goto 4, 3) := by decide +kernel
theorem dJ9_min_7cf53_9 : decode cJ9_min_7cf53 9 = .ok (.iload_n 1, 1) := by decide +kernel
theorem dJ9_min_7cf53_10 : decode cJ9_min_7cf53 10 = .ok (.ireturn, 1) := by decide +kernel
theorem dJ0_length_8abf5_0 : decode cJ0_length_8abf5 0 = .ok (.aload_n 0, 1) := by decide +kernel
theorem dJ0_length_8abf5_1 : decode cJ0_length_8abf5 1 = .ok (.getfield 9, 3) := by decide +kernel
theorem dJ0_length_8abf5_4 : decode cJ0_length_8abf5 4 = .ok (.arraylength, 1) := by decide +kernel
theorem dJ0_length_8abf5_5 : decode cJ0_length_8abf5 5 = .ok (.aload_n 0, 1) := by decide +kernel
theorem dJ0_length_8abf5_6 : decode cJ0_length_8abf5 6 = .ok (.invokevirtual 335, 3) := by decide +kernel
theorem dJ0_length_8abf5_9 : decode cJ0_length_8abf5 9 = .ok (.ishr, 1) := by decide +kernel
theorem dJ0_length_8abf5_10 : decode cJ0_length_8abf5 10 = .ok (.ireturn, 1) := by decide +kernel
theorem dJ0_charAt_5068e_0 : decode cJ0_charAt_5068e 0 = .ok (.aload_n 0, 1) := by decide +kernel
theorem dJ0_charAt_5068e_1 : decode cJ0_charAt_5068e 1 = .ok (.invokevirtual 492, 3) := by decide +kernel
theorem dJ0_charAt_5068e_4 : decode cJ0_charAt_5068e 4 = .ok (.ifCond .eq 12, 3) := by decide +kernel
theorem dJ0_charAt_5068e_7 : decode cJ0_charAt_5068e 7 = .ok (.aload_n 0, 1) := by decide +kernel
theorem dJ0_charAt_5068e_8 : decode cJ0_charAt_5068e 8 = .ok (.getfield 9, 3) := by decide +kernel
theorem dJ0_charAt_5068e_11 : decode cJ0_charAt_5068e 11 = .ok (.iload_n 1, 1) := by decide +kernel
theorem dJ0_charAt_5068e_12 : decode cJ0_charAt_5068e 12 = .ok (.invokestatic 495, 3) := by decide +kernel
theorem dJ0_charAt_5068e_15 : decode cJ0_charAt_5068e 15 = .ok (.ireturn, 1) := by decide +kernel
theorem dJ0_charAt_5068e_16 : decode cJ0_charAt_5068e 16 = .ok (.aload_n 0, 1) := by decide +kernel
theorem dJ0_charAt_5068e_17 : decode cJ0_charAt_5068e 17 = .ok (.getfield 9, 3) := by decide +kernel
theorem dJ0_charAt_5068e_20 : decode cJ0_charAt_5068e 20 = .ok (.iload_n 1, 1) := by decide +kernel
theorem dJ0_charAt_5068e_21 : decode cJ0_charAt_5068e 21 = .ok (.invokestatic 498, 3) := by decide +kernel
theorem dJ0_charAt_5068e_24 : decode cJ0_charAt_5068e 24 = .ok (.ireturn, 1) := by decide +kernel
theorem dJ0_coder_7d493_0 : decode cJ0_coder_7d493 0 = .ok (.getstatic 38, 3) := by decide +kernel
theorem dJ0_coder_7d493_3 : decode cJ0_coder_7d493 3 = .ok (.ifCond .eq 10, 3) := by decide +kernel
theorem dJ0_coder_7d493_6 : decode cJ0_coder_7d493 6 = .ok (.aload_n 0, 1) := by decide +kernel
theorem dJ0_coder_7d493_7 : decode cJ0_coder_7d493 7 = .ok (.getfield 15, 3) := by decide +kernel
theorem dJ0_coder_7d493_10 : decode cJ0_coder_7d493 10 = .ok (.goto 4, 3) := by decide +kernel
theorem dJ0_coder_7d493_13 : decode cJ0_coder_7d493 13 = .ok (.iconst 1, 1) := by decide +kernel
theorem dJ0_coder_7d493_14 : decode cJ0_coder_7d493 14 = .ok (.ireturn, 1) := by decide +kernel
theorem dJ0_isLatin1_aae02_0 : decode cJ0_isLatin1_aae02 0 = .ok (.getstatic 38, 3) := by decide +kernel
theorem dJ0_isLatin1_aae02_3 : decode cJ0_isLatin1_aae02 3 = .ok (.ifCond .eq 14, 3) := by decide +kernel
theorem dJ0_isLatin1_aae02_6 : decode cJ0_isLatin1_aae02 6 = .ok (.aload_n 0, 1) := by decide +kernel
theorem dJ0_isLatin1_aae02_7 : decode cJ0_isLatin1_aae02 7 = .ok (.getfield 15, 3) := by decide +kernel
theorem dJ0_isLatin1_aae02_10 : decode cJ0_isLatin1_aae02 10 = .ok (.ifCond .ne 7, 3) := by decide +kernel
theorem dJ0_isLatin1_aae02_13 : decode cJ0_isLatin1_aae02 13 = .ok (.iconst 1, 1) := by decide +kernel
theorem dJ0_isLatin1_aae02_14 : decode cJ0_isLatin1_aae02 14 = .ok (.goto 4, 3) := by decide +kernel
theorem dJ0_isLatin1_aae02_17 : decode cJ0_isLatin1_aae02 17 = .ok (.iconst 0, 1) := by decide +kernel
theorem dJ0_isLatin1_aae02_18 : decode cJ0_isLatin1_aae02 18 = .ok (.ireturn, 1) := by decide +kernel
theorem dJ0_checkIndex_df160_0 : decode cJ0_checkIndex_df160 0 = .ok (.iload_n 0, 1) := by decide +kernel
theorem dJ0_checkIndex_df160_1 : decode cJ0_checkIndex_df160 1 = .ok (.iload_n 1, 1) := by decide +kernel
theorem dJ0_checkIndex_df160_2 : decode cJ0_checkIndex_df160 2 = .ok (.getstatic 1053, 3) := by decide +kernel
theorem dJ0_checkIndex_df160_5 : decode cJ0_checkIndex_df160 5 = .ok (.invokestatic 1059, 3) := by decide +kernel
theorem dJ0_checkIndex_df160_8 : decode cJ0_checkIndex_df160 8 = .ok (.pop, 1) := by decide +kernel
theorem dJ0_checkIndex_df160_9 : decode cJ0_checkIndex_df160 9 = .ok (.return_, 1) := by decide +kernel
theorem dJ1_charAt_3b067_0 : decode cJ1_charAt_3b067 0 = .ok (.iload_n 1, 1) := by decide +kernel
theorem dJ1_charAt_3b067_1 : decode cJ1_charAt_3b067 1 = .ok (.aload_n 0, 1) := by decide +kernel
theorem dJ1_charAt_3b067_2 : decode cJ1_charAt_3b067 2 = .ok (.arraylength, 1) := by decide +kernel
theorem dJ1_charAt_3b067_3 : decode cJ1_charAt_3b067 3 = .ok (.invokestatic 9, 3) := by decide +kernel
theorem dJ1_charAt_3b067_6 : decode cJ1_charAt_3b067 6 = .ok (.aload_n 0, 1) := by decide +kernel
theorem dJ1_charAt_3b067_7 : decode cJ1_charAt_3b067 7 = .ok (.iload_n 1, 1) := by decide +kernel
theorem dJ1_charAt_3b067_8 : decode cJ1_charAt_3b067 8 = .ok (.baload, 1) := by decide +kernel
theorem dJ1_charAt_3b067_9 : decode cJ1_charAt_3b067 9 = .ok (.sipush 255, 3) := by decide +kernel
theorem dJ1_charAt_3b067_12 : decode cJ1_charAt_3b067 12 = .ok (.iand, 1) := by decide +kernel
theorem dJ1_charAt_3b067_13 : decode cJ1_charAt_3b067 13 = .ok (.i2c, 1) := by decide +kernel
theorem dJ1_charAt_3b067_14 : decode cJ1_charAt_3b067 14 = .ok (.ireturn, 1) := by decide +kernel
theorem dJ2_getChar_3b067_0 : decode cJ2_getChar_3b067 0 = .ok (.getstatic 44, 3) := by decide +kernel
theorem dJ2_getChar_3b067_3 : decode cJ2_getChar_3b067 3 = .ok (.ifCond .ne 25, 3) := by decide +kernel
theorem dJ2_getChar_3b067_6 : decode cJ2_getChar_3b067 6 = .ok (.iload_n 1, 1) := by decide +kernel
theorem dJ2_getChar_3b067_7 : decode cJ2_getChar_3b067 7 = .ok (.ifCond .lt 11, 3) := by decide +kernel
theorem dJ2_getChar_3b067_10 : decode cJ2_getChar_3b067 10 = .ok (.iload_n 1, 1) := by decide +kernel
theorem dJ2_getChar_3b067_11 : decode cJ2_getChar_3b067 11 = .ok (.aload_n 0, 1) := by decide +kernel
theorem dJ2_getChar_3b067_12 : decode cJ2_getChar_3b067 12 = .ok (.invokestatic 48, 3) := by decide +kernel
theorem dJ2_getChar_3b067_15 : decode cJ2_getChar_3b067 15 = .ok (.if_icmp .lt 13, 3) := by decide +kernel
theorem dJ2_getChar_3b067_18 : decode cJ2_getChar_3b067 18 = .ok (.new 52, 3) := by decide +kernel
theorem dJ2_getChar_3b067_21 : decode cJ2_getChar_3b067 21 = .ok (.dup, 1) := by decide +kernel
theorem dJ2_getChar_3b067_22 : decode cJ2_getChar_3b067 22 = .ok (.ldc 54, 2) := by decide +kernel
theorem dJ2_getChar_3b067_24 : decode cJ2_getChar_3b067 24 = .ok (.invokespecial 56, 3) := by decide +kernel
theorem dJ2_getChar_3b067_27 : decode cJ2_getChar_3b067 27 = .ok (.athrow, 1) := by decide +kernel
theorem dJ2_getChar_3b067_28 : decode cJ2_getChar_3b067 28 = .ok (.iload_n 1, 1) := by decide +kernel
theorem dJ2_getChar_3b067_29 : decode cJ2_getChar_3b067 29 = .ok (.iconst 1, 1) := by decide +kernel
theorem dJ2_getChar_3b067_30 : decode cJ2_getChar_3b067 30 = .ok (.ishl, 1) := by decide +kernel
theorem dJ2_getChar_3b067_31 : decode cJ2_getChar_3b067 31 = .ok (.istore_n 1, 1) := by decide +kernel
theorem dJ2_getChar_3b067_32 : decode cJ2_getChar_3b067 32 = .ok (.aload_n 0, 1) := by decide +kernel
theorem dJ2_getChar_3b067_33 : decode cJ2_getChar_3b067 33 = .ok (.iload_n 1, 1) := by decide +kernel
theorem dJ2_getChar_3b067_34 : decode cJ2_getChar_3b067 34 = .ok (.iinc 1 1, 3) := by decide +kernel
theorem dJ2_getChar_3b067_37 : decode cJ2_getChar_3b067 37 = .ok (.baload, 1) := by decide +kernel
theorem dJ2_getChar_3b067_38 : decode cJ2_getChar_3b067 38 = .ok (.sipush 255, 3) := by decide +kernel
theorem dJ2_getChar_3b067_41 : decode cJ2_getChar_3b067 41 = .ok (.iand, 1) := by decide +kernel
theorem dJ2_getChar_3b067_42 : decode cJ2_getChar_3b067 42 = .ok (.getstatic 59, 3) := by decide +kernel
theorem dJ2_getChar_3b067_45 : decode cJ2_getChar_3b067 45 = .ok (.ishl, 1) := by decide +kernel
theorem dJ2_getChar_3b067_46 : decode cJ2_getChar_3b067 46 = .ok (.aload_n 0, 1) := by decide +kernel
theorem dJ2_getChar_3b067_47 : decode cJ2_getChar_3b067 47 = .ok (.iload_n 1, 1) := by decide +kernel
theorem dJ2_getChar_3b067_48 : decode cJ2_getChar_3b067 48 = .ok (.baload, 1) := by decide +kernel
theorem dJ2_getChar_3b067_49 : decode cJ2_getChar_3b067 49 = .ok (.sipush 255, 3) := by decide +kernel
theorem dJ2_getChar_3b067_52 : decode cJ2_getChar_3b067 52 = .ok (.iand, 1) := by decide +kernel
theorem dJ2_getChar_3b067_53 : decode cJ2_getChar_3b067 53 = .ok (.getstatic 63, 3) := by decide +kernel
theorem dJ2_getChar_3b067_56 : decode cJ2_getChar_3b067 56 = .ok (.ishl, 1) := by decide +kernel
theorem dJ2_getChar_3b067_57 : decode cJ2_getChar_3b067 57 = .ok (.ior, 1) := by decide +kernel
theorem dJ2_getChar_3b067_58 : decode cJ2_getChar_3b067 58 = .ok (.i2c, 1) := by decide +kernel
theorem dJ2_getChar_3b067_59 : decode cJ2_getChar_3b067 59 = .ok (.ireturn, 1) := by decide +kernel
theorem dJ2_length_9d52b_0 : decode cJ2_length_9d52b 0 = .ok (.aload_n 0, 1) := by decide +kernel
theorem dJ2_length_9d52b_1 : decode cJ2_length_9d52b 1 = .ok (.arraylength, 1) := by decide +kernel
theorem dJ2_length_9d52b_2 : decode cJ2_length_9d52b 2 = .ok (.iconst 1, 1) := by decide +kernel
theorem dJ2_length_9d52b_3 : decode cJ2_length_9d52b 3 = .ok (.ishr, 1) := by decide +kernel
theorem dJ2_length_9d52b_4 : decode cJ2_length_9d52b 4 = .ok (.ireturn, 1) := by decide +kernel
theorem dJ2_charAt_3b067_0 : decode cJ2_charAt_3b067 0 = .ok (.iload_n 1, 1) := by decide +kernel
theorem dJ2_charAt_3b067_1 : decode cJ2_charAt_3b067 1 = .ok (.aload_n 0, 1) := by decide +kernel
theorem dJ2_charAt_3b067_2 : decode cJ2_charAt_3b067 2 = .ok (.invokestatic 67, 3) := by decide +kernel
theorem dJ2_charAt_3b067_5 : decode cJ2_charAt_3b067 5 = .ok (.aload_n 0, 1) := by decide +kernel
theorem dJ2_charAt_3b067_6 : decode cJ2_charAt_3b067 6 = .ok (.iload_n 1, 1) := by decide +kernel
theorem dJ2_charAt_3b067_7 : decode cJ2_charAt_3b067 7 = .ok (.invokestatic 71, 3) := by decide +kernel
theorem dJ2_charAt_3b067_10 : decode cJ2_charAt_3b067 10 = .ok (.ireturn, 1) := by decide +kernel
theorem dJ2_checkIndex_2214a_0 : decode cJ2_checkIndex_2214a 0 = .ok (.iload_n 0, 1) := by decide +kernel
theorem dJ2_checkIndex_2214a_1 : decode cJ2_checkIndex_2214a 1 = .ok (.aload_n 1, 1) := by decide +kernel
theorem dJ2_checkIndex_2214a_2 : decode cJ2_checkIndex_2214a 2 = .ok (.invokestatic 48, 3) := by decide +kernel
theorem dJ2_checkIndex_2214a_5 : decode cJ2_checkIndex_2214a 5 = .ok (.invokestatic 414, 3) := by decide +kernel
theorem dJ2_checkIndex_2214a_8 : decode cJ2_checkIndex_2214a 8 = .ok (.return_, 1) := by decide +kernel
theorem dJ7_fill_53178_0 : decode cJ7_fill_53178 0 = .ok (.iconst 0, 1) := by decide +kernel
theorem dJ7_fill_53178_1 : decode cJ7_fill_53178 1 = .ok (.istore_n 2, 1) := by decide +kernel
theorem dJ7_fill_53178_2 : decode cJ7_fill_53178 2 = .ok (.aload_n 0, 1) := by decide +kernel
theorem dJ7_fill_53178_3 : decode cJ7_fill_53178 3 = .ok (.arraylength, 1) := by decide +kernel
theorem dJ7_fill_53178_4 : decode cJ7_fill_53178 4 = .ok (.istore_n 3, 1) := by decide +kernel
theorem dJ7_fill_53178_5 : decode cJ7_fill_53178 5 = .ok (.iload_n 2, 1) := by decide +kernel
theorem dJ7_fill_53178_6 : decode cJ7_fill_53178 6 = .ok (.iload_n 3, 1) := by decide +kernel
theorem dJ7_fill_53178_7 : decode cJ7_fill_53178 7 = .ok (.if_icmp .ge 13, 3) := by decide +kernel
theorem dJ7_fill_53178_10 : decode cJ7_fill_53178 10 = .ok (.aload_n 0, 1) := by decide +kernel
theorem dJ7_fill_53178_11 : decode cJ7_fill_53178 11 = .ok (.iload_n 2, 1) := by decide +kernel
theorem dJ7_fill_53178_12 : decode cJ7_fill_53178 12 = .ok (.iload_n 1, 1) := by decide +kernel
theorem dJ7_fill_53178_13 : decode cJ7_fill_53178 13 = .ok (.iastore, 1) := by decide +kernel
theorem dJ7_fill_53178_14 : decode cJ7_fill_53178 14 = .ok (.iinc 2 1, 3) := by decide +kernel
theorem dJ7_fill_53178_17 : decode cJ7_fill_53178 17 = .ok (.goto (-12), 3) := by decide +kernel
theorem dJ7_fill_53178_20 : decode cJ7_fill_53178 20 = .ok (.return_, 1) := by decide +kernel
theorem dJ7_copyOf_59c91_0 : decode cJ7_copyOf_59c91 0 = .ok (.iload_n 1, 1) := by decide +kernel
theorem dJ7_copyOf_59c91_1 : decode cJ7_copyOf_59c91 1 = .ok (.aload_n 0, 1) := by decide +kernel
theorem dJ7_copyOf_59c91_2 : decode cJ7_copyOf_59c91 2 = .ok (.arraylength, 1) := by decide +kernel
theorem dJ7_copyOf_59c91_3 : decode cJ7_copyOf_59c91 3 = .ok (.if_icmp .ne 11, 3) := by decide +kernel
theorem dJ7_copyOf_59c91_6 : decode cJ7_copyOf_59c91 6 = .ok (.aload_n 0, 1) := by decide +kernel
theorem dJ7_copyOf_59c91_7 : decode cJ7_copyOf_59c91 7 = .ok (.invokevirtual 316, 3) := by decide +kernel
theorem dJ7_copyOf_59c91_10 : decode cJ7_copyOf_59c91 10 = .ok (.checkcast 317, 3) := by decide +kernel
theorem dJ7_copyOf_59c91_13 : decode cJ7_copyOf_59c91 13 = .ok (.areturn, 1) := by decide +kernel
theorem dJ7_copyOf_59c91_14 : decode cJ7_copyOf_59c91 14 = .ok (.iload_n 1, 1) := by decide +kernel
theorem dJ7_copyOf_59c91_15 : decode cJ7_copyOf_59c91 15 = .ok (.newarray .int, 2) := by decide +kernel
theorem dJ7_copyOf_59c91_17 : decode cJ7_copyOf_59c91 17 = .ok (.astore_n 2, 1) := by decide +kernel
theorem dJ7_copyOf_59c91_18 : decode cJ7_copyOf_59c91 18 = .ok (.aload_n 0, 1) := by decide +kernel
theorem dJ7_copyOf_59c91_19 : decode cJ7_copyOf_59c91 19 = .ok (.iconst 0, 1) := by decide +kernel
theorem dJ7_copyOf_59c91_20 : decode cJ7_copyOf_59c91 20 = .ok (.aload_n 2, 1) := by decide +kernel
theorem dJ7_copyOf_59c91_21 : decode cJ7_copyOf_59c91 21 = .ok (.iconst 0, 1) := by decide +kernel
theorem dJ7_copyOf_59c91_22 : decode cJ7_copyOf_59c91 22 = .ok (.aload_n 0, 1) := by decide +kernel
theorem dJ7_copyOf_59c91_23 : decode cJ7_copyOf_59c91 23 = .ok (.arraylength, 1) := by decide +kernel
theorem dJ7_copyOf_59c91_24 : decode cJ7_copyOf_59c91 24 = .ok (.iload_n 1, 1) := by decide +kernel
theorem dJ7_copyOf_59c91_25 : decode cJ7_copyOf_59c91 25 = .ok (.invokestatic 304, 3) := by decide +kernel
theorem dJ7_copyOf_59c91_28 : decode cJ7_copyOf_59c91 28 = .ok (.invokestatic 150, 3) := by decide +kernel
theorem dJ7_copyOf_59c91_31 : decode cJ7_copyOf_59c91 31 = .ok (.aload_n 2, 1) := by decide +kernel
theorem dJ7_copyOf_59c91_32 : decode cJ7_copyOf_59c91 32 = .ok (.areturn, 1) := by decide +kernel
theorem dJ3_checkIndex_8e157_0 : decode cJ3_checkIndex_8e157 0 = .ok (.iload_n 0, 1) := by decide +kernel
theorem dJ3_checkIndex_8e157_1 : decode cJ3_checkIndex_8e157 1 = .ok (.ifCond .lt 8, 3) := by decide +kernel
theorem dJ3_checkIndex_8e157_4 : decode cJ3_checkIndex_8e157 4 = .ok (.iload_n 0, 1) := by decide +kernel
theorem dJ3_checkIndex_8e157_5 : decode cJ3_checkIndex_8e157 5 = .ok (.iload_n 1, 1) := by decide +kernel
theorem dJ3_checkIndex_8e157_6 : decode cJ3_checkIndex_8e157 6 = .ok (.if_icmp .lt 10, 3) := by decide +kernel
theorem dJ3_checkIndex_8e157_9 : decode cJ3_checkIndex_8e157 9 = .ok (.aload_n 2, 1) := by decide +kernel
theorem dJ3_checkIndex_8e157_10 : decode cJ3_checkIndex_8e157 10 = .ok (.iload_n 0, 1) := by decide +kernel
theorem dJ3_checkIndex_8e157_11 : decode cJ3_checkIndex_8e157 11 = .ok (.iload_n 1, 1) := by decide +kernel
theorem dJ3_checkIndex_8e157_12 : decode cJ3_checkIndex_8e157 12 = .ok (.invokestatic 95, 3) := by decide +kernel
theorem dJ3_checkIndex_8e157_15 : decode cJ3_checkIndex_8e157 15 = .ok (.athrow, 1) := by decide +kernel
theorem dJ3_checkIndex_8e157_16 : decode cJ3_checkIndex_8e157 16 = .ok (.iload_n 0, 1) := by decide +kernel
theorem dJ3_checkIndex_8e157_17 : decode cJ3_checkIndex_8e157 17 = .ok (.ireturn, 1) := by decide +kernel
