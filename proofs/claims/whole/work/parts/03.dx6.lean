theorem dX6_init_0 : decode cX6_init 0 = .ok (.aload_n 0, 1) := by decide +kernel
theorem dX6_init_1 : decode cX6_init 1 = .ok (.invokespecial 1, 3) := by decide +kernel
theorem dX6_init_4 : decode cX6_init 4 = .ok (.aload_n 0, 1) := by decide +kernel
theorem dX6_init_5 : decode cX6_init 5 = .ok (.bipush 7, 2) := by decide +kernel
theorem dX6_init_7 : decode cX6_init 7 = .ok (.anewarray 9, 3) := by decide +kernel
theorem dX6_init_10 : decode cX6_init 10 = .ok (.putfield 11, 3) := by decide +kernel
theorem dX6_init_13 : decode cX6_init 13 = .ok (.aload_n 0, 1) := by decide +kernel
theorem dX6_init_14 : decode cX6_init 14 = .ok (.bipush 8, 2) := by decide +kernel
theorem dX6_init_16 : decode cX6_init 16 = .ok (.newarray .int, 2) := by decide +kernel
theorem dX6_init_18 : decode cX6_init 18 = .ok (.putfield 15, 3) := by decide +kernel
theorem dX6_init_21 : decode cX6_init 21 = .ok (.aload_n 0, 1) := by decide +kernel
theorem dX6_init_22 : decode cX6_init 22 = .ok (.bipush 8, 2) := by decide +kernel
theorem dX6_init_24 : decode cX6_init 24 = .ok (.newarray .int, 2) := by decide +kernel
theorem dX6_init_26 : decode cX6_init 26 = .ok (.putfield 19, 3) := by decide +kernel
theorem dX6_init_29 : decode cX6_init 29 = .ok (.aload_n 0, 1) := by decide +kernel
theorem dX6_init_30 : decode cX6_init 30 = .ok (.iconst 3, 1) := by decide +kernel
theorem dX6_init_31 : decode cX6_init 31 = .ok (.newarray .int, 2) := by decide +kernel
theorem dX6_init_33 : decode cX6_init 33 = .ok (.dup, 1) := by decide +kernel
theorem dX6_init_34 : decode cX6_init 34 = .ok (.iconst 0, 1) := by decide +kernel
theorem dX6_init_35 : decode cX6_init 35 = .ok (.iconst (-1), 1) := by decide +kernel
theorem dX6_init_36 : decode cX6_init 36 = .ok (.iastore, 1) := by decide +kernel
theorem dX6_init_37 : decode cX6_init 37 = .ok (.dup, 1) := by decide +kernel
theorem dX6_init_38 : decode cX6_init 38 = .ok (.iconst 1, 1) := by decide +kernel
theorem dX6_init_39 : decode cX6_init 39 = .ok (.iconst (-1), 1) := by decide +kernel
theorem dX6_init_40 : decode cX6_init 40 = .ok (.iastore, 1) := by decide +kernel
theorem dX6_init_41 : decode cX6_init 41 = .ok (.dup, 1) := by decide +kernel
theorem dX6_init_42 : decode cX6_init 42 = .ok (.iconst 2, 1) := by decide +kernel
theorem dX6_init_43 : decode cX6_init 43 = .ok (.iconst (-1), 1) := by decide +kernel
theorem dX6_init_44 : decode cX6_init 44 = .ok (.iastore, 1) := by decide +kernel
theorem dX6_init_45 : decode cX6_init 45 = .ok (.putfield 22, 3) := by decide +kernel
theorem dX6_init_48 : decode cX6_init 48 = .ok (.aload_n 0, 1) := by decide +kernel
theorem dX6_init_49 : decode cX6_init 49 = .ok (.bipush 6, 2) := by decide +kernel
theorem dX6_init_51 : decode cX6_init 51 = .ok (.anewarray 25, 3) := by decide +kernel
theorem dX6_init_54 : decode cX6_init 54 = .ok (.putfield 27, 3) := by decide +kernel
theorem dX6_init_57 : decode cX6_init 57 = .ok (.aload_n 0, 1) := by decide +kernel
theorem dX6_init_58 : decode cX6_init 58 = .ok (.new 31, 3) := by decide +kernel
theorem dX6_init_61 : decode cX6_init 61 = .ok (.dup, 1) := by decide +kernel
theorem dX6_init_62 : decode cX6_init 62 = .ok (.invokespecial 33, 3) := by decide +kernel
theorem dX6_init_65 : decode cX6_init 65 = .ok (.putfield 34, 3) := by decide +kernel
theorem dX6_init_68 : decode cX6_init 68 = .ok (.aload_n 0, 1) := by decide +kernel
theorem dX6_init_69 : decode cX6_init 69 = .ok (.iconst 4, 1) := by decide +kernel
theorem dX6_init_70 : decode cX6_init 70 = .ok (.anewarray 38, 3) := by decide +kernel
theorem dX6_init_73 : decode cX6_init 73 = .ok (.dup, 1) := by decide +kernel
theorem dX6_init_74 : decode cX6_init 74 = .ok (.iconst 0, 1) := by decide +kernel
theorem dX6_init_75 : decode cX6_init 75 = .ok (.new 38, 3) := by decide +kernel
theorem dX6_init_78 : decode cX6_init 78 = .ok (.dup, 1) := by decide +kernel
theorem dX6_init_79 : decode cX6_init 79 = .ok (.invokespecial 40, 3) := by decide +kernel
theorem dX6_init_82 : decode cX6_init 82 = .ok (.aastore, 1) := by decide +kernel
theorem dX6_init_83 : decode cX6_init 83 = .ok (.dup, 1) := by decide +kernel
theorem dX6_init_84 : decode cX6_init 84 = .ok (.iconst 1, 1) := by decide +kernel
theorem dX6_init_85 : decode cX6_init 85 = .ok (.new 38, 3) := by decide +kernel
theorem dX6_init_88 : decode cX6_init 88 = .ok (.dup, 1) := by decide +kernel
theorem dX6_init_89 : decode cX6_init 89 = .ok (.invokespecial 40, 3) := by decide +kernel
theorem dX6_init_92 : decode cX6_init 92 = .ok (.aastore, 1) := by decide +kernel
theorem dX6_init_93 : decode cX6_init 93 = .ok (.dup, 1) := by decide +kernel
theorem dX6_init_94 : decode cX6_init 94 = .ok (.iconst 2, 1) := by decide +kernel
theorem dX6_init_95 : decode cX6_init 95 = .ok (.new 38, 3) := by decide +kernel
theorem dX6_init_98 : decode cX6_init 98 = .ok (.dup, 1) := by decide +kernel
theorem dX6_init_99 : decode cX6_init 99 = .ok (.invokespecial 40, 3) := by decide +kernel
theorem dX6_init_102 : decode cX6_init 102 = .ok (.aastore, 1) := by decide +kernel
theorem dX6_init_103 : decode cX6_init 103 = .ok (.dup, 1) := by decide +kernel
theorem dX6_init_104 : decode cX6_init 104 = .ok (.iconst 3, 1) := by decide +kernel
theorem dX6_init_105 : decode cX6_init 105 = .ok (.new 38, 3) := by decide +kernel
theorem dX6_init_108 : decode cX6_init 108 = .ok (.dup, 1) := by decide +kernel
theorem dX6_init_109 : decode cX6_init 109 = .ok (.invokespecial 40, 3) := by decide +kernel
theorem dX6_init_112 : decode cX6_init 112 = .ok (.aastore, 1) := by decide +kernel
theorem dX6_init_113 : decode cX6_init 113 = .ok (.putfield 41, 3) := by decide +kernel
theorem dX6_init_116 : decode cX6_init 116 = .ok (.aload_n 0, 1) := by decide +kernel
theorem dX6_init_117 : decode cX6_init 117 = .ok (.new 45, 3) := by decide +kernel
theorem dX6_init_120 : decode cX6_init 120 = .ok (.dup, 1) := by decide +kernel
theorem dX6_init_121 : decode cX6_init 121 = .ok (.invokespecial 47, 3) := by decide +kernel
theorem dX6_init_124 : decode cX6_init 124 = .ok (.putfield 48, 3) := by decide +kernel
theorem dX6_init_127 : decode cX6_init 127 = .ok (.aload_n 0, 1) := by decide +kernel
theorem dX6_init_128 : decode cX6_init 128 = .ok (.new 52, 3) := by decide +kernel
theorem dX6_init_131 : decode cX6_init 131 = .ok (.dup, 1) := by decide +kernel
theorem dX6_init_132 : decode cX6_init 132 = .ok (.invokespecial 54, 3) := by decide +kernel
theorem dX6_init_135 : decode cX6_init 135 = .ok (.putfield 55, 3) := by decide +kernel
theorem dX6_init_138 : decode cX6_init 138 = .ok (.aload_n 0, 1) := by decide +kernel
theorem dX6_init_139 : decode cX6_init 139 = .ok (.iconst 3, 1) := by decide +kernel
theorem dX6_init_140 : decode cX6_init 140 = .ok (.newarray .int, 2) := by decide +kernel
theorem dX6_init_142 : decode cX6_init 142 = .ok (.putfield 59, 3) := by decide +kernel
theorem dX6_init_145 : decode cX6_init 145 = .ok (.aload_n 0, 1) := by decide +kernel
theorem dX6_init_146 : decode cX6_init 146 = .ok (.bipush 28, 2) := by decide +kernel
theorem dX6_init_148 : decode cX6_init 148 = .ok (.newarray .int, 2) := by decide +kernel
theorem dX6_init_150 : decode cX6_init 150 = .ok (.putfield 62, 3) := by decide +kernel
theorem dX6_init_153 : decode cX6_init 153 = .ok (.aload_n 0, 1) := by decide +kernel
theorem dX6_init_154 : decode cX6_init 154 = .ok (.bipush 6, 2) := by decide +kernel
theorem dX6_init_156 : decode cX6_init 156 = .ok (.newarray .int, 2) := by decide +kernel
theorem dX6_init_158 : decode cX6_init 158 = .ok (.putfield 65, 3) := by decide +kernel
theorem dX6_init_161 : decode cX6_init 161 = .ok (.aload_n 0, 1) := by decide +kernel
theorem dX6_init_162 : decode cX6_init 162 = .ok (.getfield 34, 3) := by decide +kernel
theorem dX6_init_165 : decode cX6_init 165 = .ok (.ldc 68, 2) := by decide +kernel
theorem dX6_init_167 : decode cX6_init 167 = .ok (.invokevirtual 70, 3) := by decide +kernel
theorem dX6_init_170 : decode cX6_init 170 = .ok (.aload_n 0, 1) := by decide +kernel
theorem dX6_init_171 : decode cX6_init 171 = .ok (.getfield 27, 3) := by decide +kernel
theorem dX6_init_174 : decode cX6_init 174 = .ok (.iconst 0, 1) := by decide +kernel
theorem dX6_init_175 : decode cX6_init 175 = .ok (.aload_n 0, 1) := by decide +kernel
theorem dX6_init_176 : decode cX6_init 176 = .ok (.getfield 34, 3) := by decide +kernel
theorem dX6_init_179 : decode cX6_init 179 = .ok (.invokevirtual 74, 3) := by decide +kernel
theorem dX6_init_182 : decode cX6_init 182 = .ok (.aastore, 1) := by decide +kernel
theorem dX6_init_183 : decode cX6_init 183 = .ok (.aload_n 0, 1) := by decide +kernel
theorem dX6_init_184 : decode cX6_init 184 = .ok (.getfield 34, 3) := by decide +kernel
theorem dX6_init_187 : decode cX6_init 187 = .ok (.invokevirtual 78, 3) := by decide +kernel
theorem dX6_init_190 : decode cX6_init 190 = .ok (.aload_n 0, 1) := by decide +kernel
theorem dX6_init_191 : decode cX6_init 191 = .ok (.iconst 1, 1) := by decide +kernel
theorem dX6_init_192 : decode cX6_init 192 = .ok (.putfield 81, 3) := by decide +kernel
theorem dX6_init_195 : decode cX6_init 195 = .ok (.return_, 1) := by decide +kernel
theorem dX6_count_0 : decode cX6_count 0 = .ok (.iload_n 1, 1) := by decide +kernel
theorem dX6_count_1 : decode cX6_count 1 = .ok (.tableswitch 63 0 4 #[35, 40, 45, 50, 55], 35) := by decide +kernel
theorem dX6_count_36 : decode cX6_count 36 = .ok (.aload_n 0, 1) := by decide +kernel
theorem dX6_count_37 : decode cX6_count 37 = .ok (.getfield 85, 3) := by decide +kernel
theorem dX6_count_40 : decode cX6_count 40 = .ok (.ireturn, 1) := by decide +kernel
theorem dX6_count_41 : decode cX6_count 41 = .ok (.aload_n 0, 1) := by decide +kernel
theorem dX6_count_42 : decode cX6_count 42 = .ok (.getfield 88, 3) := by decide +kernel
theorem dX6_count_45 : decode cX6_count 45 = .ok (.ireturn, 1) := by decide +kernel
theorem dX6_count_46 : decode cX6_count 46 = .ok (.aload_n 0, 1) := by decide +kernel
theorem dX6_count_47 : decode cX6_count 47 = .ok (.getfield 81, 3) := by decide +kernel
theorem dX6_count_50 : decode cX6_count 50 = .ok (.ireturn, 1) := by decide +kernel
theorem dX6_count_51 : decode cX6_count 51 = .ok (.aload_n 0, 1) := by decide +kernel
theorem dX6_count_52 : decode cX6_count 52 = .ok (.getfield 91, 3) := by decide +kernel
theorem dX6_count_55 : decode cX6_count 55 = .ok (.ireturn, 1) := by decide +kernel
theorem dX6_count_56 : decode cX6_count 56 = .ok (.aload_n 0, 1) := by decide +kernel
theorem dX6_count_57 : decode cX6_count 57 = .ok (.getfield 34, 3) := by decide +kernel
theorem dX6_count_60 : decode cX6_count 60 = .ok (.getfield 94, 3) := by decide +kernel
theorem dX6_count_63 : decode cX6_count 63 = .ok (.ireturn, 1) := by decide +kernel
theorem dX6_count_64 : decode cX6_count 64 = .ok (.bipush (-2), 2) := by decide +kernel
theorem dX6_count_66 : decode cX6_count 66 = .ok (.ireturn, 1) := by decide +kernel
theorem dX6_feed_0 : decode cX6_feed 0 = .ok (.iload_n 1, 1) := by decide +kernel
theorem dX6_feed_1 : decode cX6_feed 1 = .ok (.iconst 1, 1) := by decide +kernel
theorem dX6_feed_2 : decode cX6_feed 2 = .ok (.if_icmp .lt 8, 3) := by decide +kernel
theorem dX6_feed_5 : decode cX6_feed 5 = .ok (.iload_n 1, 1) := by decide +kernel
theorem dX6_feed_6 : decode cX6_feed 6 = .ok (.iconst 5, 1) := by decide +kernel
theorem dX6_feed_7 : decode cX6_feed 7 = .ok (.if_icmp .le 6, 3) := by decide +kernel
theorem dX6_feed_10 : decode cX6_feed 10 = .ok (.bipush (-2), 2) := by decide +kernel
theorem dX6_feed_12 : decode cX6_feed 12 = .ok (.ireturn, 1) := by decide +kernel
theorem dX6_feed_13 : decode cX6_feed 13 = .ok (.iload_n 2, 1) := by decide +kernel
theorem dX6_feed_14 : decode cX6_feed 14 = .ok (.invokestatic 97, 3) := by decide +kernel
theorem dX6_feed_17 : decode cX6_feed 17 = .ok (.ifCond .eq 34, 3) := by decide +kernel
theorem dX6_feed_20 : decode cX6_feed 20 = .ok (.iload_n 3, 1) := by decide +kernel
theorem dX6_feed_21 : decode cX6_feed 21 = .ok (.invokestatic 97, 3) := by decide +kernel
theorem dX6_feed_24 : decode cX6_feed 24 = .ok (.ifCond .eq 27, 3) := by decide +kernel
theorem dX6_feed_27 : decode cX6_feed 27 = .ok (.iload 4, 2) := by decide +kernel
theorem dX6_feed_29 : decode cX6_feed 29 = .ok (.invokestatic 97, 3) := by decide +kernel
theorem dX6_feed_32 : decode cX6_feed 32 = .ok (.ifCond .eq 19, 3) := by decide +kernel
theorem dX6_feed_35 : decode cX6_feed 35 = .ok (.iload 5, 2) := by decide +kernel
theorem dX6_feed_37 : decode cX6_feed 37 = .ok (.invokestatic 97, 3) := by decide +kernel
theorem dX6_feed_40 : decode cX6_feed 40 = .ok (.ifCond .eq 11, 3) := by decide +kernel
theorem dX6_feed_43 : decode cX6_feed 43 = .ok (.iload 6, 2) := by decide +kernel
theorem dX6_feed_45 : decode cX6_feed 45 = .ok (.invokestatic 97, 3) := by decide +kernel
theorem dX6_feed_48 : decode cX6_feed 48 = .ok (.ifCond .ne 6, 3) := by decide +kernel
theorem dX6_feed_51 : decode cX6_feed 51 = .ok (.bipush (-2), 2) := by decide +kernel
theorem dX6_feed_53 : decode cX6_feed 53 = .ok (.ireturn, 1) := by decide +kernel
theorem dX6_feed_54 : decode cX6_feed 54 = .ok (.iload_n 1, 1) := by decide +kernel
theorem dX6_feed_55 : decode cX6_feed 55 = .ok (.sipush 160, 3) := by decide +kernel
theorem dX6_feed_58 : decode cX6_feed 58 = .ok (.aload_n 0, 1) := by decide +kernel
theorem dX6_feed_59 : decode cX6_feed 59 = .ok (.getfield 34, 3) := by decide +kernel
theorem dX6_feed_62 : decode cX6_feed 62 = .ok (.getfield 94, 3) := by decide +kernel
theorem dX6_feed_65 : decode cX6_feed 65 = .ok (.isub, 1) := by decide +kernel
theorem dX6_feed_66 : decode cX6_feed 66 = .ok (.if_icmp .le 6, 3) := by decide +kernel
theorem dX6_feed_69 : decode cX6_feed 69 = .ok (.bipush (-4), 2) := by decide +kernel
theorem dX6_feed_71 : decode cX6_feed 71 = .ok (.ireturn, 1) := by decide +kernel
theorem dX6_feed_72 : decode cX6_feed 72 = .ok (.aload_n 0, 1) := by decide +kernel
theorem dX6_feed_73 : decode cX6_feed 73 = .ok (.getfield 34, 3) := by decide +kernel
theorem dX6_feed_76 : decode cX6_feed 76 = .ok (.iload_n 2, 1) := by decide +kernel
theorem dX6_feed_77 : decode cX6_feed 77 = .ok (.invokevirtual 101, 3) := by decide +kernel
theorem dX6_feed_80 : decode cX6_feed 80 = .ok (.iload_n 1, 1) := by decide +kernel
theorem dX6_feed_81 : decode cX6_feed 81 = .ok (.iconst 1, 1) := by decide +kernel
theorem dX6_feed_82 : decode cX6_feed 82 = .ok (.if_icmp .le 11, 3) := by decide +kernel
theorem dX6_feed_85 : decode cX6_feed 85 = .ok (.aload_n 0, 1) := by decide +kernel
theorem dX6_feed_86 : decode cX6_feed 86 = .ok (.getfield 34, 3) := by decide +kernel
theorem dX6_feed_89 : decode cX6_feed 89 = .ok (.iload_n 3, 1) := by decide +kernel
theorem dX6_feed_90 : decode cX6_feed 90 = .ok (.invokevirtual 101, 3) := by decide +kernel
theorem dX6_feed_93 : decode cX6_feed 93 = .ok (.iload_n 1, 1) := by decide +kernel
theorem dX6_feed_94 : decode cX6_feed 94 = .ok (.iconst 2, 1) := by decide +kernel
theorem dX6_feed_95 : decode cX6_feed 95 = .ok (.if_icmp .le 12, 3) := by decide +kernel
theorem dX6_feed_98 : decode cX6_feed 98 = .ok (.aload_n 0, 1) := by decide +kernel
theorem dX6_feed_99 : decode cX6_feed 99 = .ok (.getfield 34, 3) := by decide +kernel
theorem dX6_feed_102 : decode cX6_feed 102 = .ok (.iload 4, 2) := by decide +kernel
theorem dX6_feed_104 : decode cX6_feed 104 = .ok (.invokevirtual 101, 3) := by decide +kernel
theorem dX6_feed_107 : decode cX6_feed 107 = .ok (.iload_n 1, 1) := by decide +kernel
theorem dX6_feed_108 : decode cX6_feed 108 = .ok (.iconst 3, 1) := by decide +kernel
theorem dX6_feed_109 : decode cX6_feed 109 = .ok (.if_icmp .le 12, 3) := by decide +kernel
theorem dX6_feed_112 : decode cX6_feed 112 = .ok (.aload_n 0, 1) := by decide +kernel
theorem dX6_feed_113 : decode cX6_feed 113 = .ok (.getfield 34, 3) := by decide +kernel
theorem dX6_feed_116 : decode cX6_feed 116 = .ok (.iload 5, 2) := by decide +kernel
theorem dX6_feed_118 : decode cX6_feed 118 = .ok (.invokevirtual 101, 3) := by decide +kernel
theorem dX6_feed_121 : decode cX6_feed 121 = .ok (.iload_n 1, 1) := by decide +kernel
theorem dX6_feed_122 : decode cX6_feed 122 = .ok (.iconst 4, 1) := by decide +kernel
theorem dX6_feed_123 : decode cX6_feed 123 = .ok (.if_icmp .le 12, 3) := by decide +kernel
theorem dX6_feed_126 : decode cX6_feed 126 = .ok (.aload_n 0, 1) := by decide +kernel
theorem dX6_feed_127 : decode cX6_feed 127 = .ok (.getfield 34, 3) := by decide +kernel
theorem dX6_feed_130 : decode cX6_feed 130 = .ok (.iload 6, 2) := by decide +kernel
theorem dX6_feed_132 : decode cX6_feed 132 = .ok (.invokevirtual 101, 3) := by decide +kernel
theorem dX6_feed_135 : decode cX6_feed 135 = .ok (.aload_n 0, 1) := by decide +kernel
theorem dX6_feed_136 : decode cX6_feed 136 = .ok (.getfield 34, 3) := by decide +kernel
theorem dX6_feed_139 : decode cX6_feed 139 = .ok (.getfield 94, 3) := by decide +kernel
theorem dX6_feed_142 : decode cX6_feed 142 = .ok (.ireturn, 1) := by decide +kernel
theorem dX6_text_0 : decode cX6_text 0 = .ok (.aload_n 0, 1) := by decide +kernel
theorem dX6_text_1 : decode cX6_text 1 = .ok (.getfield 81, 3) := by decide +kernel
theorem dX6_text_4 : decode cX6_text 4 = .ok (.bipush 6, 2) := by decide +kernel
theorem dX6_text_6 : decode cX6_text 6 = .ok (.if_icmp .lt 6, 3) := by decide +kernel
theorem dX6_text_9 : decode cX6_text 9 = .ok (.bipush (-4), 2) := by decide +kernel
theorem dX6_text_11 : decode cX6_text 11 = .ok (.ireturn, 1) := by decide +kernel
theorem dX6_text_12 : decode cX6_text 12 = .ok (.aload_n 0, 1) := by decide +kernel
theorem dX6_text_13 : decode cX6_text 13 = .ok (.getfield 34, 3) := by decide +kernel
theorem dX6_text_16 : decode cX6_text 16 = .ok (.invokevirtual 74, 3) := by decide +kernel
theorem dX6_text_19 : decode cX6_text 19 = .ok (.astore_n 1, 1) := by decide +kernel
theorem dX6_text_20 : decode cX6_text 20 = .ok (.aload_n 0, 1) := by decide +kernel
theorem dX6_text_21 : decode cX6_text 21 = .ok (.getfield 34, 3) := by decide +kernel
theorem dX6_text_24 : decode cX6_text 24 = .ok (.getfield 105, 3) := by decide +kernel
theorem dX6_text_27 : decode cX6_text 27 = .ok (.istore_n 2, 1) := by decide +kernel
theorem dX6_text_28 : decode cX6_text 28 = .ok (.aload_n 0, 1) := by decide +kernel
theorem dX6_text_29 : decode cX6_text 29 = .ok (.getfield 34, 3) := by decide +kernel
theorem dX6_text_32 : decode cX6_text 32 = .ok (.invokevirtual 78, 3) := by decide +kernel
theorem dX6_text_35 : decode cX6_text 35 = .ok (.aload_n 1, 1) := by decide +kernel
theorem dX6_text_36 : decode cX6_text 36 = .ok (.ifnonnull 8, 3) := by decide +kernel
theorem dX6_text_39 : decode cX6_text 39 = .ok (.bipush (-100), 2) := by decide +kernel
theorem dX6_text_41 : decode cX6_text 41 = .ok (.iload_n 2, 1) := by decide +kernel
theorem dX6_text_42 : decode cX6_text 42 = .ok (.isub, 1) := by decide +kernel
theorem dX6_text_43 : decode cX6_text 43 = .ok (.ireturn, 1) := by decide +kernel
theorem dX6_text_44 : decode cX6_text 44 = .ok (.aload_n 0, 1) := by decide +kernel
theorem dX6_text_45 : decode cX6_text 45 = .ok (.getfield 27, 3) := by decide +kernel
theorem dX6_text_48 : decode cX6_text 48 = .ok (.aload_n 0, 1) := by decide +kernel
theorem dX6_text_49 : decode cX6_text 49 = .ok (.getfield 81, 3) := by decide +kernel
theorem dX6_text_52 : decode cX6_text 52 = .ok (.aload_n 1, 1) := by decide +kernel
theorem dX6_text_53 : decode cX6_text 53 = .ok (.aastore, 1) := by decide +kernel
theorem dX6_text_54 : decode cX6_text 54 = .ok (.aload_n 0, 1) := by decide +kernel
theorem dX6_text_55 : decode cX6_text 55 = .ok (.dup, 1) := by decide +kernel
theorem dX6_text_56 : decode cX6_text 56 = .ok (.getfield 81, 3) := by decide +kernel
theorem dX6_text_59 : decode cX6_text 59 = .ok (.iconst 1, 1) := by decide +kernel
theorem dX6_text_60 : decode cX6_text 60 = .ok (.iadd, 1) := by decide +kernel
theorem dX6_text_61 : decode cX6_text 61 = .ok (.putfield 81, 3) := by decide +kernel
theorem dX6_text_64 : decode cX6_text 64 = .ok (.aload_n 0, 1) := by decide +kernel
theorem dX6_text_65 : decode cX6_text 65 = .ok (.getfield 81, 3) := by decide +kernel
theorem dX6_text_68 : decode cX6_text 68 = .ok (.iconst 1, 1) := by decide +kernel
theorem dX6_text_69 : decode cX6_text 69 = .ok (.isub, 1) := by decide +kernel
theorem dX6_text_70 : decode cX6_text 70 = .ok (.ireturn, 1) := by decide +kernel
theorem dX6_force_0 : decode cX6_force 0 = .ok (.iload_n 1, 1) := by decide +kernel
theorem dX6_force_1 : decode cX6_force 1 = .ok (.ifCond .lt 11, 3) := by decide +kernel
theorem dX6_force_4 : decode cX6_force 4 = .ok (.iload_n 1, 1) := by decide +kernel
theorem dX6_force_5 : decode cX6_force 5 = .ok (.aload_n 0, 1) := by decide +kernel
theorem dX6_force_6 : decode cX6_force 6 = .ok (.getfield 81, 3) := by decide +kernel
theorem dX6_force_9 : decode cX6_force 9 = .ok (.if_icmp .lt 6, 3) := by decide +kernel
theorem dX6_force_12 : decode cX6_force 12 = .ok (.bipush (-2), 2) := by decide +kernel
theorem dX6_force_14 : decode cX6_force 14 = .ok (.ireturn, 1) := by decide +kernel
theorem dX6_force_15 : decode cX6_force 15 = .ok (.aload_n 0, 1) := by decide +kernel
theorem dX6_force_16 : decode cX6_force 16 = .ok (.getfield 91, 3) := by decide +kernel
theorem dX6_force_19 : decode cX6_force 19 = .ok (.istore_n 2, 1) := by decide +kernel
theorem dX6_force_20 : decode cX6_force 20 = .ok (.aload_n 0, 1) := by decide +kernel
theorem dX6_force_21 : decode cX6_force 21 = .ok (.iload_n 1, 1) := by decide +kernel
theorem dX6_force_22 : decode cX6_force 22 = .ok (.putfield 91, 3) := by decide +kernel
theorem dX6_force_25 : decode cX6_force 25 = .ok (.iload_n 2, 1) := by decide +kernel
theorem dX6_force_26 : decode cX6_force 26 = .ok (.ireturn, 1) := by decide +kernel
theorem dX6_asks_0 : decode cX6_asks 0 = .ok (.iload_n 1, 1) := by decide +kernel
theorem dX6_asks_1 : decode cX6_asks 1 = .ok (.ifCond .lt 28, 3) := by decide +kernel
theorem dX6_asks_4 : decode cX6_asks 4 = .ok (.iload_n 1, 1) := by decide +kernel
theorem dX6_asks_5 : decode cX6_asks 5 = .ok (.iconst 2, 1) := by decide +kernel
theorem dX6_asks_6 : decode cX6_asks 6 = .ok (.if_icmp .gt 23, 3) := by decide +kernel
theorem dX6_asks_9 : decode cX6_asks 9 = .ok (.iload_n 2, 1) := by decide +kernel
theorem dX6_asks_10 : decode cX6_asks 10 = .ok (.ifCond .lt 19, 3) := by decide +kernel
theorem dX6_asks_13 : decode cX6_asks 13 = .ok (.iload_n 2, 1) := by decide +kernel
theorem dX6_asks_14 : decode cX6_asks 14 = .ok (.bipush 99, 2) := by decide +kernel
theorem dX6_asks_16 : decode cX6_asks 16 = .ok (.if_icmp .gt 13, 3) := by decide +kernel
theorem dX6_asks_19 : decode cX6_asks 19 = .ok (.iload_n 3, 1) := by decide +kernel
theorem dX6_asks_20 : decode cX6_asks 20 = .ok (.ifCond .lt 9, 3) := by decide +kernel
theorem dX6_asks_23 : decode cX6_asks 23 = .ok (.iload_n 3, 1) := by decide +kernel
theorem dX6_asks_24 : decode cX6_asks 24 = .ok (.bipush 99, 2) := by decide +kernel
theorem dX6_asks_26 : decode cX6_asks 26 = .ok (.if_icmp .le 6, 3) := by decide +kernel
theorem dX6_asks_29 : decode cX6_asks 29 = .ok (.bipush (-2), 2) := by decide +kernel
theorem dX6_asks_31 : decode cX6_asks 31 = .ok (.ireturn, 1) := by decide +kernel
theorem dX6_asks_32 : decode cX6_asks 32 = .ok (.iload 4, 2) := by decide +kernel
theorem dX6_asks_34 : decode cX6_asks 34 = .ok (.ifCond .lt 22, 3) := by decide +kernel
theorem dX6_asks_37 : decode cX6_asks 37 = .ok (.iload 4, 2) := by decide +kernel
theorem dX6_asks_39 : decode cX6_asks 39 = .ok (.bipush 39, 2) := by decide +kernel
theorem dX6_asks_41 : decode cX6_asks 41 = .ok (.if_icmp .gt 15, 3) := by decide +kernel
theorem dX6_asks_44 : decode cX6_asks 44 = .ok (.iload 5, 2) := by decide +kernel
theorem dX6_asks_46 : decode cX6_asks 46 = .ok (.ifCond .lt 10, 3) := by decide +kernel
theorem dX6_asks_49 : decode cX6_asks 49 = .ok (.iload 5, 2) := by decide +kernel
theorem dX6_asks_51 : decode cX6_asks 51 = .ok (.bipush 7, 2) := by decide +kernel
theorem dX6_asks_53 : decode cX6_asks 53 = .ok (.if_icmp .lt 6, 3) := by decide +kernel
theorem dX6_asks_56 : decode cX6_asks 56 = .ok (.bipush (-2), 2) := by decide +kernel
theorem dX6_asks_58 : decode cX6_asks 58 = .ok (.ireturn, 1) := by decide +kernel
theorem dX6_asks_59 : decode cX6_asks 59 = .ok (.aload_n 0, 1) := by decide +kernel
theorem dX6_asks_60 : decode cX6_asks 60 = .ok (.invokevirtual 108, 3) := by decide +kernel
theorem dX6_asks_63 : decode cX6_asks 63 = .ok (.astore 6, 2) := by decide +kernel
theorem dX6_asks_65 : decode cX6_asks 65 = .ok (.aload 6, 2) := by decide +kernel
theorem dX6_asks_67 : decode cX6_asks 67 = .ok (.ifnonnull 6, 3) := by decide +kernel
theorem dX6_asks_70 : decode cX6_asks 70 = .ok (.bipush (-2), 2) := by decide +kernel
theorem dX6_asks_72 : decode cX6_asks 72 = .ok (.ireturn, 1) := by decide +kernel
theorem dX6_asks_73 : decode cX6_asks 73 = .ok (.aload_n 0, 1) := by decide +kernel
theorem dX6_asks_74 : decode cX6_asks 74 = .ok (.getfield 65, 3) := by decide +kernel
theorem dX6_asks_77 : decode cX6_asks 77 = .ok (.iload_n 2, 1) := by decide +kernel
theorem dX6_asks_78 : decode cX6_asks 78 = .ok (.bipush 10, 2) := by decide +kernel
theorem dX6_asks_80 : decode cX6_asks 80 = .ok (.idiv, 1) := by decide +kernel
theorem dX6_asks_81 : decode cX6_asks 81 = .ok (.iload_n 2, 1) := by decide +kernel
theorem dX6_asks_82 : decode cX6_asks 82 = .ok (.bipush 10, 2) := by decide +kernel
theorem dX6_asks_84 : decode cX6_asks 84 = .ok (.irem, 1) := by decide +kernel
theorem dX6_asks_85 : decode cX6_asks 85 = .ok (.iload_n 3, 1) := by decide +kernel
theorem dX6_asks_86 : decode cX6_asks 86 = .ok (.invokestatic 111, 3) := by decide +kernel
theorem dX6_asks_89 : decode cX6_asks 89 = .ok (.aload_n 0, 1) := by decide +kernel
theorem dX6_asks_90 : decode cX6_asks 90 = .ok (.getfield 65, 3) := by decide +kernel
theorem dX6_asks_93 : decode cX6_asks 93 = .ok (.iload 4, 2) := by decide +kernel
theorem dX6_asks_95 : decode cX6_asks 95 = .ok (.bipush 10, 2) := by decide +kernel
theorem dX6_asks_97 : decode cX6_asks 97 = .ok (.idiv, 1) := by decide +kernel
theorem dX6_asks_98 : decode cX6_asks 98 = .ok (.iload 4, 2) := by decide +kernel
theorem dX6_asks_100 : decode cX6_asks 100 = .ok (.bipush 10, 2) := by decide +kernel
theorem dX6_asks_102 : decode cX6_asks 102 = .ok (.irem, 1) := by decide +kernel
theorem dX6_asks_103 : decode cX6_asks 103 = .ok (.iload 5, 2) := by decide +kernel
theorem dX6_asks_105 : decode cX6_asks 105 = .ok (.invokestatic 115, 3) := by decide +kernel
theorem dX6_asks_108 : decode cX6_asks 108 = .ok (.aload 6, 2) := by decide +kernel
theorem dX6_asks_110 : decode cX6_asks 110 = .ok (.iload_n 1, 1) := by decide +kernel
theorem dX6_asks_111 : decode cX6_asks 111 = .ok (.aload_n 0, 1) := by decide +kernel
theorem dX6_asks_112 : decode cX6_asks 112 = .ok (.getfield 65, 3) := by decide +kernel
theorem dX6_asks_115 : decode cX6_asks 115 = .ok (.invokevirtual 118, 3) := by decide +kernel
theorem dX6_asks_118 : decode cX6_asks 118 = .ok (.ireturn, 1) := by decide +kernel
theorem dX6_come_0 : decode cX6_come 0 = .ok (.iload_n 1, 1) := by decide +kernel
theorem dX6_come_1 : decode cX6_come 1 = .ok (.ifCond .lt 19, 3) := by decide +kernel
theorem dX6_come_4 : decode cX6_come 4 = .ok (.iload_n 1, 1) := by decide +kernel
theorem dX6_come_5 : decode cX6_come 5 = .ok (.bipush 60, 2) := by decide +kernel
theorem dX6_come_7 : decode cX6_come 7 = .ok (.if_icmp .ge 13, 3) := by decide +kernel
theorem dX6_come_10 : decode cX6_come 10 = .ok (.iload_n 2, 1) := by decide +kernel
theorem dX6_come_11 : decode cX6_come 11 = .ok (.ifCond .lt 9, 3) := by decide +kernel
theorem dX6_come_14 : decode cX6_come 14 = .ok (.iload_n 2, 1) := by decide +kernel
theorem dX6_come_15 : decode cX6_come 15 = .ok (.bipush 20, 2) := by decide +kernel
theorem dX6_come_17 : decode cX6_come 17 = .ok (.if_icmp .le 6, 3) := by decide +kernel
theorem dX6_come_20 : decode cX6_come 20 = .ok (.bipush (-2), 2) := by decide +kernel
theorem dX6_come_22 : decode cX6_come 22 = .ok (.ireturn, 1) := by decide +kernel
theorem dX6_come_23 : decode cX6_come 23 = .ok (.iload_n 3, 1) := by decide +kernel
theorem dX6_come_24 : decode cX6_come 24 = .ok (.invokestatic 122, 3) := by decide +kernel
theorem dX6_come_27 : decode cX6_come 27 = .ok (.ifCond .ne 6, 3) := by decide +kernel
theorem dX6_come_30 : decode cX6_come 30 = .ok (.bipush (-2), 2) := by decide +kernel
theorem dX6_come_32 : decode cX6_come 32 = .ok (.ireturn, 1) := by decide +kernel
theorem dX6_come_33 : decode cX6_come 33 = .ok (.aload_n 0, 1) := by decide +kernel
theorem dX6_come_34 : decode cX6_come 34 = .ok (.getfield 85, 3) := by decide +kernel
theorem dX6_come_37 : decode cX6_come 37 = .ok (.bipush 7, 2) := by decide +kernel
theorem dX6_come_39 : decode cX6_come 39 = .ok (.if_icmp .lt 6, 3) := by decide +kernel
theorem dX6_come_42 : decode cX6_come 42 = .ok (.bipush (-4), 2) := by decide +kernel
theorem dX6_come_44 : decode cX6_come 44 = .ok (.ireturn, 1) := by decide +kernel
theorem dX6_come_45 : decode cX6_come 45 = .ok (.aload_n 0, 1) := by decide +kernel
theorem dX6_come_46 : decode cX6_come 46 = .ok (.getfield 11, 3) := by decide +kernel
theorem dX6_come_49 : decode cX6_come 49 = .ok (.aload_n 0, 1) := by decide +kernel
theorem dX6_come_50 : decode cX6_come 50 = .ok (.getfield 85, 3) := by decide +kernel
theorem dX6_come_53 : decode cX6_come 53 = .ok (.new 9, 3) := by decide +kernel
theorem dX6_come_56 : decode cX6_come 56 = .ok (.dup, 1) := by decide +kernel
theorem dX6_come_57 : decode cX6_come 57 = .ok (.iload_n 1, 1) := by decide +kernel
theorem dX6_come_58 : decode cX6_come 58 = .ok (.bipush 10, 2) := by decide +kernel
theorem dX6_come_60 : decode cX6_come 60 = .ok (.idiv, 1) := by decide +kernel
theorem dX6_come_61 : decode cX6_come 61 = .ok (.iload_n 1, 1) := by decide +kernel
theorem dX6_come_62 : decode cX6_come 62 = .ok (.bipush 10, 2) := by decide +kernel
theorem dX6_come_64 : decode cX6_come 64 = .ok (.irem, 1) := by decide +kernel
theorem dX6_come_65 : decode cX6_come 65 = .ok (.iload_n 2, 1) := by decide +kernel
theorem dX6_come_66 : decode cX6_come 66 = .ok (.iload_n 3, 1) := by decide +kernel
theorem dX6_come_67 : decode cX6_come 67 = .ok (.invokespecial 125, 3) := by decide +kernel
theorem dX6_come_70 : decode cX6_come 70 = .ok (.aastore, 1) := by decide +kernel
theorem dX6_come_71 : decode cX6_come 71 = .ok (.aload_n 0, 1) := by decide +kernel
theorem dX6_come_72 : decode cX6_come 72 = .ok (.dup, 1) := by decide +kernel
theorem dX6_come_73 : decode cX6_come 73 = .ok (.getfield 85, 3) := by decide +kernel
theorem dX6_come_76 : decode cX6_come 76 = .ok (.iconst 1, 1) := by decide +kernel
theorem dX6_come_77 : decode cX6_come 77 = .ok (.iadd, 1) := by decide +kernel
theorem dX6_come_78 : decode cX6_come 78 = .ok (.putfield 85, 3) := by decide +kernel
theorem dX6_come_81 : decode cX6_come 81 = .ok (.aload_n 0, 1) := by decide +kernel
theorem dX6_come_82 : decode cX6_come 82 = .ok (.getfield 85, 3) := by decide +kernel
theorem dX6_come_85 : decode cX6_come 85 = .ok (.iconst 1, 1) := by decide +kernel
theorem dX6_come_86 : decode cX6_come 86 = .ok (.isub, 1) := by decide +kernel
theorem dX6_come_87 : decode cX6_come 87 = .ok (.ireturn, 1) := by decide +kernel
theorem dX6_learn_0 : decode cX6_learn 0 = .ok (.aload_n 0, 1) := by decide +kernel
theorem dX6_learn_1 : decode cX6_learn 1 = .ok (.iload_n 1, 1) := by decide +kernel
theorem dX6_learn_2 : decode cX6_learn 2 = .ok (.invokevirtual 128, 3) := by decide +kernel
theorem dX6_learn_5 : decode cX6_learn 5 = .ok (.astore 4, 2) := by decide +kernel
theorem dX6_learn_7 : decode cX6_learn 7 = .ok (.aload 4, 2) := by decide +kernel
theorem dX6_learn_9 : decode cX6_learn 9 = .ok (.ifnonnull 6, 3) := by decide +kernel
theorem dX6_learn_12 : decode cX6_learn 12 = .ok (.bipush (-5), 2) := by decide +kernel
theorem dX6_learn_14 : decode cX6_learn 14 = .ok (.ireturn, 1) := by decide +kernel
theorem dX6_learn_15 : decode cX6_learn 15 = .ok (.iload_n 2, 1) := by decide +kernel
theorem dX6_learn_16 : decode cX6_learn 16 = .ok (.invokestatic 132, 3) := by decide +kernel
theorem dX6_learn_19 : decode cX6_learn 19 = .ok (.ifCond .eq 13, 3) := by decide +kernel
theorem dX6_learn_22 : decode cX6_learn 22 = .ok (.iload_n 3, 1) := by decide +kernel
theorem dX6_learn_23 : decode cX6_learn 23 = .ok (.ifCond .lt 9, 3) := by decide +kernel
theorem dX6_learn_26 : decode cX6_learn 26 = .ok (.iload_n 3, 1) := by decide +kernel
theorem dX6_learn_27 : decode cX6_learn 27 = .ok (.bipush 9, 2) := by decide +kernel
theorem dX6_learn_29 : decode cX6_learn 29 = .ok (.if_icmp .le 6, 3) := by decide +kernel
theorem dX6_learn_32 : decode cX6_learn 32 = .ok (.bipush (-7), 2) := by decide +kernel
theorem dX6_learn_34 : decode cX6_learn 34 = .ok (.ireturn, 1) := by decide +kernel
theorem dX6_learn_35 : decode cX6_learn 35 = .ok (.aload 4, 2) := by decide +kernel
theorem dX6_learn_37 : decode cX6_learn 37 = .ok (.iload_n 2, 1) := by decide +kernel
theorem dX6_learn_38 : decode cX6_learn 38 = .ok (.invokevirtual 135, 3) := by decide +kernel
theorem dX6_learn_41 : decode cX6_learn 41 = .ok (.istore 5, 2) := by decide +kernel
theorem dX6_learn_43 : decode cX6_learn 43 = .ok (.aload 4, 2) := by decide +kernel
theorem dX6_learn_45 : decode cX6_learn 45 = .ok (.iload_n 2, 1) := by decide +kernel
theorem dX6_learn_46 : decode cX6_learn 46 = .ok (.iload_n 3, 1) := by decide +kernel
theorem dX6_learn_47 : decode cX6_learn 47 = .ok (.invokevirtual 139, 3) := by decide +kernel
theorem dX6_learn_50 : decode cX6_learn 50 = .ok (.iload 5, 2) := by decide +kernel
theorem dX6_learn_52 : decode cX6_learn 52 = .ok (.ireturn, 1) := by decide +kernel
theorem dX6_sit_0 : decode cX6_sit 0 = .ok (.aload_n 0, 1) := by decide +kernel
theorem dX6_sit_1 : decode cX6_sit 1 = .ok (.iload_n 1, 1) := by decide +kernel
theorem dX6_sit_2 : decode cX6_sit 2 = .ok (.invokevirtual 128, 3) := by decide +kernel
theorem dX6_sit_5 : decode cX6_sit 5 = .ok (.astore_n 3, 1) := by decide +kernel
theorem dX6_sit_6 : decode cX6_sit 6 = .ok (.aload_n 3, 1) := by decide +kernel
theorem dX6_sit_7 : decode cX6_sit 7 = .ok (.ifnonnull 6, 3) := by decide +kernel
theorem dX6_sit_10 : decode cX6_sit 10 = .ok (.bipush (-5), 2) := by decide +kernel
theorem dX6_sit_12 : decode cX6_sit 12 = .ok (.ireturn, 1) := by decide +kernel
theorem dX6_sit_13 : decode cX6_sit 13 = .ok (.iload_n 2, 1) := by decide +kernel
theorem dX6_sit_14 : decode cX6_sit 14 = .ok (.invokestatic 122, 3) := by decide +kernel
theorem dX6_sit_17 : decode cX6_sit 17 = .ok (.ifCond .ne 6, 3) := by decide +kernel
theorem dX6_sit_20 : decode cX6_sit 20 = .ok (.bipush (-7), 2) := by decide +kernel
theorem dX6_sit_22 : decode cX6_sit 22 = .ok (.ireturn, 1) := by decide +kernel
theorem dX6_sit_23 : decode cX6_sit 23 = .ok (.aload_n 3, 1) := by decide +kernel
theorem dX6_sit_24 : decode cX6_sit 24 = .ok (.getfield 143, 3) := by decide +kernel
theorem dX6_sit_27 : decode cX6_sit 27 = .ok (.istore 4, 2) := by decide +kernel
theorem dX6_sit_29 : decode cX6_sit 29 = .ok (.aload_n 3, 1) := by decide +kernel
theorem dX6_sit_30 : decode cX6_sit 30 = .ok (.iload_n 2, 1) := by decide +kernel
theorem dX6_sit_31 : decode cX6_sit 31 = .ok (.putfield 143, 3) := by decide +kernel
theorem dX6_sit_34 : decode cX6_sit 34 = .ok (.iload 4, 2) := by decide +kernel
theorem dX6_sit_36 : decode cX6_sit 36 = .ok (.ireturn, 1) := by decide +kernel
theorem dX6_told_0 : decode cX6_told 0 = .ok (.aload_n 0, 1) := by decide +kernel
theorem dX6_told_1 : decode cX6_told 1 = .ok (.iload_n 1, 1) := by decide +kernel
theorem dX6_told_2 : decode cX6_told 2 = .ok (.invokevirtual 128, 3) := by decide +kernel
theorem dX6_told_5 : decode cX6_told 5 = .ok (.astore_n 3, 1) := by decide +kernel
theorem dX6_told_6 : decode cX6_told 6 = .ok (.aload_n 3, 1) := by decide +kernel
theorem dX6_told_7 : decode cX6_told 7 = .ok (.ifnonnull 6, 3) := by decide +kernel
theorem dX6_told_10 : decode cX6_told 10 = .ok (.bipush (-5), 2) := by decide +kernel
theorem dX6_told_12 : decode cX6_told 12 = .ok (.ireturn, 1) := by decide +kernel
theorem dX6_told_13 : decode cX6_told 13 = .ok (.iload_n 2, 1) := by decide +kernel
theorem dX6_told_14 : decode cX6_told 14 = .ok (.invokestatic 132, 3) := by decide +kernel
theorem dX6_told_17 : decode cX6_told 17 = .ok (.ifCond .eq 9, 3) := by decide +kernel
theorem dX6_told_20 : decode cX6_told 20 = .ok (.aload_n 3, 1) := by decide +kernel
theorem dX6_told_21 : decode cX6_told 21 = .ok (.iload_n 2, 1) := by decide +kernel
theorem dX6_told_22 : decode cX6_told 22 = .ok (.invokevirtual 135, 3) := by decide +kernel
theorem dX6_told_25 : decode cX6_told 25 = .ok (.ireturn, 1) := by decide +kernel
theorem dX6_told_26 : decode cX6_told 26 = .ok (.iload_n 2, 1) := by decide +kernel
theorem dX6_told_27 : decode cX6_told 27 = .ok (.tableswitch 49 4 7 #[29, 34, 39, 44], 29) := by decide +kernel
theorem dX6_told_56 : decode cX6_told 56 = .ok (.aload_n 3, 1) := by decide +kernel
theorem dX6_told_57 : decode cX6_told 57 = .ok (.getfield 143, 3) := by decide +kernel
theorem dX6_told_60 : decode cX6_told 60 = .ok (.ireturn, 1) := by decide +kernel
theorem dX6_told_61 : decode cX6_told 61 = .ok (.aload_n 3, 1) := by decide +kernel
theorem dX6_told_62 : decode cX6_told 62 = .ok (.getfield 146, 3) := by decide +kernel
theorem dX6_told_65 : decode cX6_told 65 = .ok (.ireturn, 1) := by decide +kernel
theorem dX6_told_66 : decode cX6_told 66 = .ok (.aload_n 3, 1) := by decide +kernel
theorem dX6_told_67 : decode cX6_told 67 = .ok (.getfield 149, 3) := by decide +kernel
theorem dX6_told_70 : decode cX6_told 70 = .ok (.ireturn, 1) := by decide +kernel
theorem dX6_told_71 : decode cX6_told 71 = .ok (.aload_n 3, 1) := by decide +kernel
theorem dX6_told_72 : decode cX6_told 72 = .ok (.getfield 152, 3) := by decide +kernel
theorem dX6_told_75 : decode cX6_told 75 = .ok (.ireturn, 1) := by decide +kernel
theorem dX6_told_76 : decode cX6_told 76 = .ok (.bipush (-7), 2) := by decide +kernel
theorem dX6_told_78 : decode cX6_told 78 = .ok (.ireturn, 1) := by decide +kernel
theorem dX6_question_0 : decode cX6_question 0 = .ok (.iload_n 1, 1) := by decide +kernel
theorem dX6_question_1 : decode cX6_question 1 = .ok (.invokestatic 132, 3) := by decide +kernel
theorem dX6_question_4 : decode cX6_question 4 = .ok (.ifCond .eq 13, 3) := by decide +kernel
theorem dX6_question_7 : decode cX6_question 7 = .ok (.iload_n 2, 1) := by decide +kernel
theorem dX6_question_8 : decode cX6_question 8 = .ok (.ifCond .lt 9, 3) := by decide +kernel
theorem dX6_question_11 : decode cX6_question 11 = .ok (.iload_n 2, 1) := by decide +kernel
theorem dX6_question_12 : decode cX6_question 12 = .ok (.bipush 9, 2) := by decide +kernel
theorem dX6_question_14 : decode cX6_question 14 = .ok (.if_icmp .le 6, 3) := by decide +kernel
theorem dX6_question_17 : decode cX6_question 17 = .ok (.bipush (-2), 2) := by decide +kernel
theorem dX6_question_19 : decode cX6_question 19 = .ok (.ireturn, 1) := by decide +kernel
theorem dX6_question_20 : decode cX6_question 20 = .ok (.aload_n 0, 1) := by decide +kernel
theorem dX6_question_21 : decode cX6_question 21 = .ok (.getfield 88, 3) := by decide +kernel
theorem dX6_question_24 : decode cX6_question 24 = .ok (.bipush 8, 2) := by decide +kernel
theorem dX6_question_26 : decode cX6_question 26 = .ok (.if_icmp .lt 6, 3) := by decide +kernel
theorem dX6_question_29 : decode cX6_question 29 = .ok (.bipush (-4), 2) := by decide +kernel
theorem dX6_question_31 : decode cX6_question 31 = .ok (.ireturn, 1) := by decide +kernel
theorem dX6_question_32 : decode cX6_question 32 = .ok (.aload_n 0, 1) := by decide +kernel
theorem dX6_question_33 : decode cX6_question 33 = .ok (.getfield 15, 3) := by decide +kernel
theorem dX6_question_36 : decode cX6_question 36 = .ok (.aload_n 0, 1) := by decide +kernel
theorem dX6_question_37 : decode cX6_question 37 = .ok (.getfield 88, 3) := by decide +kernel
theorem dX6_question_40 : decode cX6_question 40 = .ok (.iload_n 1, 1) := by decide +kernel
theorem dX6_question_41 : decode cX6_question 41 = .ok (.iastore, 1) := by decide +kernel
theorem dX6_question_42 : decode cX6_question 42 = .ok (.aload_n 0, 1) := by decide +kernel
theorem dX6_question_43 : decode cX6_question 43 = .ok (.getfield 19, 3) := by decide +kernel
theorem dX6_question_46 : decode cX6_question 46 = .ok (.aload_n 0, 1) := by decide +kernel
theorem dX6_question_47 : decode cX6_question 47 = .ok (.getfield 88, 3) := by decide +kernel
theorem dX6_question_50 : decode cX6_question 50 = .ok (.iload_n 2, 1) := by decide +kernel
theorem dX6_question_51 : decode cX6_question 51 = .ok (.iastore, 1) := by decide +kernel
theorem dX6_question_52 : decode cX6_question 52 = .ok (.aload_n 0, 1) := by decide +kernel
theorem dX6_question_53 : decode cX6_question 53 = .ok (.dup, 1) := by decide +kernel
theorem dX6_question_54 : decode cX6_question 54 = .ok (.getfield 88, 3) := by decide +kernel
theorem dX6_question_57 : decode cX6_question 57 = .ok (.iconst 1, 1) := by decide +kernel
theorem dX6_question_58 : decode cX6_question 58 = .ok (.iadd, 1) := by decide +kernel
theorem dX6_question_59 : decode cX6_question 59 = .ok (.putfield 88, 3) := by decide +kernel
theorem dX6_question_62 : decode cX6_question 62 = .ok (.aload_n 0, 1) := by decide +kernel
theorem dX6_question_63 : decode cX6_question 63 = .ok (.getfield 88, 3) := by decide +kernel
theorem dX6_question_66 : decode cX6_question 66 = .ok (.iconst 1, 1) := by decide +kernel
theorem dX6_question_67 : decode cX6_question 67 = .ok (.isub, 1) := by decide +kernel
theorem dX6_question_68 : decode cX6_question 68 = .ok (.ireturn, 1) := by decide +kernel
theorem dX6_askedOf_0 : decode cX6_askedOf 0 = .ok (.aload_n 0, 1) := by decide +kernel
theorem dX6_askedOf_1 : decode cX6_askedOf 1 = .ok (.iload_n 1, 1) := by decide +kernel
theorem dX6_askedOf_2 : decode cX6_askedOf 2 = .ok (.invokevirtual 155, 3) := by decide +kernel
theorem dX6_askedOf_5 : decode cX6_askedOf 5 = .ok (.ifCond .ne 6, 3) := by decide +kernel
theorem dX6_askedOf_8 : decode cX6_askedOf 8 = .ok (.bipush (-5), 2) := by decide +kernel
theorem dX6_askedOf_10 : decode cX6_askedOf 10 = .ok (.ireturn, 1) := by decide +kernel
theorem dX6_askedOf_11 : decode cX6_askedOf 11 = .ok (.iload_n 2, 1) := by decide +kernel
theorem dX6_askedOf_12 : decode cX6_askedOf 12 = .ok (.invokestatic 158, 3) := by decide +kernel
theorem dX6_askedOf_15 : decode cX6_askedOf 15 = .ok (.ifCond .ne 6, 3) := by decide +kernel
theorem dX6_askedOf_18 : decode cX6_askedOf 18 = .ok (.bipush (-7), 2) := by decide +kernel
theorem dX6_askedOf_20 : decode cX6_askedOf 20 = .ok (.ireturn, 1) := by decide +kernel
theorem dX6_askedOf_21 : decode cX6_askedOf 21 = .ok (.iload_n 2, 1) := by decide +kernel
theorem dX6_askedOf_22 : decode cX6_askedOf 22 = .ok (.ifCond .ne 12, 3) := by decide +kernel
theorem dX6_askedOf_25 : decode cX6_askedOf 25 = .ok (.aload_n 0, 1) := by decide +kernel
theorem dX6_askedOf_26 : decode cX6_askedOf 26 = .ok (.getfield 15, 3) := by decide +kernel
theorem dX6_askedOf_29 : decode cX6_askedOf 29 = .ok (.iload_n 1, 1) := by decide +kernel
theorem dX6_askedOf_30 : decode cX6_askedOf 30 = .ok (.iaload, 1) := by decide +kernel
theorem dX6_askedOf_31 : decode cX6_askedOf 31 = .ok (.goto 9, 3) := by decide +kernel
theorem dX6_askedOf_34 : decode cX6_askedOf 34 = .ok (.aload_n 0, 1) := by decide +kernel
theorem dX6_askedOf_35 : decode cX6_askedOf 35 = .ok (.getfield 19, 3) := by decide +kernel
theorem dX6_askedOf_38 : decode cX6_askedOf 38 = .ok (.iload_n 1, 1) := by decide +kernel
theorem dX6_askedOf_39 : decode cX6_askedOf 39 = .ok (.iaload, 1) := by decide +kernel
theorem dX6_askedOf_40 : decode cX6_askedOf 40 = .ok (.ireturn, 1) := by decide +kernel
theorem dX6_lay_0 : decode cX6_lay 0 = .ok (.iload_n 1, 1) := by decide +kernel
theorem dX6_lay_1 : decode cX6_lay 1 = .ok (.invokestatic 161, 3) := by decide +kernel
theorem dX6_lay_4 : decode cX6_lay 4 = .ok (.ifCond .ne 6, 3) := by decide +kernel
theorem dX6_lay_7 : decode cX6_lay 7 = .ok (.bipush (-5), 2) := by decide +kernel
theorem dX6_lay_9 : decode cX6_lay 9 = .ok (.ireturn, 1) := by decide +kernel
theorem dX6_lay_10 : decode cX6_lay 10 = .ok (.iload_n 2, 1) := by decide +kernel
theorem dX6_lay_11 : decode cX6_lay 11 = .ok (.iconst (-1), 1) := by decide +kernel
theorem dX6_lay_12 : decode cX6_lay 12 = .ok (.if_icmp .eq 14, 3) := by decide +kernel
theorem dX6_lay_15 : decode cX6_lay 15 = .ok (.aload_n 0, 1) := by decide +kernel
theorem dX6_lay_16 : decode cX6_lay 16 = .ok (.iload_n 2, 1) := by decide +kernel
theorem dX6_lay_17 : decode cX6_lay 17 = .ok (.invokevirtual 155, 3) := by decide +kernel
theorem dX6_lay_20 : decode cX6_lay 20 = .ok (.ifCond .ne 6, 3) := by decide +kernel
theorem dX6_lay_23 : decode cX6_lay 23 = .ok (.bipush (-7), 2) := by decide +kernel
theorem dX6_lay_25 : decode cX6_lay 25 = .ok (.ireturn, 1) := by decide +kernel
theorem dX6_lay_26 : decode cX6_lay 26 = .ok (.aload_n 0, 1) := by decide +kernel
theorem dX6_lay_27 : decode cX6_lay 27 = .ok (.getfield 22, 3) := by decide +kernel
theorem dX6_lay_30 : decode cX6_lay 30 = .ok (.iload_n 1, 1) := by decide +kernel
theorem dX6_lay_31 : decode cX6_lay 31 = .ok (.iaload, 1) := by decide +kernel
theorem dX6_lay_32 : decode cX6_lay 32 = .ok (.istore_n 3, 1) := by decide +kernel
theorem dX6_lay_33 : decode cX6_lay 33 = .ok (.aload_n 0, 1) := by decide +kernel
theorem dX6_lay_34 : decode cX6_lay 34 = .ok (.getfield 22, 3) := by decide +kernel
theorem dX6_lay_37 : decode cX6_lay 37 = .ok (.iload_n 1, 1) := by decide +kernel
theorem dX6_lay_38 : decode cX6_lay 38 = .ok (.iload_n 2, 1) := by decide +kernel
theorem dX6_lay_39 : decode cX6_lay 39 = .ok (.iastore, 1) := by decide +kernel
theorem dX6_lay_40 : decode cX6_lay 40 = .ok (.iload_n 3, 1) := by decide +kernel
theorem dX6_lay_41 : decode cX6_lay 41 = .ok (.ireturn, 1) := by decide +kernel
theorem dX6_laid_0 : decode cX6_laid 0 = .ok (.iload_n 1, 1) := by decide +kernel
theorem dX6_laid_1 : decode cX6_laid 1 = .ok (.invokestatic 161, 3) := by decide +kernel
theorem dX6_laid_4 : decode cX6_laid 4 = .ok (.ifCond .eq 12, 3) := by decide +kernel
theorem dX6_laid_7 : decode cX6_laid 7 = .ok (.aload_n 0, 1) := by decide +kernel
theorem dX6_laid_8 : decode cX6_laid 8 = .ok (.getfield 22, 3) := by decide +kernel
theorem dX6_laid_11 : decode cX6_laid 11 = .ok (.iload_n 1, 1) := by decide +kernel
theorem dX6_laid_12 : decode cX6_laid 12 = .ok (.iaload, 1) := by decide +kernel
theorem dX6_laid_13 : decode cX6_laid 13 = .ok (.goto 5, 3) := by decide +kernel
theorem dX6_laid_16 : decode cX6_laid 16 = .ok (.bipush (-5), 2) := by decide +kernel
theorem dX6_laid_18 : decode cX6_laid 18 = .ok (.ireturn, 1) := by decide +kernel
theorem dX6_answer_0 : decode cX6_answer 0 = .ok (.iload_n 1, 1) := by decide +kernel
theorem dX6_answer_1 : decode cX6_answer 1 = .ok (.invokestatic 161, 3) := by decide +kernel
theorem dX6_answer_4 : decode cX6_answer 4 = .ok (.ifCond .eq 11, 3) := by decide +kernel
theorem dX6_answer_7 : decode cX6_answer 7 = .ok (.aload_n 0, 1) := by decide +kernel
theorem dX6_answer_8 : decode cX6_answer 8 = .ok (.iload_n 2, 1) := by decide +kernel
theorem dX6_answer_9 : decode cX6_answer 9 = .ok (.invokevirtual 155, 3) := by decide +kernel
theorem dX6_answer_12 : decode cX6_answer 12 = .ok (.ifCond .ne 6, 3) := by decide +kernel
theorem dX6_answer_15 : decode cX6_answer 15 = .ok (.bipush (-5), 2) := by decide +kernel
theorem dX6_answer_17 : decode cX6_answer 17 = .ok (.ireturn, 1) := by decide +kernel
theorem dX6_answer_18 : decode cX6_answer 18 = .ok (.iload_n 3, 1) := by decide +kernel
theorem dX6_answer_19 : decode cX6_answer 19 = .ok (.ifCond .lt 8, 3) := by decide +kernel
theorem dX6_answer_22 : decode cX6_answer 22 = .ok (.iload_n 3, 1) := by decide +kernel
theorem dX6_answer_23 : decode cX6_answer 23 = .ok (.iconst 2, 1) := by decide +kernel
theorem dX6_answer_24 : decode cX6_answer 24 = .ok (.if_icmp .le 6, 3) := by decide +kernel
theorem dX6_answer_27 : decode cX6_answer 27 = .ok (.bipush (-7), 2) := by decide +kernel
theorem dX6_answer_29 : decode cX6_answer 29 = .ok (.ireturn, 1) := by decide +kernel
theorem dX6_answer_30 : decode cX6_answer 30 = .ok (.aload_n 0, 1) := by decide +kernel
theorem dX6_answer_31 : decode cX6_answer 31 = .ok (.invokevirtual 164, 3) := by decide +kernel
theorem dX6_answer_34 : decode cX6_answer 34 = .ok (.aload_n 0, 1) := by decide +kernel
theorem dX6_answer_35 : decode cX6_answer 35 = .ok (.iload_n 1, 1) := by decide +kernel
theorem dX6_answer_36 : decode cX6_answer 36 = .ok (.invokevirtual 167, 3) := by decide +kernel
theorem dX6_answer_39 : decode cX6_answer 39 = .ok (.istore 4, 2) := by decide +kernel
theorem dX6_answer_41 : decode cX6_answer 41 = .ok (.iload_n 3, 1) := by decide +kernel
theorem dX6_answer_42 : decode cX6_answer 42 = .ok (.lookupswitch 48 #[(0, 26), (1, 37)], 26) := by decide +kernel
theorem dX6_answer_68 : decode cX6_answer 68 = .ok (.aload_n 0, 1) := by decide +kernel
theorem dX6_answer_69 : decode cX6_answer 69 = .ok (.getfield 55, 3) := by decide +kernel
theorem dX6_answer_72 : decode cX6_answer 72 = .ok (.iload 4, 2) := by decide +kernel
theorem dX6_answer_74 : decode cX6_answer 74 = .ok (.iload_n 2, 1) := by decide +kernel
theorem dX6_answer_75 : decode cX6_answer 75 = .ok (.invokevirtual 170, 3) := by decide +kernel
theorem dX6_answer_78 : decode cX6_answer 78 = .ok (.ireturn, 1) := by decide +kernel
theorem dX6_answer_79 : decode cX6_answer 79 = .ok (.aload_n 0, 1) := by decide +kernel
theorem dX6_answer_80 : decode cX6_answer 80 = .ok (.getfield 59, 3) := by decide +kernel
theorem dX6_answer_83 : decode cX6_answer 83 = .ok (.iload_n 1, 1) := by decide +kernel
theorem dX6_answer_84 : decode cX6_answer 84 = .ok (.iaload, 1) := by decide +kernel
theorem dX6_answer_85 : decode cX6_answer 85 = .ok (.iload_n 2, 1) := by decide +kernel
theorem dX6_answer_86 : decode cX6_answer 86 = .ok (.ishr, 1) := by decide +kernel
theorem dX6_answer_87 : decode cX6_answer 87 = .ok (.iconst 1, 1) := by decide +kernel
theorem dX6_answer_88 : decode cX6_answer 88 = .ok (.iand, 1) := by decide +kernel
theorem dX6_answer_89 : decode cX6_answer 89 = .ok (.ireturn, 1) := by decide +kernel
theorem dX6_answer_90 : decode cX6_answer 90 = .ok (.aload_n 0, 1) := by decide +kernel
theorem dX6_answer_91 : decode cX6_answer 91 = .ok (.getfield 55, 3) := by decide +kernel
theorem dX6_answer_94 : decode cX6_answer 94 = .ok (.iload 4, 2) := by decide +kernel
theorem dX6_answer_96 : decode cX6_answer 96 = .ok (.iload_n 2, 1) := by decide +kernel
theorem dX6_answer_97 : decode cX6_answer 97 = .ok (.invokevirtual 174, 3) := by decide +kernel
theorem dX6_answer_100 : decode cX6_answer 100 = .ok (.ireturn, 1) := by decide +kernel
theorem dX6_score_0 : decode cX6_score 0 = .ok (.iload_n 1, 1) := by decide +kernel
theorem dX6_score_1 : decode cX6_score 1 = .ok (.invokestatic 161, 3) := by decide +kernel
theorem dX6_score_4 : decode cX6_score 4 = .ok (.ifCond .ne 6, 3) := by decide +kernel
theorem dX6_score_7 : decode cX6_score 7 = .ok (.bipush (-5), 2) := by decide +kernel
theorem dX6_score_9 : decode cX6_score 9 = .ok (.ireturn, 1) := by decide +kernel
theorem dX6_score_10 : decode cX6_score 10 = .ok (.iload_n 2, 1) := by decide +kernel
theorem dX6_score_11 : decode cX6_score 11 = .ok (.ifCond .lt 8, 3) := by decide +kernel
theorem dX6_score_14 : decode cX6_score 14 = .ok (.iload_n 2, 1) := by decide +kernel
theorem dX6_score_15 : decode cX6_score 15 = .ok (.iconst 2, 1) := by decide +kernel
theorem dX6_score_16 : decode cX6_score 16 = .ok (.if_icmp .le 6, 3) := by decide +kernel
theorem dX6_score_19 : decode cX6_score 19 = .ok (.bipush (-7), 2) := by decide +kernel
theorem dX6_score_21 : decode cX6_score 21 = .ok (.ireturn, 1) := by decide +kernel
theorem dX6_score_22 : decode cX6_score 22 = .ok (.aload_n 0, 1) := by decide +kernel
theorem dX6_score_23 : decode cX6_score 23 = .ok (.invokevirtual 164, 3) := by decide +kernel
theorem dX6_score_26 : decode cX6_score 26 = .ok (.iload_n 2, 1) := by decide +kernel
theorem dX6_score_27 : decode cX6_score 27 = .ok (.lookupswitch 38 #[(0, 25), (1, 31)], 25) := by decide +kernel
theorem dX6_score_52 : decode cX6_score 52 = .ok (.aload_n 0, 1) := by decide +kernel
theorem dX6_score_53 : decode cX6_score 53 = .ok (.iload_n 1, 1) := by decide +kernel
theorem dX6_score_54 : decode cX6_score 54 = .ok (.invokevirtual 177, 3) := by decide +kernel
theorem dX6_score_57 : decode cX6_score 57 = .ok (.ireturn, 1) := by decide +kernel
theorem dX6_score_58 : decode cX6_score 58 = .ok (.aload_n 0, 1) := by decide +kernel
theorem dX6_score_59 : decode cX6_score 59 = .ok (.getfield 59, 3) := by decide +kernel
theorem dX6_score_62 : decode cX6_score 62 = .ok (.iload_n 1, 1) := by decide +kernel
theorem dX6_score_63 : decode cX6_score 63 = .ok (.iaload, 1) := by decide +kernel
theorem dX6_score_64 : decode cX6_score 64 = .ok (.ireturn, 1) := by decide +kernel
theorem dX6_score_65 : decode cX6_score 65 = .ok (.aload_n 0, 1) := by decide +kernel
theorem dX6_score_66 : decode cX6_score 66 = .ok (.getfield 55, 3) := by decide +kernel
theorem dX6_score_69 : decode cX6_score 69 = .ok (.aload_n 0, 1) := by decide +kernel
theorem dX6_score_70 : decode cX6_score 70 = .ok (.iload_n 1, 1) := by decide +kernel
theorem dX6_score_71 : decode cX6_score 71 = .ok (.invokevirtual 167, 3) := by decide +kernel
theorem dX6_score_74 : decode cX6_score 74 = .ok (.invokevirtual 180, 3) := by decide +kernel
theorem dX6_score_77 : decode cX6_score 77 = .ok (.aload_n 0, 1) := by decide +kernel
theorem dX6_score_78 : decode cX6_score 78 = .ok (.getfield 59, 3) := by decide +kernel
theorem dX6_score_81 : decode cX6_score 81 = .ok (.iload_n 1, 1) := by decide +kernel
theorem dX6_score_82 : decode cX6_score 82 = .ok (.iaload, 1) := by decide +kernel
theorem dX6_score_83 : decode cX6_score 83 = .ok (.iconst (-1), 1) := by decide +kernel
theorem dX6_score_84 : decode cX6_score 84 = .ok (.ixor, 1) := by decide +kernel
theorem dX6_score_85 : decode cX6_score 85 = .ok (.iand, 1) := by decide +kernel
theorem dX6_score_86 : decode cX6_score 86 = .ok (.ireturn, 1) := by decide +kernel
theorem dX6_evening_0 : decode cX6_evening 0 = .ok (.iload_n 1, 1) := by decide +kernel
theorem dX6_evening_1 : decode cX6_evening 1 = .ok (.invokestatic 158, 3) := by decide +kernel
theorem dX6_evening_4 : decode cX6_evening 4 = .ok (.ifCond .ne 6, 3) := by decide +kernel
theorem dX6_evening_7 : decode cX6_evening 7 = .ok (.bipush (-2), 2) := by decide +kernel
theorem dX6_evening_9 : decode cX6_evening 9 = .ok (.ireturn, 1) := by decide +kernel
theorem dX6_evening_10 : decode cX6_evening 10 = .ok (.aload_n 0, 1) := by decide +kernel
theorem dX6_evening_11 : decode cX6_evening 11 = .ok (.invokevirtual 164, 3) := by decide +kernel
theorem dX6_evening_14 : decode cX6_evening 14 = .ok (.iload_n 1, 1) := by decide +kernel
theorem dX6_evening_15 : decode cX6_evening 15 = .ok (.ifCond .ne 10, 3) := by decide +kernel
theorem dX6_evening_18 : decode cX6_evening 18 = .ok (.aload_n 0, 1) := by decide +kernel
theorem dX6_evening_19 : decode cX6_evening 19 = .ok (.invokevirtual 183, 3) := by decide +kernel
theorem dX6_evening_22 : decode cX6_evening 22 = .ok (.goto 10, 3) := by decide +kernel
theorem dX6_evening_25 : decode cX6_evening 25 = .ok (.aload_n 0, 1) := by decide +kernel
theorem dX6_evening_26 : decode cX6_evening 26 = .ok (.sipush 255, 3) := by decide +kernel
theorem dX6_evening_29 : decode cX6_evening 29 = .ok (.invokevirtual 187, 3) := by decide +kernel
theorem dX6_evening_32 : decode cX6_evening 32 = .ok (.ireturn, 1) := by decide +kernel
theorem dX6_best_0 : decode cX6_best 0 = .ok (.iload_n 1, 1) := by decide +kernel
theorem dX6_best_1 : decode cX6_best 1 = .ok (.invokestatic 161, 3) := by decide +kernel
theorem dX6_best_4 : decode cX6_best 4 = .ok (.ifCond .ne 6, 3) := by decide +kernel
theorem dX6_best_7 : decode cX6_best 7 = .ok (.bipush (-5), 2) := by decide +kernel
theorem dX6_best_9 : decode cX6_best 9 = .ok (.ireturn, 1) := by decide +kernel
theorem dX6_best_10 : decode cX6_best 10 = .ok (.iload_n 2, 1) := by decide +kernel
theorem dX6_best_11 : decode cX6_best 11 = .ok (.invokestatic 158, 3) := by decide +kernel
theorem dX6_best_14 : decode cX6_best 14 = .ok (.ifCond .ne 6, 3) := by decide +kernel
theorem dX6_best_17 : decode cX6_best 17 = .ok (.bipush (-7), 2) := by decide +kernel
theorem dX6_best_19 : decode cX6_best 19 = .ok (.ireturn, 1) := by decide +kernel
theorem dX6_best_20 : decode cX6_best 20 = .ok (.aload_n 0, 1) := by decide +kernel
theorem dX6_best_21 : decode cX6_best 21 = .ok (.invokevirtual 164, 3) := by decide +kernel
theorem dX6_best_24 : decode cX6_best 24 = .ok (.iconst (-1), 1) := by decide +kernel
theorem dX6_best_25 : decode cX6_best 25 = .ok (.istore_n 3, 1) := by decide +kernel
theorem dX6_best_26 : decode cX6_best 26 = .ok (.aload_n 0, 1) := by decide +kernel
theorem dX6_best_27 : decode cX6_best 27 = .ok (.getfield 55, 3) := by decide +kernel
theorem dX6_best_30 : decode cX6_best 30 = .ok (.aload_n 0, 1) := by decide +kernel
theorem dX6_best_31 : decode cX6_best 31 = .ok (.getfield 59, 3) := by decide +kernel
theorem dX6_best_34 : decode cX6_best 34 = .ok (.iload_n 1, 1) := by decide +kernel
theorem dX6_best_35 : decode cX6_best 35 = .ok (.iaload, 1) := by decide +kernel
theorem dX6_best_36 : decode cX6_best 36 = .ok (.iconst (-1), 1) := by decide +kernel
theorem dX6_best_37 : decode cX6_best 37 = .ok (.invokevirtual 190, 3) := by decide +kernel
theorem dX6_best_40 : decode cX6_best 40 = .ok (.istore 4, 2) := by decide +kernel
theorem dX6_best_42 : decode cX6_best 42 = .ok (.iconst 0, 1) := by decide +kernel
theorem dX6_best_43 : decode cX6_best 43 = .ok (.istore 5, 2) := by decide +kernel
theorem dX6_best_45 : decode cX6_best 45 = .ok (.iload 5, 2) := by decide +kernel
theorem dX6_best_47 : decode cX6_best 47 = .ok (.aload_n 0, 1) := by decide +kernel
theorem dX6_best_48 : decode cX6_best 48 = .ok (.getfield 88, 3) := by decide +kernel
theorem dX6_best_51 : decode cX6_best 51 = .ok (.if_icmp .ge 40, 3) := by decide +kernel
theorem dX6_best_54 : decode cX6_best 54 = .ok (.aload_n 0, 1) := by decide +kernel
theorem dX6_best_55 : decode cX6_best 55 = .ok (.getfield 55, 3) := by decide +kernel
theorem dX6_best_58 : decode cX6_best 58 = .ok (.aload_n 0, 1) := by decide +kernel
theorem dX6_best_59 : decode cX6_best 59 = .ok (.getfield 59, 3) := by decide +kernel
theorem dX6_best_62 : decode cX6_best 62 = .ok (.iload_n 1, 1) := by decide +kernel
theorem dX6_best_63 : decode cX6_best 63 = .ok (.iaload, 1) := by decide +kernel
theorem dX6_best_64 : decode cX6_best 64 = .ok (.iload 5, 2) := by decide +kernel
theorem dX6_best_66 : decode cX6_best 66 = .ok (.invokevirtual 190, 3) := by decide +kernel
theorem dX6_best_69 : decode cX6_best 69 = .ok (.istore 6, 2) := by decide +kernel
theorem dX6_best_71 : decode cX6_best 71 = .ok (.iload 6, 2) := by decide +kernel
theorem dX6_best_73 : decode cX6_best 73 = .ok (.iload 4, 2) := by decide +kernel
theorem dX6_best_75 : decode cX6_best 75 = .ok (.if_icmp .le 10, 3) := by decide +kernel
theorem dX6_best_78 : decode cX6_best 78 = .ok (.iload 6, 2) := by decide +kernel
theorem dX6_best_80 : decode cX6_best 80 = .ok (.istore 4, 2) := by decide +kernel
theorem dX6_best_82 : decode cX6_best 82 = .ok (.iload 5, 2) := by decide +kernel
theorem dX6_best_84 : decode cX6_best 84 = .ok (.istore_n 3, 1) := by decide +kernel
theorem dX6_best_85 : decode cX6_best 85 = .ok (.iinc 5 1, 3) := by decide +kernel
theorem dX6_best_88 : decode cX6_best 88 = .ok (.goto (-43), 3) := by decide +kernel
theorem dX6_best_91 : decode cX6_best 91 = .ok (.iload_n 2, 1) := by decide +kernel
theorem dX6_best_92 : decode cX6_best 92 = .ok (.ifCond .ne 7, 3) := by decide +kernel
theorem dX6_best_95 : decode cX6_best 95 = .ok (.iload_n 3, 1) := by decide +kernel
theorem dX6_best_96 : decode cX6_best 96 = .ok (.goto 5, 3) := by decide +kernel
theorem dX6_best_99 : decode cX6_best 99 = .ok (.iload 4, 2) := by decide +kernel
theorem dX6_best_101 : decode cX6_best 101 = .ok (.ireturn, 1) := by decide +kernel
theorem dX6_join_0 : decode cX6_join 0 = .ok (.iload_n 1, 1) := by decide +kernel
theorem dX6_join_1 : decode cX6_join 1 = .ok (.invokestatic 161, 3) := by decide +kernel
theorem dX6_join_4 : decode cX6_join 4 = .ok (.ifCond .ne 6, 3) := by decide +kernel
theorem dX6_join_7 : decode cX6_join 7 = .ok (.bipush (-5), 2) := by decide +kernel
theorem dX6_join_9 : decode cX6_join 9 = .ok (.ireturn, 1) := by decide +kernel
theorem dX6_join_10 : decode cX6_join 10 = .ok (.iload_n 2, 1) := by decide +kernel
theorem dX6_join_11 : decode cX6_join 11 = .ok (.invokestatic 158, 3) := by decide +kernel
theorem dX6_join_14 : decode cX6_join 14 = .ok (.ifCond .ne 6, 3) := by decide +kernel
theorem dX6_join_17 : decode cX6_join 17 = .ok (.bipush (-7), 2) := by decide +kernel
theorem dX6_join_19 : decode cX6_join 19 = .ok (.ireturn, 1) := by decide +kernel
theorem dX6_join_20 : decode cX6_join 20 = .ok (.aload_n 0, 1) := by decide +kernel
theorem dX6_join_21 : decode cX6_join 21 = .ok (.invokevirtual 164, 3) := by decide +kernel
theorem dX6_join_24 : decode cX6_join 24 = .ok (.aload_n 0, 1) := by decide +kernel
theorem dX6_join_25 : decode cX6_join 25 = .ok (.iload_n 1, 1) := by decide +kernel
theorem dX6_join_26 : decode cX6_join 26 = .ok (.invokevirtual 167, 3) := by decide +kernel
theorem dX6_join_29 : decode cX6_join 29 = .ok (.istore_n 3, 1) := by decide +kernel
theorem dX6_join_30 : decode cX6_join 30 = .ok (.iconst (-1), 1) := by decide +kernel
theorem dX6_join_31 : decode cX6_join 31 = .ok (.istore 4, 2) := by decide +kernel
theorem dX6_join_33 : decode cX6_join 33 = .ok (.aload_n 0, 1) := by decide +kernel
theorem dX6_join_34 : decode cX6_join 34 = .ok (.iload_n 1, 1) := by decide +kernel
theorem dX6_join_35 : decode cX6_join 35 = .ok (.invokevirtual 177, 3) := by decide +kernel
theorem dX6_join_38 : decode cX6_join 38 = .ok (.istore 5, 2) := by decide +kernel
theorem dX6_join_40 : decode cX6_join 40 = .ok (.iconst 0, 1) := by decide +kernel
theorem dX6_join_41 : decode cX6_join 41 = .ok (.istore 6, 2) := by decide +kernel
theorem dX6_join_43 : decode cX6_join 43 = .ok (.iload 6, 2) := by decide +kernel
theorem dX6_join_45 : decode cX6_join 45 = .ok (.aload_n 0, 1) := by decide +kernel
theorem dX6_join_46 : decode cX6_join 46 = .ok (.getfield 85, 3) := by decide +kernel
theorem dX6_join_49 : decode cX6_join 49 = .ok (.if_icmp .ge 37, 3) := by decide +kernel
theorem dX6_join_52 : decode cX6_join 52 = .ok (.aload_n 0, 1) := by decide +kernel
theorem dX6_join_53 : decode cX6_join 53 = .ok (.iload_n 1, 1) := by decide +kernel
theorem dX6_join_54 : decode cX6_join 54 = .ok (.iload_n 3, 1) := by decide +kernel
theorem dX6_join_55 : decode cX6_join 55 = .ok (.iconst 1, 1) := by decide +kernel
theorem dX6_join_56 : decode cX6_join 56 = .ok (.iload 6, 2) := by decide +kernel
theorem dX6_join_58 : decode cX6_join 58 = .ok (.ishl, 1) := by decide +kernel
theorem dX6_join_59 : decode cX6_join 59 = .ok (.ior, 1) := by decide +kernel
theorem dX6_join_60 : decode cX6_join 60 = .ok (.invokevirtual 193, 3) := by decide +kernel
theorem dX6_join_63 : decode cX6_join 63 = .ok (.istore 7, 2) := by decide +kernel
theorem dX6_join_65 : decode cX6_join 65 = .ok (.iload 7, 2) := by decide +kernel
theorem dX6_join_67 : decode cX6_join 67 = .ok (.iload 5, 2) := by decide +kernel
theorem dX6_join_69 : decode cX6_join 69 = .ok (.if_icmp .le 11, 3) := by decide +kernel
theorem dX6_join_72 : decode cX6_join 72 = .ok (.iload 7, 2) := by decide +kernel
theorem dX6_join_74 : decode cX6_join 74 = .ok (.istore 5, 2) := by decide +kernel
theorem dX6_join_76 : decode cX6_join 76 = .ok (.iload 6, 2) := by decide +kernel
theorem dX6_join_78 : decode cX6_join 78 = .ok (.istore 4, 2) := by decide +kernel
theorem dX6_join_80 : decode cX6_join 80 = .ok (.iinc 6 1, 3) := by decide +kernel
theorem dX6_join_83 : decode cX6_join 83 = .ok (.goto (-40), 3) := by decide +kernel
theorem dX6_join_86 : decode cX6_join 86 = .ok (.iload_n 2, 1) := by decide +kernel
theorem dX6_join_87 : decode cX6_join 87 = .ok (.ifCond .ne 8, 3) := by decide +kernel
theorem dX6_join_90 : decode cX6_join 90 = .ok (.iload 4, 2) := by decide +kernel
theorem dX6_join_92 : decode cX6_join 92 = .ok (.goto 5, 3) := by decide +kernel
theorem dX6_join_95 : decode cX6_join 95 = .ok (.iload 5, 2) := by decide +kernel
theorem dX6_join_97 : decode cX6_join 97 = .ok (.ireturn, 1) := by decide +kernel
theorem dX6_leave_0 : decode cX6_leave 0 = .ok (.iload_n 1, 1) := by decide +kernel
theorem dX6_leave_1 : decode cX6_leave 1 = .ok (.invokestatic 161, 3) := by decide +kernel
theorem dX6_leave_4 : decode cX6_leave 4 = .ok (.ifCond .ne 6, 3) := by decide +kernel
theorem dX6_leave_7 : decode cX6_leave 7 = .ok (.bipush (-5), 2) := by decide +kernel
theorem dX6_leave_9 : decode cX6_leave 9 = .ok (.ireturn, 1) := by decide +kernel
theorem dX6_leave_10 : decode cX6_leave 10 = .ok (.iload_n 2, 1) := by decide +kernel
theorem dX6_leave_11 : decode cX6_leave 11 = .ok (.invokestatic 158, 3) := by decide +kernel
theorem dX6_leave_14 : decode cX6_leave 14 = .ok (.ifCond .ne 6, 3) := by decide +kernel
theorem dX6_leave_17 : decode cX6_leave 17 = .ok (.bipush (-7), 2) := by decide +kernel
theorem dX6_leave_19 : decode cX6_leave 19 = .ok (.ireturn, 1) := by decide +kernel
theorem dX6_leave_20 : decode cX6_leave 20 = .ok (.aload_n 0, 1) := by decide +kernel
theorem dX6_leave_21 : decode cX6_leave 21 = .ok (.invokevirtual 164, 3) := by decide +kernel
theorem dX6_leave_24 : decode cX6_leave 24 = .ok (.aload_n 0, 1) := by decide +kernel
theorem dX6_leave_25 : decode cX6_leave 25 = .ok (.iload_n 1, 1) := by decide +kernel
theorem dX6_leave_26 : decode cX6_leave 26 = .ok (.invokevirtual 167, 3) := by decide +kernel
theorem dX6_leave_29 : decode cX6_leave 29 = .ok (.istore_n 3, 1) := by decide +kernel
theorem dX6_leave_30 : decode cX6_leave 30 = .ok (.iload_n 2, 1) := by decide +kernel
theorem dX6_leave_31 : decode cX6_leave 31 = .ok (.ifCond .ne 13, 3) := by decide +kernel
theorem dX6_leave_34 : decode cX6_leave 34 = .ok (.aload_n 0, 1) := by decide +kernel
theorem dX6_leave_35 : decode cX6_leave 35 = .ok (.iload_n 1, 1) := by decide +kernel
theorem dX6_leave_36 : decode cX6_leave 36 = .ok (.invokevirtual 177, 3) := by decide +kernel
theorem dX6_leave_39 : decode cX6_leave 39 = .ok (.iconst 1, 1) := by decide +kernel
theorem dX6_leave_40 : decode cX6_leave 40 = .ok (.iadd, 1) := by decide +kernel
theorem dX6_leave_41 : decode cX6_leave 41 = .ok (.goto 8, 3) := by decide +kernel
theorem dX6_leave_44 : decode cX6_leave 44 = .ok (.aload_n 0, 1) := by decide +kernel
theorem dX6_leave_45 : decode cX6_leave 45 = .ok (.iload_n 1, 1) := by decide +kernel
theorem dX6_leave_46 : decode cX6_leave 46 = .ok (.invokevirtual 177, 3) := by decide +kernel
theorem dX6_leave_49 : decode cX6_leave 49 = .ok (.istore 4, 2) := by decide +kernel
theorem dX6_leave_51 : decode cX6_leave 51 = .ok (.iconst 0, 1) := by decide +kernel
theorem dX6_leave_52 : decode cX6_leave 52 = .ok (.istore 5, 2) := by decide +kernel
theorem dX6_leave_54 : decode cX6_leave 54 = .ok (.iconst 0, 1) := by decide +kernel
theorem dX6_leave_55 : decode cX6_leave 55 = .ok (.istore 6, 2) := by decide +kernel
theorem dX6_leave_57 : decode cX6_leave 57 = .ok (.iload 6, 2) := by decide +kernel
theorem dX6_leave_59 : decode cX6_leave 59 = .ok (.aload_n 0, 1) := by decide +kernel
theorem dX6_leave_60 : decode cX6_leave 60 = .ok (.getfield 85, 3) := by decide +kernel
theorem dX6_leave_63 : decode cX6_leave 63 = .ok (.if_icmp .ge 58, 3) := by decide +kernel
theorem dX6_leave_66 : decode cX6_leave 66 = .ok (.iload_n 3, 1) := by decide +kernel
theorem dX6_leave_67 : decode cX6_leave 67 = .ok (.iload 6, 2) := by decide +kernel
theorem dX6_leave_69 : decode cX6_leave 69 = .ok (.ishr, 1) := by decide +kernel
theorem dX6_leave_70 : decode cX6_leave 70 = .ok (.iconst 1, 1) := by decide +kernel
theorem dX6_leave_71 : decode cX6_leave 71 = .ok (.iand, 1) := by decide +kernel
theorem dX6_leave_72 : decode cX6_leave 72 = .ok (.iconst 1, 1) := by decide +kernel
theorem dX6_leave_73 : decode cX6_leave 73 = .ok (.if_icmp .ne 7, 3) := by decide +kernel
theorem dX6_leave_76 : decode cX6_leave 76 = .ok (.iconst 1, 1) := by decide +kernel
theorem dX6_leave_77 : decode cX6_leave 77 = .ok (.goto 4, 3) := by decide +kernel
theorem dX6_leave_80 : decode cX6_leave 80 = .ok (.iconst 0, 1) := by decide +kernel
theorem dX6_leave_81 : decode cX6_leave 81 = .ok (.istore 7, 2) := by decide +kernel
theorem dX6_leave_83 : decode cX6_leave 83 = .ok (.iload 7, 2) := by decide +kernel
theorem dX6_leave_85 : decode cX6_leave 85 = .ok (.ifCond .eq 30, 3) := by decide +kernel
theorem dX6_leave_88 : decode cX6_leave 88 = .ok (.aload_n 0, 1) := by decide +kernel
theorem dX6_leave_89 : decode cX6_leave 89 = .ok (.iload_n 1, 1) := by decide +kernel
theorem dX6_leave_90 : decode cX6_leave 90 = .ok (.iload_n 3, 1) := by decide +kernel
theorem dX6_leave_91 : decode cX6_leave 91 = .ok (.iconst 1, 1) := by decide +kernel
theorem dX6_leave_92 : decode cX6_leave 92 = .ok (.iload 6, 2) := by decide +kernel
theorem dX6_leave_94 : decode cX6_leave 94 = .ok (.ishl, 1) := by decide +kernel
theorem dX6_leave_95 : decode cX6_leave 95 = .ok (.iconst (-1), 1) := by decide +kernel
theorem dX6_leave_96 : decode cX6_leave 96 = .ok (.ixor, 1) := by decide +kernel
theorem dX6_leave_97 : decode cX6_leave 97 = .ok (.iand, 1) := by decide +kernel
theorem dX6_leave_98 : decode cX6_leave 98 = .ok (.invokevirtual 193, 3) := by decide +kernel
theorem dX6_leave_101 : decode cX6_leave 101 = .ok (.iload 4, 2) := by decide +kernel
theorem dX6_leave_103 : decode cX6_leave 103 = .ok (.if_icmp .lt 12, 3) := by decide +kernel
theorem dX6_leave_106 : decode cX6_leave 106 = .ok (.iload 5, 2) := by decide +kernel
theorem dX6_leave_108 : decode cX6_leave 108 = .ok (.iconst 1, 1) := by decide +kernel
theorem dX6_leave_109 : decode cX6_leave 109 = .ok (.iload 6, 2) := by decide +kernel
theorem dX6_leave_111 : decode cX6_leave 111 = .ok (.ishl, 1) := by decide +kernel
theorem dX6_leave_112 : decode cX6_leave 112 = .ok (.ior, 1) := by decide +kernel
theorem dX6_leave_113 : decode cX6_leave 113 = .ok (.istore 5, 2) := by decide +kernel
theorem dX6_leave_115 : decode cX6_leave 115 = .ok (.iinc 6 1, 3) := by decide +kernel
theorem dX6_leave_118 : decode cX6_leave 118 = .ok (.goto (-61), 3) := by decide +kernel
theorem dX6_leave_121 : decode cX6_leave 121 = .ok (.iload 5, 2) := by decide +kernel
theorem dX6_leave_123 : decode cX6_leave 123 = .ok (.ireturn, 1) := by decide +kernel
theorem dX6_cover_0 : decode cX6_cover 0 = .ok (.iload_n 1, 1) := by decide +kernel
theorem dX6_cover_1 : decode cX6_cover 1 = .ok (.invokestatic 158, 3) := by decide +kernel
theorem dX6_cover_4 : decode cX6_cover 4 = .ok (.ifCond .ne 6, 3) := by decide +kernel
theorem dX6_cover_7 : decode cX6_cover 7 = .ok (.bipush (-2), 2) := by decide +kernel
theorem dX6_cover_9 : decode cX6_cover 9 = .ok (.ireturn, 1) := by decide +kernel
theorem dX6_cover_10 : decode cX6_cover 10 = .ok (.aload_n 0, 1) := by decide +kernel
theorem dX6_cover_11 : decode cX6_cover 11 = .ok (.invokevirtual 164, 3) := by decide +kernel
theorem dX6_cover_14 : decode cX6_cover 14 = .ok (.iconst 1, 1) := by decide +kernel
theorem dX6_cover_15 : decode cX6_cover 15 = .ok (.aload_n 0, 1) := by decide +kernel
theorem dX6_cover_16 : decode cX6_cover 16 = .ok (.getfield 85, 3) := by decide +kernel
theorem dX6_cover_19 : decode cX6_cover 19 = .ok (.ishl, 1) := by decide +kernel
theorem dX6_cover_20 : decode cX6_cover 20 = .ok (.iconst 1, 1) := by decide +kernel
theorem dX6_cover_21 : decode cX6_cover 21 = .ok (.isub, 1) := by decide +kernel
theorem dX6_cover_22 : decode cX6_cover 22 = .ok (.istore_n 2, 1) := by decide +kernel
theorem dX6_cover_23 : decode cX6_cover 23 = .ok (.aload_n 0, 1) := by decide +kernel
theorem dX6_cover_24 : decode cX6_cover 24 = .ok (.getfield 55, 3) := by decide +kernel
theorem dX6_cover_27 : decode cX6_cover 27 = .ok (.iload_n 2, 1) := by decide +kernel
theorem dX6_cover_28 : decode cX6_cover 28 = .ok (.invokevirtual 180, 3) := by decide +kernel
theorem dX6_cover_31 : decode cX6_cover 31 = .ok (.istore_n 3, 1) := by decide +kernel
theorem dX6_cover_32 : decode cX6_cover 32 = .ok (.iload_n 2, 1) := by decide +kernel
theorem dX6_cover_33 : decode cX6_cover 33 = .ok (.istore 4, 2) := by decide +kernel
theorem dX6_cover_35 : decode cX6_cover 35 = .ok (.iconst 0, 1) := by decide +kernel
theorem dX6_cover_36 : decode cX6_cover 36 = .ok (.istore 5, 2) := by decide +kernel
theorem dX6_cover_38 : decode cX6_cover 38 = .ok (.iload 5, 2) := by decide +kernel
theorem dX6_cover_40 : decode cX6_cover 40 = .ok (.iload_n 2, 1) := by decide +kernel
theorem dX6_cover_41 : decode cX6_cover 41 = .ok (.if_icmp .ge 51, 3) := by decide +kernel
theorem dX6_cover_44 : decode cX6_cover 44 = .ok (.iload 5, 2) := by decide +kernel
theorem dX6_cover_46 : decode cX6_cover 46 = .ok (.invokestatic 196, 3) := by decide +kernel
theorem dX6_cover_49 : decode cX6_cover 49 = .ok (.iload 4, 2) := by decide +kernel
theorem dX6_cover_51 : decode cX6_cover 51 = .ok (.invokestatic 196, 3) := by decide +kernel
theorem dX6_cover_54 : decode cX6_cover 54 = .ok (.if_icmp .ge 7, 3) := by decide +kernel
theorem dX6_cover_57 : decode cX6_cover 57 = .ok (.iconst 1, 1) := by decide +kernel
theorem dX6_cover_58 : decode cX6_cover 58 = .ok (.goto 4, 3) := by decide +kernel
theorem dX6_cover_61 : decode cX6_cover 61 = .ok (.iconst 0, 1) := by decide +kernel
theorem dX6_cover_62 : decode cX6_cover 62 = .ok (.istore 6, 2) := by decide +kernel
theorem dX6_cover_64 : decode cX6_cover 64 = .ok (.iload 6, 2) := by decide +kernel
theorem dX6_cover_66 : decode cX6_cover 66 = .ok (.ifCond .eq 20, 3) := by decide +kernel
theorem dX6_cover_69 : decode cX6_cover 69 = .ok (.aload_n 0, 1) := by decide +kernel
theorem dX6_cover_70 : decode cX6_cover 70 = .ok (.getfield 55, 3) := by decide +kernel
theorem dX6_cover_73 : decode cX6_cover 73 = .ok (.iload 5, 2) := by decide +kernel
theorem dX6_cover_75 : decode cX6_cover 75 = .ok (.invokevirtual 180, 3) := by decide +kernel
theorem dX6_cover_78 : decode cX6_cover 78 = .ok (.iload_n 3, 1) := by decide +kernel
theorem dX6_cover_79 : decode cX6_cover 79 = .ok (.if_icmp .ne 7, 3) := by decide +kernel
theorem dX6_cover_82 : decode cX6_cover 82 = .ok (.iload 5, 2) := by decide +kernel
theorem dX6_cover_84 : decode cX6_cover 84 = .ok (.istore 4, 2) := by decide +kernel
theorem dX6_cover_86 : decode cX6_cover 86 = .ok (.iinc 5 1, 3) := by decide +kernel
theorem dX6_cover_89 : decode cX6_cover 89 = .ok (.goto (-51), 3) := by decide +kernel
theorem dX6_cover_92 : decode cX6_cover 92 = .ok (.iload_n 1, 1) := by decide +kernel
theorem dX6_cover_93 : decode cX6_cover 93 = .ok (.ifCond .ne 11, 3) := by decide +kernel
theorem dX6_cover_96 : decode cX6_cover 96 = .ok (.iload 4, 2) := by decide +kernel
theorem dX6_cover_98 : decode cX6_cover 98 = .ok (.invokestatic 196, 3) := by decide +kernel
theorem dX6_cover_101 : decode cX6_cover 101 = .ok (.goto 5, 3) := by decide +kernel
theorem dX6_cover_104 : decode cX6_cover 104 = .ok (.iload 4, 2) := by decide +kernel
theorem dX6_cover_106 : decode cX6_cover 106 = .ok (.ireturn, 1) := by decide +kernel
theorem dX6_hire_0 : decode cX6_hire 0 = .ok (.iload_n 1, 1) := by decide +kernel
theorem dX6_hire_1 : decode cX6_hire 1 = .ok (.invokestatic 161, 3) := by decide +kernel
theorem dX6_hire_4 : decode cX6_hire 4 = .ok (.ifCond .ne 6, 3) := by decide +kernel
theorem dX6_hire_7 : decode cX6_hire 7 = .ok (.bipush (-5), 2) := by decide +kernel
theorem dX6_hire_9 : decode cX6_hire 9 = .ok (.ireturn, 1) := by decide +kernel
theorem dX6_hire_10 : decode cX6_hire 10 = .ok (.iload_n 2, 1) := by decide +kernel
theorem dX6_hire_11 : decode cX6_hire 11 = .ok (.ifCond .lt 17, 3) := by decide +kernel
theorem dX6_hire_14 : decode cX6_hire 14 = .ok (.iload_n 2, 1) := by decide +kernel
theorem dX6_hire_15 : decode cX6_hire 15 = .ok (.sipush 999, 3) := by decide +kernel
theorem dX6_hire_18 : decode cX6_hire 18 = .ok (.if_icmp .gt 10, 3) := by decide +kernel
theorem dX6_hire_21 : decode cX6_hire 21 = .ok (.iload_n 3, 1) := by decide +kernel
theorem dX6_hire_22 : decode cX6_hire 22 = .ok (.invokestatic 158, 3) := by decide +kernel
theorem dX6_hire_25 : decode cX6_hire 25 = .ok (.ifCond .ne 6, 3) := by decide +kernel
theorem dX6_hire_28 : decode cX6_hire 28 = .ok (.bipush (-7), 2) := by decide +kernel
theorem dX6_hire_30 : decode cX6_hire 30 = .ok (.ireturn, 1) := by decide +kernel
theorem dX6_hire_31 : decode cX6_hire 31 = .ok (.aload_n 0, 1) := by decide +kernel
theorem dX6_hire_32 : decode cX6_hire 32 = .ok (.invokevirtual 164, 3) := by decide +kernel
theorem dX6_hire_35 : decode cX6_hire 35 = .ok (.aload_n 0, 1) := by decide +kernel
theorem dX6_hire_36 : decode cX6_hire 36 = .ok (.iload_n 1, 1) := by decide +kernel
theorem dX6_hire_37 : decode cX6_hire 37 = .ok (.invokevirtual 167, 3) := by decide +kernel
theorem dX6_hire_40 : decode cX6_hire 40 = .ok (.istore 4, 2) := by decide +kernel
theorem dX6_hire_42 : decode cX6_hire 42 = .ok (.iconst (-1), 1) := by decide +kernel
theorem dX6_hire_43 : decode cX6_hire 43 = .ok (.istore 5, 2) := by decide +kernel
theorem dX6_hire_45 : decode cX6_hire 45 = .ok (.iconst (-1), 1) := by decide +kernel
theorem dX6_hire_46 : decode cX6_hire 46 = .ok (.istore 6, 2) := by decide +kernel
theorem dX6_hire_48 : decode cX6_hire 48 = .ok (.aload_n 0, 1) := by decide +kernel
theorem dX6_hire_49 : decode cX6_hire 49 = .ok (.iload_n 1, 1) := by decide +kernel
theorem dX6_hire_50 : decode cX6_hire 50 = .ok (.invokevirtual 177, 3) := by decide +kernel
theorem dX6_hire_53 : decode cX6_hire 53 = .ok (.istore 7, 2) := by decide +kernel
theorem dX6_hire_55 : decode cX6_hire 55 = .ok (.iconst 0, 1) := by decide +kernel
theorem dX6_hire_56 : decode cX6_hire 56 = .ok (.istore 8, 2) := by decide +kernel
theorem dX6_hire_58 : decode cX6_hire 58 = .ok (.iload 8, 2) := by decide +kernel
theorem dX6_hire_60 : decode cX6_hire 60 = .ok (.aload_n 0, 1) := by decide +kernel
theorem dX6_hire_61 : decode cX6_hire 61 = .ok (.getfield 85, 3) := by decide +kernel
theorem dX6_hire_64 : decode cX6_hire 64 = .ok (.if_icmp .ge 118, 3) := by decide +kernel
theorem dX6_hire_67 : decode cX6_hire 67 = .ok (.aload_n 0, 1) := by decide +kernel
theorem dX6_hire_68 : decode cX6_hire 68 = .ok (.iload 8, 2) := by decide +kernel
theorem dX6_hire_70 : decode cX6_hire 70 = .ok (.invokevirtual 128, 3) := by decide +kernel
theorem dX6_hire_73 : decode cX6_hire 73 = .ok (.astore 9, 2) := by decide +kernel
theorem dX6_hire_75 : decode cX6_hire 75 = .ok (.aload 9, 2) := by decide +kernel
theorem dX6_hire_77 : decode cX6_hire 77 = .ok (.ifnull 99, 3) := by decide +kernel
theorem dX6_hire_80 : decode cX6_hire 80 = .ok (.aload 9, 2) := by decide +kernel
theorem dX6_hire_82 : decode cX6_hire 82 = .ok (.getfield 143, 3) := by decide +kernel
theorem dX6_hire_85 : decode cX6_hire 85 = .ok (.iconst (-1), 1) := by decide +kernel
theorem dX6_hire_86 : decode cX6_hire 86 = .ok (.if_icmp .eq 6, 3) := by decide +kernel
theorem dX6_hire_89 : decode cX6_hire 89 = .ok (.goto 87, 3) := by decide +kernel
theorem dX6_hire_92 : decode cX6_hire 92 = .ok (.aload_n 0, 1) := by decide +kernel
theorem dX6_hire_93 : decode cX6_hire 93 = .ok (.iload 8, 2) := by decide +kernel
theorem dX6_hire_95 : decode cX6_hire 95 = .ok (.aload 9, 2) := by decide +kernel
theorem dX6_hire_97 : decode cX6_hire 97 = .ok (.invokevirtual 201, 3) := by decide +kernel
theorem dX6_hire_100 : decode cX6_hire 100 = .ok (.istore 10, 2) := by decide +kernel
theorem dX6_hire_102 : decode cX6_hire 102 = .ok (.iload 10, 2) := by decide +kernel
theorem dX6_hire_104 : decode cX6_hire 104 = .ok (.iload_n 2, 1) := by decide +kernel
theorem dX6_hire_105 : decode cX6_hire 105 = .ok (.if_icmp .le 6, 3) := by decide +kernel
theorem dX6_hire_108 : decode cX6_hire 108 = .ok (.goto 68, 3) := by decide +kernel
theorem dX6_hire_111 : decode cX6_hire 111 = .ok (.aload_n 0, 1) := by decide +kernel
theorem dX6_hire_112 : decode cX6_hire 112 = .ok (.iload_n 1, 1) := by decide +kernel
theorem dX6_hire_113 : decode cX6_hire 113 = .ok (.iload 4, 2) := by decide +kernel
theorem dX6_hire_115 : decode cX6_hire 115 = .ok (.iconst 1, 1) := by decide +kernel
theorem dX6_hire_116 : decode cX6_hire 116 = .ok (.iload 8, 2) := by decide +kernel
theorem dX6_hire_118 : decode cX6_hire 118 = .ok (.ishl, 1) := by decide +kernel
theorem dX6_hire_119 : decode cX6_hire 119 = .ok (.ior, 1) := by decide +kernel
theorem dX6_hire_120 : decode cX6_hire 120 = .ok (.invokevirtual 193, 3) := by decide +kernel
theorem dX6_hire_123 : decode cX6_hire 123 = .ok (.istore 11, 2) := by decide +kernel
theorem dX6_hire_125 : decode cX6_hire 125 = .ok (.iload 5, 2) := by decide +kernel
theorem dX6_hire_127 : decode cX6_hire 127 = .ok (.iconst (-1), 1) := by decide +kernel
theorem dX6_hire_128 : decode cX6_hire 128 = .ok (.if_icmp .eq 21, 3) := by decide +kernel
theorem dX6_hire_131 : decode cX6_hire 131 = .ok (.iload 11, 2) := by decide +kernel
theorem dX6_hire_133 : decode cX6_hire 133 = .ok (.iload 7, 2) := by decide +kernel
theorem dX6_hire_135 : decode cX6_hire 135 = .ok (.if_icmp .ne 14, 3) := by decide +kernel
theorem dX6_hire_138 : decode cX6_hire 138 = .ok (.iload 10, 2) := by decide +kernel
theorem dX6_hire_140 : decode cX6_hire 140 = .ok (.iload 6, 2) := by decide +kernel
theorem dX6_hire_142 : decode cX6_hire 142 = .ok (.if_icmp .ge 7, 3) := by decide +kernel
theorem dX6_hire_145 : decode cX6_hire 145 = .ok (.iconst 1, 1) := by decide +kernel
theorem dX6_hire_146 : decode cX6_hire 146 = .ok (.goto 4, 3) := by decide +kernel
theorem dX6_hire_149 : decode cX6_hire 149 = .ok (.iconst 0, 1) := by decide +kernel
theorem dX6_hire_150 : decode cX6_hire 150 = .ok (.istore 12, 2) := by decide +kernel
theorem dX6_hire_152 : decode cX6_hire 152 = .ok (.iload 11, 2) := by decide +kernel
theorem dX6_hire_154 : decode cX6_hire 154 = .ok (.iload 7, 2) := by decide +kernel
theorem dX6_hire_156 : decode cX6_hire 156 = .ok (.if_icmp .gt 8, 3) := by decide +kernel
theorem dX6_hire_159 : decode cX6_hire 159 = .ok (.iload 12, 2) := by decide +kernel
theorem dX6_hire_161 : decode cX6_hire 161 = .ok (.ifCond .eq 15, 3) := by decide +kernel
theorem dX6_hire_164 : decode cX6_hire 164 = .ok (.iload 11, 2) := by decide +kernel
theorem dX6_hire_166 : decode cX6_hire 166 = .ok (.istore 7, 2) := by decide +kernel
theorem dX6_hire_168 : decode cX6_hire 168 = .ok (.iload 8, 2) := by decide +kernel
theorem dX6_hire_170 : decode cX6_hire 170 = .ok (.istore 5, 2) := by decide +kernel
theorem dX6_hire_172 : decode cX6_hire 172 = .ok (.iload 10, 2) := by decide +kernel
theorem dX6_hire_174 : decode cX6_hire 174 = .ok (.istore 6, 2) := by decide +kernel
theorem dX6_hire_176 : decode cX6_hire 176 = .ok (.iinc 8 1, 3) := by decide +kernel
theorem dX6_hire_179 : decode cX6_hire 179 = .ok (.goto (-121), 3) := by decide +kernel
theorem dX6_hire_182 : decode cX6_hire 182 = .ok (.iload_n 3, 1) := by decide +kernel
theorem dX6_hire_183 : decode cX6_hire 183 = .ok (.ifCond .ne 8, 3) := by decide +kernel
theorem dX6_hire_186 : decode cX6_hire 186 = .ok (.iload 5, 2) := by decide +kernel
theorem dX6_hire_188 : decode cX6_hire 188 = .ok (.goto 5, 3) := by decide +kernel
theorem dX6_hire_191 : decode cX6_hire 191 = .ok (.iload 6, 2) := by decide +kernel
theorem dX6_hire_193 : decode cX6_hire 193 = .ok (.ireturn, 1) := by decide +kernel
theorem dX6_price_0 : decode cX6_price 0 = .ok (.aload_n 0, 1) := by decide +kernel
theorem dX6_price_1 : decode cX6_price 1 = .ok (.iload_n 1, 1) := by decide +kernel
theorem dX6_price_2 : decode cX6_price 2 = .ok (.invokevirtual 128, 3) := by decide +kernel
theorem dX6_price_5 : decode cX6_price 5 = .ok (.astore_n 2, 1) := by decide +kernel
theorem dX6_price_6 : decode cX6_price 6 = .ok (.aload_n 2, 1) := by decide +kernel
theorem dX6_price_7 : decode cX6_price 7 = .ok (.ifnonnull 8, 3) := by decide +kernel
theorem dX6_price_10 : decode cX6_price 10 = .ok (.bipush (-5), 2) := by decide +kernel
theorem dX6_price_12 : decode cX6_price 12 = .ok (.goto 9, 3) := by decide +kernel
theorem dX6_price_15 : decode cX6_price 15 = .ok (.aload_n 0, 1) := by decide +kernel
theorem dX6_price_16 : decode cX6_price 16 = .ok (.iload_n 1, 1) := by decide +kernel
theorem dX6_price_17 : decode cX6_price 17 = .ok (.aload_n 2, 1) := by decide +kernel
theorem dX6_price_18 : decode cX6_price 18 = .ok (.invokevirtual 201, 3) := by decide +kernel
theorem dX6_price_21 : decode cX6_price 21 = .ok (.ireturn, 1) := by decide +kernel
theorem dX6_close_0 : decode cX6_close 0 = .ok (.iload_n 1, 1) := by decide +kernel
theorem dX6_close_1 : decode cX6_close 1 = .ok (.ifCond .lt 16, 3) := by decide +kernel
theorem dX6_close_4 : decode cX6_close 4 = .ok (.iload_n 1, 1) := by decide +kernel
theorem dX6_close_5 : decode cX6_close 5 = .ok (.bipush 8, 2) := by decide +kernel
theorem dX6_close_7 : decode cX6_close 7 = .ok (.if_icmp .gt 10, 3) := by decide +kernel
theorem dX6_close_10 : decode cX6_close 10 = .ok (.iload_n 2, 1) := by decide +kernel
theorem dX6_close_11 : decode cX6_close 11 = .ok (.invokestatic 158, 3) := by decide +kernel
theorem dX6_close_14 : decode cX6_close 14 = .ok (.ifCond .ne 6, 3) := by decide +kernel
theorem dX6_close_17 : decode cX6_close 17 = .ok (.bipush (-2), 2) := by decide +kernel
theorem dX6_close_19 : decode cX6_close 19 = .ok (.ireturn, 1) := by decide +kernel
theorem dX6_close_20 : decode cX6_close 20 = .ok (.iload_n 1, 1) := by decide +kernel
theorem dX6_close_21 : decode cX6_close 21 = .ok (.aload_n 0, 1) := by decide +kernel
theorem dX6_close_22 : decode cX6_close 22 = .ok (.getfield 88, 3) := by decide +kernel
theorem dX6_close_25 : decode cX6_close 25 = .ok (.if_icmp .le 5, 3) := by decide +kernel
theorem dX6_close_28 : decode cX6_close 28 = .ok (.iconst (-1), 1) := by decide +kernel
theorem dX6_close_29 : decode cX6_close 29 = .ok (.ireturn, 1) := by decide +kernel
theorem dX6_close_30 : decode cX6_close 30 = .ok (.aload_n 0, 1) := by decide +kernel
theorem dX6_close_31 : decode cX6_close 31 = .ok (.invokevirtual 164, 3) := by decide +kernel
theorem dX6_close_34 : decode cX6_close 34 = .ok (.iconst (-1), 1) := by decide +kernel
theorem dX6_close_35 : decode cX6_close 35 = .ok (.istore_n 3, 1) := by decide +kernel
theorem dX6_close_36 : decode cX6_close 36 = .ok (.iconst (-1), 1) := by decide +kernel
theorem dX6_close_37 : decode cX6_close 37 = .ok (.istore 4, 2) := by decide +kernel
theorem dX6_close_39 : decode cX6_close 39 = .ok (.iconst 0, 1) := by decide +kernel
theorem dX6_close_40 : decode cX6_close 40 = .ok (.istore 5, 2) := by decide +kernel
theorem dX6_close_42 : decode cX6_close 42 = .ok (.iload 5, 2) := by decide +kernel
theorem dX6_close_44 : decode cX6_close 44 = .ok (.iconst 1, 1) := by decide +kernel
theorem dX6_close_45 : decode cX6_close 45 = .ok (.aload_n 0, 1) := by decide +kernel
theorem dX6_close_46 : decode cX6_close 46 = .ok (.getfield 88, 3) := by decide +kernel
theorem dX6_close_49 : decode cX6_close 49 = .ok (.ishl, 1) := by decide +kernel
theorem dX6_close_50 : decode cX6_close 50 = .ok (.if_icmp .ge 48, 3) := by decide +kernel
theorem dX6_close_53 : decode cX6_close 53 = .ok (.iload 5, 2) := by decide +kernel
theorem dX6_close_55 : decode cX6_close 55 = .ok (.invokestatic 196, 3) := by decide +kernel
theorem dX6_close_58 : decode cX6_close 58 = .ok (.iload_n 1, 1) := by decide +kernel
theorem dX6_close_59 : decode cX6_close 59 = .ok (.if_icmp .eq 6, 3) := by decide +kernel
theorem dX6_close_62 : decode cX6_close 62 = .ok (.goto 30, 3) := by decide +kernel
theorem dX6_close_65 : decode cX6_close 65 = .ok (.aload_n 0, 1) := by decide +kernel
theorem dX6_close_66 : decode cX6_close 66 = .ok (.iload 5, 2) := by decide +kernel
theorem dX6_close_68 : decode cX6_close 68 = .ok (.invokevirtual 187, 3) := by decide +kernel
theorem dX6_close_71 : decode cX6_close 71 = .ok (.istore 6, 2) := by decide +kernel
theorem dX6_close_73 : decode cX6_close 73 = .ok (.iload_n 3, 1) := by decide +kernel
theorem dX6_close_74 : decode cX6_close 74 = .ok (.iconst (-1), 1) := by decide +kernel
theorem dX6_close_75 : decode cX6_close 75 = .ok (.if_icmp .eq 10, 3) := by decide +kernel
theorem dX6_close_78 : decode cX6_close 78 = .ok (.iload 6, 2) := by decide +kernel
theorem dX6_close_80 : decode cX6_close 80 = .ok (.iload 4, 2) := by decide +kernel
theorem dX6_close_82 : decode cX6_close 82 = .ok (.if_icmp .ge 10, 3) := by decide +kernel
theorem dX6_close_85 : decode cX6_close 85 = .ok (.iload 5, 2) := by decide +kernel
theorem dX6_close_87 : decode cX6_close 87 = .ok (.istore_n 3, 1) := by decide +kernel
theorem dX6_close_88 : decode cX6_close 88 = .ok (.iload 6, 2) := by decide +kernel
theorem dX6_close_90 : decode cX6_close 90 = .ok (.istore 4, 2) := by decide +kernel
theorem dX6_close_92 : decode cX6_close 92 = .ok (.iinc 5 1, 3) := by decide +kernel
theorem dX6_close_95 : decode cX6_close 95 = .ok (.goto (-53), 3) := by decide +kernel
theorem dX6_close_98 : decode cX6_close 98 = .ok (.iload_n 2, 1) := by decide +kernel
theorem dX6_close_99 : decode cX6_close 99 = .ok (.ifCond .ne 7, 3) := by decide +kernel
theorem dX6_close_102 : decode cX6_close 102 = .ok (.iload_n 3, 1) := by decide +kernel
theorem dX6_close_103 : decode cX6_close 103 = .ok (.goto 5, 3) := by decide +kernel
theorem dX6_close_106 : decode cX6_close 106 = .ok (.iload 4, 2) := by decide +kernel
theorem dX6_close_108 : decode cX6_close 108 = .ok (.ireturn, 1) := by decide +kernel
theorem dX6_good_0 : decode cX6_good 0 = .ok (.aload_n 0, 1) := by decide +kernel
theorem dX6_good_1 : decode cX6_good 1 = .ok (.iload_n 1, 1) := by decide +kernel
theorem dX6_good_2 : decode cX6_good 2 = .ok (.invokevirtual 155, 3) := by decide +kernel
theorem dX6_good_5 : decode cX6_good 5 = .ok (.ifCond .ne 6, 3) := by decide +kernel
theorem dX6_good_8 : decode cX6_good 8 = .ok (.ldc 205, 2) := by decide +kernel
theorem dX6_good_10 : decode cX6_good 10 = .ok (.ireturn, 1) := by decide +kernel
theorem dX6_good_11 : decode cX6_good 11 = .ok (.aload_n 0, 1) := by decide +kernel
theorem dX6_good_12 : decode cX6_good 12 = .ok (.invokevirtual 164, 3) := by decide +kernel
theorem dX6_good_15 : decode cX6_good 15 = .ok (.iconst 0, 1) := by decide +kernel
theorem dX6_good_16 : decode cX6_good 16 = .ok (.istore_n 2, 1) := by decide +kernel
theorem dX6_good_17 : decode cX6_good 17 = .ok (.iconst 0, 1) := by decide +kernel
theorem dX6_good_18 : decode cX6_good 18 = .ok (.istore_n 3, 1) := by decide +kernel
theorem dX6_good_19 : decode cX6_good 19 = .ok (.iload_n 3, 1) := by decide +kernel
theorem dX6_good_20 : decode cX6_good 20 = .ok (.iconst 3, 1) := by decide +kernel
theorem dX6_good_21 : decode cX6_good 21 = .ok (.if_icmp .ge 95, 3) := by decide +kernel
theorem dX6_good_24 : decode cX6_good 24 = .ok (.aload_n 0, 1) := by decide +kernel
theorem dX6_good_25 : decode cX6_good 25 = .ok (.getfield 59, 3) := by decide +kernel
theorem dX6_good_28 : decode cX6_good 28 = .ok (.iload_n 3, 1) := by decide +kernel
theorem dX6_good_29 : decode cX6_good 29 = .ok (.iaload, 1) := by decide +kernel
theorem dX6_good_30 : decode cX6_good 30 = .ok (.iload_n 1, 1) := by decide +kernel
theorem dX6_good_31 : decode cX6_good 31 = .ok (.ishr, 1) := by decide +kernel
theorem dX6_good_32 : decode cX6_good 32 = .ok (.iconst 1, 1) := by decide +kernel
theorem dX6_good_33 : decode cX6_good 33 = .ok (.iand, 1) := by decide +kernel
theorem dX6_good_34 : decode cX6_good 34 = .ok (.ifCond .ne 6, 3) := by decide +kernel
theorem dX6_good_37 : decode cX6_good 37 = .ok (.goto 73, 3) := by decide +kernel
theorem dX6_good_40 : decode cX6_good 40 = .ok (.aload_n 0, 1) := by decide +kernel
theorem dX6_good_41 : decode cX6_good 41 = .ok (.getfield 55, 3) := by decide +kernel
theorem dX6_good_44 : decode cX6_good 44 = .ok (.aload_n 0, 1) := by decide +kernel
theorem dX6_good_45 : decode cX6_good 45 = .ok (.getfield 59, 3) := by decide +kernel
theorem dX6_good_48 : decode cX6_good 48 = .ok (.iload_n 3, 1) := by decide +kernel
theorem dX6_good_49 : decode cX6_good 49 = .ok (.iaload, 1) := by decide +kernel
theorem dX6_good_50 : decode cX6_good 50 = .ok (.iconst 1, 1) := by decide +kernel
theorem dX6_good_51 : decode cX6_good 51 = .ok (.iload_n 1, 1) := by decide +kernel
theorem dX6_good_52 : decode cX6_good 52 = .ok (.ishl, 1) := by decide +kernel
theorem dX6_good_53 : decode cX6_good 53 = .ok (.iconst (-1), 1) := by decide +kernel
theorem dX6_good_54 : decode cX6_good 54 = .ok (.ixor, 1) := by decide +kernel
theorem dX6_good_55 : decode cX6_good 55 = .ok (.iand, 1) := by decide +kernel
theorem dX6_good_56 : decode cX6_good 56 = .ok (.aload_n 0, 1) := by decide +kernel
theorem dX6_good_57 : decode cX6_good 57 = .ok (.getfield 22, 3) := by decide +kernel
theorem dX6_good_60 : decode cX6_good 60 = .ok (.iload_n 3, 1) := by decide +kernel
theorem dX6_good_61 : decode cX6_good 61 = .ok (.iaload, 1) := by decide +kernel
theorem dX6_good_62 : decode cX6_good 62 = .ok (.invokevirtual 190, 3) := by decide +kernel
theorem dX6_good_65 : decode cX6_good 65 = .ok (.istore 4, 2) := by decide +kernel
theorem dX6_good_67 : decode cX6_good 67 = .ok (.iconst 0, 1) := by decide +kernel
theorem dX6_good_68 : decode cX6_good 68 = .ok (.istore 5, 2) := by decide +kernel
theorem dX6_good_70 : decode cX6_good 70 = .ok (.iload 5, 2) := by decide +kernel
theorem dX6_good_72 : decode cX6_good 72 = .ok (.iconst 3, 1) := by decide +kernel
theorem dX6_good_73 : decode cX6_good 73 = .ok (.if_icmp .ge 37, 3) := by decide +kernel
theorem dX6_good_76 : decode cX6_good 76 = .ok (.aload_n 0, 1) := by decide +kernel
theorem dX6_good_77 : decode cX6_good 77 = .ok (.getfield 59, 3) := by decide +kernel
theorem dX6_good_80 : decode cX6_good 80 = .ok (.iload 5, 2) := by decide +kernel
theorem dX6_good_82 : decode cX6_good 82 = .ok (.iaload, 1) := by decide +kernel
theorem dX6_good_83 : decode cX6_good 83 = .ok (.iload_n 1, 1) := by decide +kernel
theorem dX6_good_84 : decode cX6_good 84 = .ok (.ishr, 1) := by decide +kernel
theorem dX6_good_85 : decode cX6_good 85 = .ok (.iconst 1, 1) := by decide +kernel
theorem dX6_good_86 : decode cX6_good 86 = .ok (.iand, 1) := by decide +kernel
theorem dX6_good_87 : decode cX6_good 87 = .ok (.ifCond .ne 17, 3) := by decide +kernel
theorem dX6_good_90 : decode cX6_good 90 = .ok (.iload_n 2, 1) := by decide +kernel
theorem dX6_good_91 : decode cX6_good 91 = .ok (.iload 4, 2) := by decide +kernel
theorem dX6_good_93 : decode cX6_good 93 = .ok (.aload_n 0, 1) := by decide +kernel
theorem dX6_good_94 : decode cX6_good 94 = .ok (.iload 5, 2) := by decide +kernel
theorem dX6_good_96 : decode cX6_good 96 = .ok (.invokevirtual 177, 3) := by decide +kernel
theorem dX6_good_99 : decode cX6_good 99 = .ok (.invokestatic 206, 3) := by decide +kernel
theorem dX6_good_102 : decode cX6_good 102 = .ok (.iadd, 1) := by decide +kernel
theorem dX6_good_103 : decode cX6_good 103 = .ok (.istore_n 2, 1) := by decide +kernel
theorem dX6_good_104 : decode cX6_good 104 = .ok (.iinc 5 1, 3) := by decide +kernel
theorem dX6_good_107 : decode cX6_good 107 = .ok (.goto (-37), 3) := by decide +kernel
theorem dX6_good_110 : decode cX6_good 110 = .ok (.iinc 3 1, 3) := by decide +kernel
theorem dX6_good_113 : decode cX6_good 113 = .ok (.goto (-94), 3) := by decide +kernel
theorem dX6_good_116 : decode cX6_good 116 = .ok (.iload_n 2, 1) := by decide +kernel
theorem dX6_good_117 : decode cX6_good 117 = .ok (.ireturn, 1) := by decide +kernel
theorem dX6_alike_0 : decode cX6_alike 0 = .ok (.iload_n 1, 1) := by decide +kernel
theorem dX6_alike_1 : decode cX6_alike 1 = .ok (.invokestatic 161, 3) := by decide +kernel
theorem dX6_alike_4 : decode cX6_alike 4 = .ok (.ifCond .eq 22, 3) := by decide +kernel
theorem dX6_alike_7 : decode cX6_alike 7 = .ok (.iload_n 2, 1) := by decide +kernel
theorem dX6_alike_8 : decode cX6_alike 8 = .ok (.invokestatic 161, 3) := by decide +kernel
theorem dX6_alike_11 : decode cX6_alike 11 = .ok (.ifCond .eq 15, 3) := by decide +kernel
theorem dX6_alike_14 : decode cX6_alike 14 = .ok (.iload_n 1, 1) := by decide +kernel
theorem dX6_alike_15 : decode cX6_alike 15 = .ok (.iload_n 2, 1) := by decide +kernel
theorem dX6_alike_16 : decode cX6_alike 16 = .ok (.if_icmp .eq 10, 3) := by decide +kernel
theorem dX6_alike_19 : decode cX6_alike 19 = .ok (.iload_n 3, 1) := by decide +kernel
theorem dX6_alike_20 : decode cX6_alike 20 = .ok (.invokestatic 158, 3) := by decide +kernel
theorem dX6_alike_23 : decode cX6_alike 23 = .ok (.ifCond .ne 7, 3) := by decide +kernel
theorem dX6_alike_26 : decode cX6_alike 26 = .ok (.ldc2_w 209, 3) := by decide +kernel
theorem dX6_alike_29 : decode cX6_alike 29 = .ok (.lreturn, 1) := by decide +kernel
theorem dX6_alike_30 : decode cX6_alike 30 = .ok (.aload_n 0, 1) := by decide +kernel
theorem dX6_alike_31 : decode cX6_alike 31 = .ok (.invokevirtual 164, 3) := by decide +kernel
theorem dX6_alike_34 : decode cX6_alike 34 = .ok (.iconst 1, 1) := by decide +kernel
theorem dX6_alike_35 : decode cX6_alike 35 = .ok (.aload_n 0, 1) := by decide +kernel
theorem dX6_alike_36 : decode cX6_alike 36 = .ok (.getfield 88, 3) := by decide +kernel
theorem dX6_alike_39 : decode cX6_alike 39 = .ok (.ishl, 1) := by decide +kernel
theorem dX6_alike_40 : decode cX6_alike 40 = .ok (.iconst 1, 1) := by decide +kernel
theorem dX6_alike_41 : decode cX6_alike 41 = .ok (.isub, 1) := by decide +kernel
theorem dX6_alike_42 : decode cX6_alike 42 = .ok (.istore 4, 2) := by decide +kernel
theorem dX6_alike_44 : decode cX6_alike 44 = .ok (.iload 4, 2) := by decide +kernel
theorem dX6_alike_46 : decode cX6_alike 46 = .ok (.aload_n 0, 1) := by decide +kernel
theorem dX6_alike_47 : decode cX6_alike 47 = .ok (.getfield 59, 3) := by decide +kernel
theorem dX6_alike_50 : decode cX6_alike 50 = .ok (.iload_n 1, 1) := by decide +kernel
theorem dX6_alike_51 : decode cX6_alike 51 = .ok (.iaload, 1) := by decide +kernel
theorem dX6_alike_52 : decode cX6_alike 52 = .ok (.aload_n 0, 1) := by decide +kernel
theorem dX6_alike_53 : decode cX6_alike 53 = .ok (.getfield 59, 3) := by decide +kernel
theorem dX6_alike_56 : decode cX6_alike 56 = .ok (.iload_n 2, 1) := by decide +kernel
theorem dX6_alike_57 : decode cX6_alike 57 = .ok (.iaload, 1) := by decide +kernel
theorem dX6_alike_58 : decode cX6_alike 58 = .ok (.iand, 1) := by decide +kernel
theorem dX6_alike_59 : decode cX6_alike 59 = .ok (.iconst (-1), 1) := by decide +kernel
theorem dX6_alike_60 : decode cX6_alike 60 = .ok (.ixor, 1) := by decide +kernel
theorem dX6_alike_61 : decode cX6_alike 61 = .ok (.iand, 1) := by decide +kernel
theorem dX6_alike_62 : decode cX6_alike 62 = .ok (.istore 5, 2) := by decide +kernel
theorem dX6_alike_64 : decode cX6_alike 64 = .ok (.iload 4, 2) := by decide +kernel
theorem dX6_alike_66 : decode cX6_alike 66 = .ok (.aload_n 0, 1) := by decide +kernel
theorem dX6_alike_67 : decode cX6_alike 67 = .ok (.getfield 59, 3) := by decide +kernel
theorem dX6_alike_70 : decode cX6_alike 70 = .ok (.iload_n 1, 1) := by decide +kernel
theorem dX6_alike_71 : decode cX6_alike 71 = .ok (.iaload, 1) := by decide +kernel
theorem dX6_alike_72 : decode cX6_alike 72 = .ok (.aload_n 0, 1) := by decide +kernel
theorem dX6_alike_73 : decode cX6_alike 73 = .ok (.getfield 59, 3) := by decide +kernel
theorem dX6_alike_76 : decode cX6_alike 76 = .ok (.iload_n 2, 1) := by decide +kernel
theorem dX6_alike_77 : decode cX6_alike 77 = .ok (.iaload, 1) := by decide +kernel
theorem dX6_alike_78 : decode cX6_alike 78 = .ok (.ior, 1) := by decide +kernel
theorem dX6_alike_79 : decode cX6_alike 79 = .ok (.iconst (-1), 1) := by decide +kernel
theorem dX6_alike_80 : decode cX6_alike 80 = .ok (.ixor, 1) := by decide +kernel
theorem dX6_alike_81 : decode cX6_alike 81 = .ok (.iand, 1) := by decide +kernel
theorem dX6_alike_82 : decode cX6_alike 82 = .ok (.istore 6, 2) := by decide +kernel
theorem dX6_alike_84 : decode cX6_alike 84 = .ok (.iload 5, 2) := by decide +kernel
theorem dX6_alike_86 : decode cX6_alike 86 = .ok (.ifCond .ne 7, 3) := by decide +kernel
theorem dX6_alike_89 : decode cX6_alike 89 = .ok (.ldc2_w 209, 3) := by decide +kernel
theorem dX6_alike_92 : decode cX6_alike 92 = .ok (.lreturn, 1) := by decide +kernel
theorem dX6_alike_93 : decode cX6_alike 93 = .ok (.iload 6, 2) := by decide +kernel
theorem dX6_alike_95 : decode cX6_alike 95 = .ok (.invokestatic 196, 3) := by decide +kernel
theorem dX6_alike_98 : decode cX6_alike 98 = .ok (.iload 5, 2) := by decide +kernel
theorem dX6_alike_100 : decode cX6_alike 100 = .ok (.invokestatic 196, 3) := by decide +kernel
theorem dX6_alike_103 : decode cX6_alike 103 = .ok (.iload_n 3, 1) := by decide +kernel
theorem dX6_alike_104 : decode cX6_alike 104 = .ok (.invokestatic 211, 3) := by decide +kernel
theorem dX6_alike_107 : decode cX6_alike 107 = .ok (.lreturn, 1) := by decide +kernel
theorem dX6_change_0 : decode cX6_change 0 = .ok (.iload_n 1, 1) := by decide +kernel
theorem dX6_change_1 : decode cX6_change 1 = .ok (.invokestatic 158, 3) := by decide +kernel
theorem dX6_change_4 : decode cX6_change 4 = .ok (.ifCond .ne 6, 3) := by decide +kernel
theorem dX6_change_7 : decode cX6_change 7 = .ok (.bipush (-2), 2) := by decide +kernel
theorem dX6_change_9 : decode cX6_change 9 = .ok (.ireturn, 1) := by decide +kernel
theorem dX6_change_10 : decode cX6_change 10 = .ok (.aload_n 0, 1) := by decide +kernel
theorem dX6_change_11 : decode cX6_change 11 = .ok (.invokevirtual 164, 3) := by decide +kernel
theorem dX6_change_14 : decode cX6_change 14 = .ok (.iconst (-1), 1) := by decide +kernel
theorem dX6_change_15 : decode cX6_change 15 = .ok (.istore_n 2, 1) := by decide +kernel
theorem dX6_change_16 : decode cX6_change 16 = .ok (.aload_n 0, 1) := by decide +kernel
theorem dX6_change_17 : decode cX6_change 17 = .ok (.sipush 255, 3) := by decide +kernel
theorem dX6_change_20 : decode cX6_change 20 = .ok (.invokevirtual 187, 3) := by decide +kernel
theorem dX6_change_23 : decode cX6_change 23 = .ok (.istore_n 3, 1) := by decide +kernel
theorem dX6_change_24 : decode cX6_change 24 = .ok (.iconst 0, 1) := by decide +kernel
theorem dX6_change_25 : decode cX6_change 25 = .ok (.istore 4, 2) := by decide +kernel
theorem dX6_change_27 : decode cX6_change 27 = .ok (.iload 4, 2) := by decide +kernel
theorem dX6_change_29 : decode cX6_change 29 = .ok (.aload_n 0, 1) := by decide +kernel
theorem dX6_change_30 : decode cX6_change 30 = .ok (.getfield 85, 3) := by decide +kernel
theorem dX6_change_33 : decode cX6_change 33 = .ok (.if_icmp .ge 72, 3) := by decide +kernel
theorem dX6_change_36 : decode cX6_change 36 = .ok (.iload 4, 2) := by decide +kernel
theorem dX6_change_38 : decode cX6_change 38 = .ok (.iconst 1, 1) := by decide +kernel
theorem dX6_change_39 : decode cX6_change 39 = .ok (.iadd, 1) := by decide +kernel
theorem dX6_change_40 : decode cX6_change 40 = .ok (.istore 5, 2) := by decide +kernel
theorem dX6_change_42 : decode cX6_change 42 = .ok (.iload 5, 2) := by decide +kernel
theorem dX6_change_44 : decode cX6_change 44 = .ok (.aload_n 0, 1) := by decide +kernel
theorem dX6_change_45 : decode cX6_change 45 = .ok (.getfield 85, 3) := by decide +kernel
theorem dX6_change_48 : decode cX6_change 48 = .ok (.if_icmp .ge 51, 3) := by decide +kernel
theorem dX6_change_51 : decode cX6_change 51 = .ok (.aload_n 0, 1) := by decide +kernel
theorem dX6_change_52 : decode cX6_change 52 = .ok (.aload_n 0, 1) := by decide +kernel
theorem dX6_change_53 : decode cX6_change 53 = .ok (.iload 4, 2) := by decide +kernel
theorem dX6_change_55 : decode cX6_change 55 = .ok (.invokevirtual 128, 3) := by decide +kernel
theorem dX6_change_58 : decode cX6_change 58 = .ok (.aload_n 0, 1) := by decide +kernel
theorem dX6_change_59 : decode cX6_change 59 = .ok (.iload 5, 2) := by decide +kernel
theorem dX6_change_61 : decode cX6_change 61 = .ok (.invokevirtual 128, 3) := by decide +kernel
theorem dX6_change_64 : decode cX6_change 64 = .ok (.invokevirtual 215, 3) := by decide +kernel
theorem dX6_change_67 : decode cX6_change 67 = .ok (.istore 6, 2) := by decide +kernel
theorem dX6_change_69 : decode cX6_change 69 = .ok (.iload 6, 2) := by decide +kernel
theorem dX6_change_71 : decode cX6_change 71 = .ok (.iconst (-1), 1) := by decide +kernel
theorem dX6_change_72 : decode cX6_change 72 = .ok (.if_icmp .eq 21, 3) := by decide +kernel
theorem dX6_change_75 : decode cX6_change 75 = .ok (.iload 6, 2) := by decide +kernel
theorem dX6_change_77 : decode cX6_change 77 = .ok (.iload_n 3, 1) := by decide +kernel
theorem dX6_change_78 : decode cX6_change 78 = .ok (.if_icmp .ge 15, 3) := by decide +kernel
theorem dX6_change_81 : decode cX6_change 81 = .ok (.iload 6, 2) := by decide +kernel
theorem dX6_change_83 : decode cX6_change 83 = .ok (.istore_n 3, 1) := by decide +kernel
theorem dX6_change_84 : decode cX6_change 84 = .ok (.bipush 10, 2) := by decide +kernel
theorem dX6_change_86 : decode cX6_change 86 = .ok (.iload 4, 2) := by decide +kernel
theorem dX6_change_88 : decode cX6_change 88 = .ok (.imul, 1) := by decide +kernel
theorem dX6_change_89 : decode cX6_change 89 = .ok (.iload 5, 2) := by decide +kernel
theorem dX6_change_91 : decode cX6_change 91 = .ok (.iadd, 1) := by decide +kernel
theorem dX6_change_92 : decode cX6_change 92 = .ok (.istore_n 2, 1) := by decide +kernel
theorem dX6_change_93 : decode cX6_change 93 = .ok (.iinc 5 1, 3) := by decide +kernel
theorem dX6_change_96 : decode cX6_change 96 = .ok (.goto (-54), 3) := by decide +kernel
theorem dX6_change_99 : decode cX6_change 99 = .ok (.iinc 4 1, 3) := by decide +kernel
theorem dX6_change_102 : decode cX6_change 102 = .ok (.goto (-75), 3) := by decide +kernel
theorem dX6_change_105 : decode cX6_change 105 = .ok (.iload_n 1, 1) := by decide +kernel
theorem dX6_change_106 : decode cX6_change 106 = .ok (.ifCond .ne 7, 3) := by decide +kernel
theorem dX6_change_109 : decode cX6_change 109 = .ok (.iload_n 2, 1) := by decide +kernel
theorem dX6_change_110 : decode cX6_change 110 = .ok (.goto 4, 3) := by decide +kernel
theorem dX6_change_113 : decode cX6_change 113 = .ok (.iload_n 3, 1) := by decide +kernel
theorem dX6_change_114 : decode cX6_change 114 = .ok (.ireturn, 1) := by decide +kernel
theorem dX6_judge_0 : decode cX6_judge 0 = .ok (.aload_n 0, 1) := by decide +kernel
theorem dX6_judge_1 : decode cX6_judge 1 = .ok (.iload_n 1, 1) := by decide +kernel
theorem dX6_judge_2 : decode cX6_judge 2 = .ok (.invokevirtual 219, 3) := by decide +kernel
theorem dX6_judge_5 : decode cX6_judge 5 = .ok (.istore_n 3, 1) := by decide +kernel
theorem dX6_judge_6 : decode cX6_judge 6 = .ok (.iload_n 3, 1) := by decide +kernel
theorem dX6_judge_7 : decode cX6_judge 7 = .ok (.ifCond .eq 5, 3) := by decide +kernel
theorem dX6_judge_10 : decode cX6_judge 10 = .ok (.iload_n 3, 1) := by decide +kernel
theorem dX6_judge_11 : decode cX6_judge 11 = .ok (.ireturn, 1) := by decide +kernel
theorem dX6_judge_12 : decode cX6_judge 12 = .ok (.iload_n 2, 1) := by decide +kernel
theorem dX6_judge_13 : decode cX6_judge 13 = .ok (.invokestatic 161, 3) := by decide +kernel
theorem dX6_judge_16 : decode cX6_judge 16 = .ok (.ifCond .ne 6, 3) := by decide +kernel
theorem dX6_judge_19 : decode cX6_judge 19 = .ok (.bipush (-5), 2) := by decide +kernel
theorem dX6_judge_21 : decode cX6_judge 21 = .ok (.ireturn, 1) := by decide +kernel
theorem dX6_judge_22 : decode cX6_judge 22 = .ok (.aload_n 0, 1) := by decide +kernel
theorem dX6_judge_23 : decode cX6_judge 23 = .ok (.invokevirtual 164, 3) := by decide +kernel
theorem dX6_judge_26 : decode cX6_judge 26 = .ok (.aload_n 0, 1) := by decide +kernel
theorem dX6_judge_27 : decode cX6_judge 27 = .ok (.iload_n 1, 1) := by decide +kernel
theorem dX6_judge_28 : decode cX6_judge 28 = .ok (.iload_n 2, 1) := by decide +kernel
theorem dX6_judge_29 : decode cX6_judge 29 = .ok (.invokevirtual 222, 3) := by decide +kernel
theorem dX6_judge_32 : decode cX6_judge 32 = .ok (.ireturn, 1) := by decide +kernel
theorem dX6_whose_0 : decode cX6_whose 0 = .ok (.aload_n 0, 1) := by decide +kernel
theorem dX6_whose_1 : decode cX6_whose 1 = .ok (.iload_n 1, 1) := by decide +kernel
theorem dX6_whose_2 : decode cX6_whose 2 = .ok (.invokevirtual 219, 3) := by decide +kernel
theorem dX6_whose_5 : decode cX6_whose 5 = .ok (.istore_n 2, 1) := by decide +kernel
theorem dX6_whose_6 : decode cX6_whose 6 = .ok (.iload_n 2, 1) := by decide +kernel
theorem dX6_whose_7 : decode cX6_whose 7 = .ok (.ifCond .eq 5, 3) := by decide +kernel
theorem dX6_whose_10 : decode cX6_whose 10 = .ok (.iload_n 2, 1) := by decide +kernel
theorem dX6_whose_11 : decode cX6_whose 11 = .ok (.ireturn, 1) := by decide +kernel
theorem dX6_whose_12 : decode cX6_whose 12 = .ok (.aload_n 0, 1) := by decide +kernel
theorem dX6_whose_13 : decode cX6_whose 13 = .ok (.invokevirtual 164, 3) := by decide +kernel
theorem dX6_whose_16 : decode cX6_whose 16 = .ok (.iconst 0, 1) := by decide +kernel
theorem dX6_whose_17 : decode cX6_whose 17 = .ok (.istore_n 3, 1) := by decide +kernel
theorem dX6_whose_18 : decode cX6_whose 18 = .ok (.iconst 0, 1) := by decide +kernel
theorem dX6_whose_19 : decode cX6_whose 19 = .ok (.istore 4, 2) := by decide +kernel
theorem dX6_whose_21 : decode cX6_whose 21 = .ok (.iload 4, 2) := by decide +kernel
theorem dX6_whose_23 : decode cX6_whose 23 = .ok (.iconst 3, 1) := by decide +kernel
theorem dX6_whose_24 : decode cX6_whose 24 = .ok (.if_icmp .ge 27, 3) := by decide +kernel
theorem dX6_whose_27 : decode cX6_whose 27 = .ok (.aload_n 0, 1) := by decide +kernel
theorem dX6_whose_28 : decode cX6_whose 28 = .ok (.iload_n 1, 1) := by decide +kernel
theorem dX6_whose_29 : decode cX6_whose 29 = .ok (.iload 4, 2) := by decide +kernel
theorem dX6_whose_31 : decode cX6_whose 31 = .ok (.invokevirtual 222, 3) := by decide +kernel
theorem dX6_whose_34 : decode cX6_whose 34 = .ok (.iconst (-1), 1) := by decide +kernel
theorem dX6_whose_35 : decode cX6_whose 35 = .ok (.if_icmp .ne 10, 3) := by decide +kernel
theorem dX6_whose_38 : decode cX6_whose 38 = .ok (.iload_n 3, 1) := by decide +kernel
theorem dX6_whose_39 : decode cX6_whose 39 = .ok (.iconst 1, 1) := by decide +kernel
theorem dX6_whose_40 : decode cX6_whose 40 = .ok (.iload 4, 2) := by decide +kernel
theorem dX6_whose_42 : decode cX6_whose 42 = .ok (.ishl, 1) := by decide +kernel
theorem dX6_whose_43 : decode cX6_whose 43 = .ok (.ior, 1) := by decide +kernel
theorem dX6_whose_44 : decode cX6_whose 44 = .ok (.istore_n 3, 1) := by decide +kernel
theorem dX6_whose_45 : decode cX6_whose 45 = .ok (.iinc 4 1, 3) := by decide +kernel
theorem dX6_whose_48 : decode cX6_whose 48 = .ok (.goto (-27), 3) := by decide +kernel
theorem dX6_whose_51 : decode cX6_whose 51 = .ok (.iload_n 3, 1) := by decide +kernel
theorem dX6_whose_52 : decode cX6_whose 52 = .ok (.ireturn, 1) := by decide +kernel
theorem dX6_depth_0 : decode cX6_depth 0 = .ok (.aload_n 0, 1) := by decide +kernel
theorem dX6_depth_1 : decode cX6_depth 1 = .ok (.iload_n 1, 1) := by decide +kernel
theorem dX6_depth_2 : decode cX6_depth 2 = .ok (.invokevirtual 219, 3) := by decide +kernel
theorem dX6_depth_5 : decode cX6_depth 5 = .ok (.istore 4, 2) := by decide +kernel
theorem dX6_depth_7 : decode cX6_depth 7 = .ok (.iload 4, 2) := by decide +kernel
theorem dX6_depth_9 : decode cX6_depth 9 = .ok (.ifCond .eq 6, 3) := by decide +kernel
theorem dX6_depth_12 : decode cX6_depth 12 = .ok (.iload 4, 2) := by decide +kernel
theorem dX6_depth_14 : decode cX6_depth 14 = .ok (.ireturn, 1) := by decide +kernel
theorem dX6_depth_15 : decode cX6_depth 15 = .ok (.aload_n 0, 1) := by decide +kernel
theorem dX6_depth_16 : decode cX6_depth 16 = .ok (.iload_n 2, 1) := by decide +kernel
theorem dX6_depth_17 : decode cX6_depth 17 = .ok (.invokevirtual 128, 3) := by decide +kernel
theorem dX6_depth_20 : decode cX6_depth 20 = .ok (.astore 5, 2) := by decide +kernel
theorem dX6_depth_22 : decode cX6_depth 22 = .ok (.aload 5, 2) := by decide +kernel
theorem dX6_depth_24 : decode cX6_depth 24 = .ok (.ifnull 12, 3) := by decide +kernel
theorem dX6_depth_27 : decode cX6_depth 27 = .ok (.aload 5, 2) := by decide +kernel
theorem dX6_depth_29 : decode cX6_depth 29 = .ok (.getfield 143, 3) := by decide +kernel
theorem dX6_depth_32 : decode cX6_depth 32 = .ok (.iconst (-1), 1) := by decide +kernel
theorem dX6_depth_33 : decode cX6_depth 33 = .ok (.if_icmp .ne 6, 3) := by decide +kernel
theorem dX6_depth_36 : decode cX6_depth 36 = .ok (.bipush (-5), 2) := by decide +kernel
theorem dX6_depth_38 : decode cX6_depth 38 = .ok (.ireturn, 1) := by decide +kernel
theorem dX6_depth_39 : decode cX6_depth 39 = .ok (.iload_n 3, 1) := by decide +kernel
theorem dX6_depth_40 : decode cX6_depth 40 = .ok (.invokestatic 132, 3) := by decide +kernel
theorem dX6_depth_43 : decode cX6_depth 43 = .ok (.ifCond .ne 6, 3) := by decide +kernel
theorem dX6_depth_46 : decode cX6_depth 46 = .ok (.bipush (-7), 2) := by decide +kernel
theorem dX6_depth_48 : decode cX6_depth 48 = .ok (.ireturn, 1) := by decide +kernel
theorem dX6_depth_49 : decode cX6_depth 49 = .ok (.aload 5, 2) := by decide +kernel
theorem dX6_depth_51 : decode cX6_depth 51 = .ok (.iload_n 3, 1) := by decide +kernel
theorem dX6_depth_52 : decode cX6_depth 52 = .ok (.invokevirtual 135, 3) := by decide +kernel
theorem dX6_depth_55 : decode cX6_depth 55 = .ok (.istore 6, 2) := by decide +kernel
theorem dX6_depth_57 : decode cX6_depth 57 = .ok (.iconst 0, 1) := by decide +kernel
theorem dX6_depth_58 : decode cX6_depth 58 = .ok (.istore 7, 2) := by decide +kernel
theorem dX6_depth_60 : decode cX6_depth 60 = .ok (.iconst 0, 1) := by decide +kernel
theorem dX6_depth_61 : decode cX6_depth 61 = .ok (.istore 8, 2) := by decide +kernel
theorem dX6_depth_63 : decode cX6_depth 63 = .ok (.iload 8, 2) := by decide +kernel
theorem dX6_depth_65 : decode cX6_depth 65 = .ok (.bipush 9, 2) := by decide +kernel
theorem dX6_depth_67 : decode cX6_depth 67 = .ok (.if_icmp .gt 44, 3) := by decide +kernel
theorem dX6_depth_70 : decode cX6_depth 70 = .ok (.aload 5, 2) := by decide +kernel
theorem dX6_depth_72 : decode cX6_depth 72 = .ok (.iload_n 3, 1) := by decide +kernel
theorem dX6_depth_73 : decode cX6_depth 73 = .ok (.iload 8, 2) := by decide +kernel
theorem dX6_depth_75 : decode cX6_depth 75 = .ok (.invokevirtual 139, 3) := by decide +kernel
theorem dX6_depth_78 : decode cX6_depth 78 = .ok (.aload_n 0, 1) := by decide +kernel
theorem dX6_depth_79 : decode cX6_depth 79 = .ok (.invokevirtual 164, 3) := by decide +kernel
theorem dX6_depth_82 : decode cX6_depth 82 = .ok (.aload_n 0, 1) := by decide +kernel
theorem dX6_depth_83 : decode cX6_depth 83 = .ok (.iload_n 1, 1) := by decide +kernel
theorem dX6_depth_84 : decode cX6_depth 84 = .ok (.aload 5, 2) := by decide +kernel
theorem dX6_depth_86 : decode cX6_depth 86 = .ok (.getfield 143, 3) := by decide +kernel
theorem dX6_depth_89 : decode cX6_depth 89 = .ok (.invokevirtual 222, 3) := by decide +kernel
theorem dX6_depth_92 : decode cX6_depth 92 = .ok (.iconst (-1), 1) := by decide +kernel
theorem dX6_depth_93 : decode cX6_depth 93 = .ok (.if_icmp .ne 12, 3) := by decide +kernel
theorem dX6_depth_96 : decode cX6_depth 96 = .ok (.iload 7, 2) := by decide +kernel
theorem dX6_depth_98 : decode cX6_depth 98 = .ok (.iconst 1, 1) := by decide +kernel
theorem dX6_depth_99 : decode cX6_depth 99 = .ok (.iload 8, 2) := by decide +kernel
theorem dX6_depth_101 : decode cX6_depth 101 = .ok (.ishl, 1) := by decide +kernel
theorem dX6_depth_102 : decode cX6_depth 102 = .ok (.ior, 1) := by decide +kernel
theorem dX6_depth_103 : decode cX6_depth 103 = .ok (.istore 7, 2) := by decide +kernel
theorem dX6_depth_105 : decode cX6_depth 105 = .ok (.iinc 8 1, 3) := by decide +kernel
theorem dX6_depth_108 : decode cX6_depth 108 = .ok (.goto (-45), 3) := by decide +kernel
theorem dX6_depth_111 : decode cX6_depth 111 = .ok (.aload 5, 2) := by decide +kernel
theorem dX6_depth_113 : decode cX6_depth 113 = .ok (.iload_n 3, 1) := by decide +kernel
theorem dX6_depth_114 : decode cX6_depth 114 = .ok (.iload 6, 2) := by decide +kernel
theorem dX6_depth_116 : decode cX6_depth 116 = .ok (.invokevirtual 139, 3) := by decide +kernel
theorem dX6_depth_119 : decode cX6_depth 119 = .ok (.iload 7, 2) := by decide +kernel
theorem dX6_depth_121 : decode cX6_depth 121 = .ok (.ireturn, 1) := by decide +kernel
theorem dX6_laws_0 : decode cX6_laws 0 = .ok (.aload_n 0, 1) := by decide +kernel
theorem dX6_laws_1 : decode cX6_laws 1 = .ok (.iload_n 1, 1) := by decide +kernel
theorem dX6_laws_2 : decode cX6_laws 2 = .ok (.invokevirtual 219, 3) := by decide +kernel
theorem dX6_laws_5 : decode cX6_laws 5 = .ok (.istore_n 3, 1) := by decide +kernel
theorem dX6_laws_6 : decode cX6_laws 6 = .ok (.iload_n 3, 1) := by decide +kernel
theorem dX6_laws_7 : decode cX6_laws 7 = .ok (.ifCond .eq 5, 3) := by decide +kernel
theorem dX6_laws_10 : decode cX6_laws 10 = .ok (.iload_n 3, 1) := by decide +kernel
theorem dX6_laws_11 : decode cX6_laws 11 = .ok (.ireturn, 1) := by decide +kernel
theorem dX6_laws_12 : decode cX6_laws 12 = .ok (.iload_n 2, 1) := by decide +kernel
theorem dX6_laws_13 : decode cX6_laws 13 = .ok (.invokestatic 161, 3) := by decide +kernel
theorem dX6_laws_16 : decode cX6_laws 16 = .ok (.ifCond .ne 6, 3) := by decide +kernel
theorem dX6_laws_19 : decode cX6_laws 19 = .ok (.bipush (-5), 2) := by decide +kernel
theorem dX6_laws_21 : decode cX6_laws 21 = .ok (.ireturn, 1) := by decide +kernel
theorem dX6_laws_22 : decode cX6_laws 22 = .ok (.aload_n 0, 1) := by decide +kernel
theorem dX6_laws_23 : decode cX6_laws 23 = .ok (.getfield 91, 3) := by decide +kernel
theorem dX6_laws_26 : decode cX6_laws 26 = .ok (.istore 4, 2) := by decide +kernel
theorem dX6_laws_28 : decode cX6_laws 28 = .ok (.iconst 0, 1) := by decide +kernel
theorem dX6_laws_29 : decode cX6_laws 29 = .ok (.istore 5, 2) := by decide +kernel
theorem dX6_laws_31 : decode cX6_laws 31 = .ok (.iconst 0, 1) := by decide +kernel
theorem dX6_laws_32 : decode cX6_laws 32 = .ok (.istore 6, 2) := by decide +kernel
theorem dX6_laws_34 : decode cX6_laws 34 = .ok (.iload 6, 2) := by decide +kernel
theorem dX6_laws_36 : decode cX6_laws 36 = .ok (.aload_n 0, 1) := by decide +kernel
theorem dX6_laws_37 : decode cX6_laws 37 = .ok (.getfield 81, 3) := by decide +kernel
theorem dX6_laws_40 : decode cX6_laws 40 = .ok (.if_icmp .ge 38, 3) := by decide +kernel
theorem dX6_laws_43 : decode cX6_laws 43 = .ok (.aload_n 0, 1) := by decide +kernel
theorem dX6_laws_44 : decode cX6_laws 44 = .ok (.iload 6, 2) := by decide +kernel
theorem dX6_laws_46 : decode cX6_laws 46 = .ok (.putfield 91, 3) := by decide +kernel
theorem dX6_laws_49 : decode cX6_laws 49 = .ok (.aload_n 0, 1) := by decide +kernel
theorem dX6_laws_50 : decode cX6_laws 50 = .ok (.invokevirtual 164, 3) := by decide +kernel
theorem dX6_laws_53 : decode cX6_laws 53 = .ok (.aload_n 0, 1) := by decide +kernel
theorem dX6_laws_54 : decode cX6_laws 54 = .ok (.iload_n 1, 1) := by decide +kernel
theorem dX6_laws_55 : decode cX6_laws 55 = .ok (.iload_n 2, 1) := by decide +kernel
theorem dX6_laws_56 : decode cX6_laws 56 = .ok (.invokevirtual 222, 3) := by decide +kernel
theorem dX6_laws_59 : decode cX6_laws 59 = .ok (.iconst (-1), 1) := by decide +kernel
theorem dX6_laws_60 : decode cX6_laws 60 = .ok (.if_icmp .ne 12, 3) := by decide +kernel
theorem dX6_laws_63 : decode cX6_laws 63 = .ok (.iload 5, 2) := by decide +kernel
theorem dX6_laws_65 : decode cX6_laws 65 = .ok (.iconst 1, 1) := by decide +kernel
theorem dX6_laws_66 : decode cX6_laws 66 = .ok (.iload 6, 2) := by decide +kernel
theorem dX6_laws_68 : decode cX6_laws 68 = .ok (.ishl, 1) := by decide +kernel
theorem dX6_laws_69 : decode cX6_laws 69 = .ok (.ior, 1) := by decide +kernel
theorem dX6_laws_70 : decode cX6_laws 70 = .ok (.istore 5, 2) := by decide +kernel
theorem dX6_laws_72 : decode cX6_laws 72 = .ok (.iinc 6 1, 3) := by decide +kernel
theorem dX6_laws_75 : decode cX6_laws 75 = .ok (.goto (-41), 3) := by decide +kernel
theorem dX6_laws_78 : decode cX6_laws 78 = .ok (.aload_n 0, 1) := by decide +kernel
theorem dX6_laws_79 : decode cX6_laws 79 = .ok (.iload 4, 2) := by decide +kernel
theorem dX6_laws_81 : decode cX6_laws 81 = .ok (.putfield 91, 3) := by decide +kernel
theorem dX6_laws_84 : decode cX6_laws 84 = .ok (.iload 5, 2) := by decide +kernel
theorem dX6_laws_86 : decode cX6_laws 86 = .ok (.ireturn, 1) := by decide +kernel
theorem dX6_film_0 : decode cX6_film 0 = .ok (.aload_n 0, 1) := by decide +kernel
theorem dX6_film_1 : decode cX6_film 1 = .ok (.iload_n 1, 1) := by decide +kernel
theorem dX6_film_2 : decode cX6_film 2 = .ok (.invokevirtual 225, 3) := by decide +kernel
theorem dX6_film_5 : decode cX6_film 5 = .ok (.astore_n 3, 1) := by decide +kernel
theorem dX6_film_6 : decode cX6_film 6 = .ok (.aload_n 3, 1) := by decide +kernel
theorem dX6_film_7 : decode cX6_film 7 = .ok (.ifnonnull 6, 3) := by decide +kernel
theorem dX6_film_10 : decode cX6_film 10 = .ok (.bipush (-2), 2) := by decide +kernel
theorem dX6_film_12 : decode cX6_film 12 = .ok (.ireturn, 1) := by decide +kernel
theorem dX6_film_13 : decode cX6_film 13 = .ok (.iload_n 2, 1) := by decide +kernel
theorem dX6_film_14 : decode cX6_film 14 = .ok (.invokestatic 161, 3) := by decide +kernel
theorem dX6_film_17 : decode cX6_film 17 = .ok (.ifCond .ne 6, 3) := by decide +kernel
theorem dX6_film_20 : decode cX6_film 20 = .ok (.bipush (-5), 2) := by decide +kernel
theorem dX6_film_22 : decode cX6_film 22 = .ok (.ireturn, 1) := by decide +kernel
theorem dX6_film_23 : decode cX6_film 23 = .ok (.aload_n 0, 1) := by decide +kernel
theorem dX6_film_24 : decode cX6_film 24 = .ok (.invokevirtual 164, 3) := by decide +kernel
theorem dX6_film_27 : decode cX6_film 27 = .ok (.aload_n 3, 1) := by decide +kernel
theorem dX6_film_28 : decode cX6_film 28 = .ok (.iconst 2, 1) := by decide +kernel
theorem dX6_film_29 : decode cX6_film 29 = .ok (.aload_n 0, 1) := by decide +kernel
theorem dX6_film_30 : decode cX6_film 30 = .ok (.getfield 88, 3) := by decide +kernel
theorem dX6_film_33 : decode cX6_film 33 = .ok (.invokevirtual 229, 3) := by decide +kernel
theorem dX6_film_36 : decode cX6_film 36 = .ok (.iconst 0, 1) := by decide +kernel
theorem dX6_film_37 : decode cX6_film 37 = .ok (.istore 4, 2) := by decide +kernel
theorem dX6_film_39 : decode cX6_film 39 = .ok (.iload 4, 2) := by decide +kernel
theorem dX6_film_41 : decode cX6_film 41 = .ok (.aload_n 0, 1) := by decide +kernel
theorem dX6_film_42 : decode cX6_film 42 = .ok (.getfield 88, 3) := by decide +kernel
theorem dX6_film_45 : decode cX6_film 45 = .ok (.if_icmp .ge 26, 3) := by decide +kernel
theorem dX6_film_48 : decode cX6_film 48 = .ok (.aload_n 3, 1) := by decide +kernel
theorem dX6_film_49 : decode cX6_film 49 = .ok (.iload 4, 2) := by decide +kernel
theorem dX6_film_51 : decode cX6_film 51 = .ok (.aload_n 0, 1) := by decide +kernel
theorem dX6_film_52 : decode cX6_film 52 = .ok (.getfield 59, 3) := by decide +kernel
theorem dX6_film_55 : decode cX6_film 55 = .ok (.iload_n 2, 1) := by decide +kernel
theorem dX6_film_56 : decode cX6_film 56 = .ok (.iaload, 1) := by decide +kernel
theorem dX6_film_57 : decode cX6_film 57 = .ok (.iload 4, 2) := by decide +kernel
theorem dX6_film_59 : decode cX6_film 59 = .ok (.ishr, 1) := by decide +kernel
theorem dX6_film_60 : decode cX6_film 60 = .ok (.iconst 1, 1) := by decide +kernel
theorem dX6_film_61 : decode cX6_film 61 = .ok (.iand, 1) := by decide +kernel
theorem dX6_film_62 : decode cX6_film 62 = .ok (.invokevirtual 232, 3) := by decide +kernel
theorem dX6_film_65 : decode cX6_film 65 = .ok (.iinc 4 1, 3) := by decide +kernel
theorem dX6_film_68 : decode cX6_film 68 = .ok (.goto (-29), 3) := by decide +kernel
theorem dX6_film_71 : decode cX6_film 71 = .ok (.aload_n 0, 1) := by decide +kernel
theorem dX6_film_72 : decode cX6_film 72 = .ok (.getfield 88, 3) := by decide +kernel
theorem dX6_film_75 : decode cX6_film 75 = .ok (.ireturn, 1) := by decide +kernel
theorem dX6_drawn_0 : decode cX6_drawn 0 = .ok (.iload_n 1, 1) := by decide +kernel
theorem dX6_drawn_1 : decode cX6_drawn 1 = .ok (.ifCond .lt 9, 3) := by decide +kernel
theorem dX6_drawn_4 : decode cX6_drawn 4 = .ok (.iload_n 1, 1) := by decide +kernel
theorem dX6_drawn_5 : decode cX6_drawn 5 = .ok (.ldc 234, 2) := by decide +kernel
theorem dX6_drawn_7 : decode cX6_drawn 7 = .ok (.if_icmp .lt 6, 3) := by decide +kernel
theorem dX6_drawn_10 : decode cX6_drawn 10 = .ok (.bipush (-2), 2) := by decide +kernel
theorem dX6_drawn_12 : decode cX6_drawn 12 = .ok (.ireturn, 1) := by decide +kernel
theorem dX6_drawn_13 : decode cX6_drawn 13 = .ok (.aload_n 0, 1) := by decide +kernel
theorem dX6_drawn_14 : decode cX6_drawn 14 = .ok (.iload_n 1, 1) := by decide +kernel
theorem dX6_drawn_15 : decode cX6_drawn 15 = .ok (.invokevirtual 235, 3) := by decide +kernel
theorem dX6_drawn_18 : decode cX6_drawn 18 = .ok (.ireturn, 1) := by decide +kernel
theorem dX6_odds_0 : decode cX6_odds 0 = .ok (.iload_n 1, 1) := by decide +kernel
theorem dX6_odds_1 : decode cX6_odds 1 = .ok (.ifCond .lt 20, 3) := by decide +kernel
theorem dX6_odds_4 : decode cX6_odds 4 = .ok (.iload_n 1, 1) := by decide +kernel
theorem dX6_odds_5 : decode cX6_odds 5 = .ok (.ldc 234, 2) := by decide +kernel
theorem dX6_odds_7 : decode cX6_odds 7 = .ok (.if_icmp .ge 14, 3) := by decide +kernel
theorem dX6_odds_10 : decode cX6_odds 10 = .ok (.iload_n 2, 1) := by decide +kernel
theorem dX6_odds_11 : decode cX6_odds 11 = .ok (.iconst 1, 1) := by decide +kernel
theorem dX6_odds_12 : decode cX6_odds 12 = .ok (.if_icmp .lt 9, 3) := by decide +kernel
theorem dX6_odds_15 : decode cX6_odds 15 = .ok (.iload_n 2, 1) := by decide +kernel
theorem dX6_odds_16 : decode cX6_odds 16 = .ok (.bipush 30, 2) := by decide +kernel
theorem dX6_odds_18 : decode cX6_odds 18 = .ok (.if_icmp .le 7, 3) := by decide +kernel
theorem dX6_odds_21 : decode cX6_odds 21 = .ok (.ldc2_w 209, 3) := by decide +kernel
theorem dX6_odds_24 : decode cX6_odds 24 = .ok (.lreturn, 1) := by decide +kernel
theorem dX6_odds_25 : decode cX6_odds 25 = .ok (.iload_n 3, 1) := by decide +kernel
theorem dX6_odds_26 : decode cX6_odds 26 = .ok (.invokestatic 161, 3) := by decide +kernel
theorem dX6_odds_29 : decode cX6_odds 29 = .ok (.ifCond .eq 11, 3) := by decide +kernel
theorem dX6_odds_32 : decode cX6_odds 32 = .ok (.iload 4, 2) := by decide +kernel
theorem dX6_odds_34 : decode cX6_odds 34 = .ok (.invokestatic 158, 3) := by decide +kernel
theorem dX6_odds_37 : decode cX6_odds 37 = .ok (.ifCond .ne 7, 3) := by decide +kernel
theorem dX6_odds_40 : decode cX6_odds 40 = .ok (.ldc2_w 209, 3) := by decide +kernel
theorem dX6_odds_43 : decode cX6_odds 43 = .ok (.lreturn, 1) := by decide +kernel
theorem dX6_odds_44 : decode cX6_odds 44 = .ok (.iconst 0, 1) := by decide +kernel
theorem dX6_odds_45 : decode cX6_odds 45 = .ok (.istore 5, 2) := by decide +kernel
theorem dX6_odds_47 : decode cX6_odds 47 = .ok (.iconst 0, 1) := by decide +kernel
theorem dX6_odds_48 : decode cX6_odds 48 = .ok (.istore 6, 2) := by decide +kernel
theorem dX6_odds_50 : decode cX6_odds 50 = .ok (.iload 6, 2) := by decide +kernel
theorem dX6_odds_52 : decode cX6_odds 52 = .ok (.iload_n 2, 1) := by decide +kernel
theorem dX6_odds_53 : decode cX6_odds 53 = .ok (.if_icmp .ge 24, 3) := by decide +kernel
theorem dX6_odds_56 : decode cX6_odds 56 = .ok (.aload_n 0, 1) := by decide +kernel
theorem dX6_odds_57 : decode cX6_odds 57 = .ok (.iload_n 1, 1) := by decide +kernel
theorem dX6_odds_58 : decode cX6_odds 58 = .ok (.iload 6, 2) := by decide +kernel
theorem dX6_odds_60 : decode cX6_odds 60 = .ok (.iadd, 1) := by decide +kernel
theorem dX6_odds_61 : decode cX6_odds 61 = .ok (.invokevirtual 235, 3) := by decide +kernel
theorem dX6_odds_64 : decode cX6_odds 64 = .ok (.iload_n 3, 1) := by decide +kernel
theorem dX6_odds_65 : decode cX6_odds 65 = .ok (.if_icmp .ne 6, 3) := by decide +kernel
theorem dX6_odds_68 : decode cX6_odds 68 = .ok (.iinc 5 1, 3) := by decide +kernel
theorem dX6_odds_71 : decode cX6_odds 71 = .ok (.iinc 6 1, 3) := by decide +kernel
theorem dX6_odds_74 : decode cX6_odds 74 = .ok (.goto (-24), 3) := by decide +kernel
theorem dX6_odds_77 : decode cX6_odds 77 = .ok (.iload 5, 2) := by decide +kernel
theorem dX6_odds_79 : decode cX6_odds 79 = .ok (.iload_n 2, 1) := by decide +kernel
theorem dX6_odds_80 : decode cX6_odds 80 = .ok (.iload 4, 2) := by decide +kernel
theorem dX6_odds_82 : decode cX6_odds 82 = .ok (.invokestatic 211, 3) := by decide +kernel
theorem dX6_odds_85 : decode cX6_odds 85 = .ok (.lreturn, 1) := by decide +kernel
theorem dX6_image_0 : decode cX6_image 0 = .ok (.aload_n 0, 1) := by decide +kernel
theorem dX6_image_1 : decode cX6_image 1 = .ok (.getfield 48, 3) := by decide +kernel
theorem dX6_image_4 : decode cX6_image 4 = .ok (.iconst 1, 1) := by decide +kernel
theorem dX6_image_5 : decode cX6_image 5 = .ok (.putfield 238, 3) := by decide +kernel
theorem dX6_image_8 : decode cX6_image 8 = .ok (.aload_n 0, 1) := by decide +kernel
theorem dX6_image_9 : decode cX6_image 9 = .ok (.aload_n 0, 1) := by decide +kernel
theorem dX6_image_10 : decode cX6_image 10 = .ok (.getfield 48, 3) := by decide +kernel
theorem dX6_image_13 : decode cX6_image 13 = .ok (.getfield 242, 3) := by decide +kernel
theorem dX6_image_16 : decode cX6_image 16 = .ok (.invokevirtual 245, 3) := by decide +kernel
theorem dX6_image_19 : decode cX6_image 19 = .ok (.iconst 0, 1) := by decide +kernel
theorem dX6_image_20 : decode cX6_image 20 = .ok (.istore_n 1, 1) := by decide +kernel
theorem dX6_image_21 : decode cX6_image 21 = .ok (.iload_n 1, 1) := by decide +kernel
theorem dX6_image_22 : decode cX6_image 22 = .ok (.aload_n 0, 1) := by decide +kernel
theorem dX6_image_23 : decode cX6_image 23 = .ok (.getfield 85, 3) := by decide +kernel
theorem dX6_image_26 : decode cX6_image 26 = .ok (.if_icmp .ge 32, 3) := by decide +kernel
theorem dX6_image_29 : decode cX6_image 29 = .ok (.aload_n 0, 1) := by decide +kernel
theorem dX6_image_30 : decode cX6_image 30 = .ok (.iload_n 1, 1) := by decide +kernel
theorem dX6_image_31 : decode cX6_image 31 = .ok (.invokevirtual 128, 3) := by decide +kernel
theorem dX6_image_34 : decode cX6_image 34 = .ok (.astore_n 2, 1) := by decide +kernel
theorem dX6_image_35 : decode cX6_image 35 = .ok (.aload_n 2, 1) := by decide +kernel
theorem dX6_image_36 : decode cX6_image 36 = .ok (.ifnull 16, 3) := by decide +kernel
theorem dX6_image_39 : decode cX6_image 39 = .ok (.aload_n 0, 1) := by decide +kernel
theorem dX6_image_40 : decode cX6_image 40 = .ok (.getfield 48, 3) := by decide +kernel
theorem dX6_image_43 : decode cX6_image 43 = .ok (.getfield 249, 3) := by decide +kernel
theorem dX6_image_46 : decode cX6_image 46 = .ok (.iload_n 1, 1) := by decide +kernel
theorem dX6_image_47 : decode cX6_image 47 = .ok (.aload_n 2, 1) := by decide +kernel
theorem dX6_image_48 : decode cX6_image 48 = .ok (.getfield 143, 3) := by decide +kernel
theorem dX6_image_51 : decode cX6_image 51 = .ok (.iastore, 1) := by decide +kernel
theorem dX6_image_52 : decode cX6_image 52 = .ok (.iinc 1 1, 3) := by decide +kernel
theorem dX6_image_55 : decode cX6_image 55 = .ok (.goto (-34), 3) := by decide +kernel
theorem dX6_image_58 : decode cX6_image 58 = .ok (.aload_n 0, 1) := by decide +kernel
theorem dX6_image_59 : decode cX6_image 59 = .ok (.getfield 22, 3) := by decide +kernel
theorem dX6_image_62 : decode cX6_image 62 = .ok (.iconst 0, 1) := by decide +kernel
theorem dX6_image_63 : decode cX6_image 63 = .ok (.aload_n 0, 1) := by decide +kernel
theorem dX6_image_64 : decode cX6_image 64 = .ok (.getfield 48, 3) := by decide +kernel
theorem dX6_image_67 : decode cX6_image 67 = .ok (.getfield 252, 3) := by decide +kernel
theorem dX6_image_70 : decode cX6_image 70 = .ok (.iconst 0, 1) := by decide +kernel
theorem dX6_image_71 : decode cX6_image 71 = .ok (.iconst 3, 1) := by decide +kernel
theorem dX6_image_72 : decode cX6_image 72 = .ok (.invokestatic 253, 3) := by decide +kernel
theorem dX6_image_75 : decode cX6_image 75 = .ok (.aload_n 0, 1) := by decide +kernel
theorem dX6_image_76 : decode cX6_image 76 = .ok (.getfield 48, 3) := by decide +kernel
theorem dX6_image_79 : decode cX6_image 79 = .ok (.aload_n 0, 1) := by decide +kernel
theorem dX6_image_80 : decode cX6_image 80 = .ok (.getfield 85, 3) := by decide +kernel
theorem dX6_image_83 : decode cX6_image 83 = .ok (.putfield 259, 3) := by decide +kernel
theorem dX6_image_86 : decode cX6_image 86 = .ok (.aload_n 0, 1) := by decide +kernel
theorem dX6_image_87 : decode cX6_image 87 = .ok (.getfield 48, 3) := by decide +kernel
theorem dX6_image_90 : decode cX6_image 90 = .ok (.aload_n 0, 1) := by decide +kernel
theorem dX6_image_91 : decode cX6_image 91 = .ok (.getfield 88, 3) := by decide +kernel
theorem dX6_image_94 : decode cX6_image 94 = .ok (.putfield 261, 3) := by decide +kernel
theorem dX6_image_97 : decode cX6_image 97 = .ok (.aload_n 0, 1) := by decide +kernel
theorem dX6_image_98 : decode cX6_image 98 = .ok (.getfield 48, 3) := by decide +kernel
theorem dX6_image_101 : decode cX6_image 101 = .ok (.aload_n 0, 1) := by decide +kernel
theorem dX6_image_102 : decode cX6_image 102 = .ok (.getfield 91, 3) := by decide +kernel
theorem dX6_image_105 : decode cX6_image 105 = .ok (.putfield 264, 3) := by decide +kernel
theorem dX6_image_108 : decode cX6_image 108 = .ok (.aload_n 0, 1) := by decide +kernel
theorem dX6_image_109 : decode cX6_image 109 = .ok (.getfield 85, 3) := by decide +kernel
theorem dX6_image_112 : decode cX6_image 112 = .ok (.ireturn, 1) := by decide +kernel
theorem dX6_back_0 : decode cX6_back 0 = .ok (.aload_n 0, 1) := by decide +kernel
theorem dX6_back_1 : decode cX6_back 1 = .ok (.getfield 48, 3) := by decide +kernel
theorem dX6_back_4 : decode cX6_back 4 = .ok (.getfield 238, 3) := by decide +kernel
theorem dX6_back_7 : decode cX6_back 7 = .ok (.ifCond .ne 6, 3) := by decide +kernel
theorem dX6_back_10 : decode cX6_back 10 = .ok (.bipush (-3), 2) := by decide +kernel
theorem dX6_back_12 : decode cX6_back 12 = .ok (.ireturn, 1) := by decide +kernel
theorem dX6_back_13 : decode cX6_back 13 = .ok (.aload_n 0, 1) := by decide +kernel
theorem dX6_back_14 : decode cX6_back 14 = .ok (.getfield 48, 3) := by decide +kernel
theorem dX6_back_17 : decode cX6_back 17 = .ok (.getfield 259, 3) := by decide +kernel
theorem dX6_back_20 : decode cX6_back 20 = .ok (.istore_n 1, 1) := by decide +kernel
theorem dX6_back_21 : decode cX6_back 21 = .ok (.iload_n 1, 1) := by decide +kernel
theorem dX6_back_22 : decode cX6_back 22 = .ok (.aload_n 0, 1) := by decide +kernel
theorem dX6_back_23 : decode cX6_back 23 = .ok (.getfield 85, 3) := by decide +kernel
theorem dX6_back_26 : decode cX6_back 26 = .ok (.if_icmp .ge 16, 3) := by decide +kernel
theorem dX6_back_29 : decode cX6_back 29 = .ok (.aload_n 0, 1) := by decide +kernel
theorem dX6_back_30 : decode cX6_back 30 = .ok (.getfield 11, 3) := by decide +kernel
theorem dX6_back_33 : decode cX6_back 33 = .ok (.iload_n 1, 1) := by decide +kernel
theorem dX6_back_34 : decode cX6_back 34 = .ok (.aconst_null, 1) := by decide +kernel
theorem dX6_back_35 : decode cX6_back 35 = .ok (.aastore, 1) := by decide +kernel
theorem dX6_back_36 : decode cX6_back 36 = .ok (.iinc 1 1, 3) := by decide +kernel
theorem dX6_back_39 : decode cX6_back 39 = .ok (.goto (-18), 3) := by decide +kernel
theorem dX6_back_42 : decode cX6_back 42 = .ok (.aload_n 0, 1) := by decide +kernel
theorem dX6_back_43 : decode cX6_back 43 = .ok (.aload_n 0, 1) := by decide +kernel
theorem dX6_back_44 : decode cX6_back 44 = .ok (.getfield 48, 3) := by decide +kernel
theorem dX6_back_47 : decode cX6_back 47 = .ok (.getfield 259, 3) := by decide +kernel
theorem dX6_back_50 : decode cX6_back 50 = .ok (.putfield 85, 3) := by decide +kernel
theorem dX6_back_53 : decode cX6_back 53 = .ok (.aload_n 0, 1) := by decide +kernel
theorem dX6_back_54 : decode cX6_back 54 = .ok (.aload_n 0, 1) := by decide +kernel
theorem dX6_back_55 : decode cX6_back 55 = .ok (.getfield 48, 3) := by decide +kernel
theorem dX6_back_58 : decode cX6_back 58 = .ok (.getfield 261, 3) := by decide +kernel
theorem dX6_back_61 : decode cX6_back 61 = .ok (.putfield 88, 3) := by decide +kernel
theorem dX6_back_64 : decode cX6_back 64 = .ok (.aload_n 0, 1) := by decide +kernel
theorem dX6_back_65 : decode cX6_back 65 = .ok (.aload_n 0, 1) := by decide +kernel
theorem dX6_back_66 : decode cX6_back 66 = .ok (.getfield 48, 3) := by decide +kernel
theorem dX6_back_69 : decode cX6_back 69 = .ok (.getfield 264, 3) := by decide +kernel
theorem dX6_back_72 : decode cX6_back 72 = .ok (.putfield 91, 3) := by decide +kernel
theorem dX6_back_75 : decode cX6_back 75 = .ok (.aload_n 0, 1) := by decide +kernel
theorem dX6_back_76 : decode cX6_back 76 = .ok (.getfield 48, 3) := by decide +kernel
theorem dX6_back_79 : decode cX6_back 79 = .ok (.getfield 252, 3) := by decide +kernel
theorem dX6_back_82 : decode cX6_back 82 = .ok (.iconst 0, 1) := by decide +kernel
theorem dX6_back_83 : decode cX6_back 83 = .ok (.aload_n 0, 1) := by decide +kernel
theorem dX6_back_84 : decode cX6_back 84 = .ok (.getfield 22, 3) := by decide +kernel
theorem dX6_back_87 : decode cX6_back 87 = .ok (.iconst 0, 1) := by decide +kernel
theorem dX6_back_88 : decode cX6_back 88 = .ok (.iconst 3, 1) := by decide +kernel
theorem dX6_back_89 : decode cX6_back 89 = .ok (.invokestatic 253, 3) := by decide +kernel
theorem dX6_back_92 : decode cX6_back 92 = .ok (.iconst 0, 1) := by decide +kernel
theorem dX6_back_93 : decode cX6_back 93 = .ok (.istore_n 1, 1) := by decide +kernel
theorem dX6_back_94 : decode cX6_back 94 = .ok (.iload_n 1, 1) := by decide +kernel
theorem dX6_back_95 : decode cX6_back 95 = .ok (.aload_n 0, 1) := by decide +kernel
theorem dX6_back_96 : decode cX6_back 96 = .ok (.getfield 85, 3) := by decide +kernel
theorem dX6_back_99 : decode cX6_back 99 = .ok (.if_icmp .ge 32, 3) := by decide +kernel
theorem dX6_back_102 : decode cX6_back 102 = .ok (.aload_n 0, 1) := by decide +kernel
theorem dX6_back_103 : decode cX6_back 103 = .ok (.iload_n 1, 1) := by decide +kernel
theorem dX6_back_104 : decode cX6_back 104 = .ok (.invokevirtual 128, 3) := by decide +kernel
theorem dX6_back_107 : decode cX6_back 107 = .ok (.astore_n 2, 1) := by decide +kernel
theorem dX6_back_108 : decode cX6_back 108 = .ok (.aload_n 2, 1) := by decide +kernel
theorem dX6_back_109 : decode cX6_back 109 = .ok (.ifnull 16, 3) := by decide +kernel
theorem dX6_back_112 : decode cX6_back 112 = .ok (.aload_n 2, 1) := by decide +kernel
theorem dX6_back_113 : decode cX6_back 113 = .ok (.aload_n 0, 1) := by decide +kernel
theorem dX6_back_114 : decode cX6_back 114 = .ok (.getfield 48, 3) := by decide +kernel
theorem dX6_back_117 : decode cX6_back 117 = .ok (.getfield 249, 3) := by decide +kernel
theorem dX6_back_120 : decode cX6_back 120 = .ok (.iload_n 1, 1) := by decide +kernel
theorem dX6_back_121 : decode cX6_back 121 = .ok (.iaload, 1) := by decide +kernel
theorem dX6_back_122 : decode cX6_back 122 = .ok (.putfield 143, 3) := by decide +kernel
theorem dX6_back_125 : decode cX6_back 125 = .ok (.iinc 1 1, 3) := by decide +kernel
theorem dX6_back_128 : decode cX6_back 128 = .ok (.goto (-34), 3) := by decide +kernel
theorem dX6_back_131 : decode cX6_back 131 = .ok (.aload_n 0, 1) := by decide +kernel
theorem dX6_back_132 : decode cX6_back 132 = .ok (.aload_n 0, 1) := by decide +kernel
theorem dX6_back_133 : decode cX6_back 133 = .ok (.getfield 48, 3) := by decide +kernel
theorem dX6_back_136 : decode cX6_back 136 = .ok (.getfield 242, 3) := by decide +kernel
theorem dX6_back_139 : decode cX6_back 139 = .ok (.invokevirtual 265, 3) := by decide +kernel
theorem dX6_back_142 : decode cX6_back 142 = .ok (.aload_n 0, 1) := by decide +kernel
theorem dX6_back_143 : decode cX6_back 143 = .ok (.getfield 85, 3) := by decide +kernel
theorem dX6_back_146 : decode cX6_back 146 = .ok (.ireturn, 1) := by decide +kernel
theorem dX6_sheet_0 : decode cX6_sheet 0 = .ok (.aload_n 0, 1) := by decide +kernel
theorem dX6_sheet_1 : decode cX6_sheet 1 = .ok (.iload_n 1, 1) := by decide +kernel
theorem dX6_sheet_2 : decode cX6_sheet 2 = .ok (.invokevirtual 225, 3) := by decide +kernel
theorem dX6_sheet_5 : decode cX6_sheet 5 = .ok (.astore 4, 2) := by decide +kernel
theorem dX6_sheet_7 : decode cX6_sheet 7 = .ok (.aload 4, 2) := by decide +kernel
theorem dX6_sheet_9 : decode cX6_sheet 9 = .ok (.ifnull 13, 3) := by decide +kernel
theorem dX6_sheet_12 : decode cX6_sheet 12 = .ok (.iload_n 2, 1) := by decide +kernel
theorem dX6_sheet_13 : decode cX6_sheet 13 = .ok (.iconst (-1), 1) := by decide +kernel
theorem dX6_sheet_14 : decode cX6_sheet 14 = .ok (.if_icmp .lt 8, 3) := by decide +kernel
theorem dX6_sheet_17 : decode cX6_sheet 17 = .ok (.iload_n 2, 1) := by decide +kernel
theorem dX6_sheet_18 : decode cX6_sheet 18 = .ok (.iconst 2, 1) := by decide +kernel
theorem dX6_sheet_19 : decode cX6_sheet 19 = .ok (.if_icmp .le 6, 3) := by decide +kernel
theorem dX6_sheet_22 : decode cX6_sheet 22 = .ok (.bipush (-2), 2) := by decide +kernel
theorem dX6_sheet_24 : decode cX6_sheet 24 = .ok (.ireturn, 1) := by decide +kernel
theorem dX6_sheet_25 : decode cX6_sheet 25 = .ok (.iload_n 2, 1) := by decide +kernel
theorem dX6_sheet_26 : decode cX6_sheet 26 = .ok (.iconst (-1), 1) := by decide +kernel
theorem dX6_sheet_27 : decode cX6_sheet 27 = .ok (.if_icmp .ne 12, 3) := by decide +kernel
theorem dX6_sheet_30 : decode cX6_sheet 30 = .ok (.aload 4, 2) := by decide +kernel
theorem dX6_sheet_32 : decode cX6_sheet 32 = .ok (.iconst (-1), 1) := by decide +kernel
theorem dX6_sheet_33 : decode cX6_sheet 33 = .ok (.iconst 0, 1) := by decide +kernel
theorem dX6_sheet_34 : decode cX6_sheet 34 = .ok (.invokevirtual 229, 3) := by decide +kernel
theorem dX6_sheet_37 : decode cX6_sheet 37 = .ok (.iconst 1, 1) := by decide +kernel
theorem dX6_sheet_38 : decode cX6_sheet 38 = .ok (.ireturn, 1) := by decide +kernel
theorem dX6_sheet_39 : decode cX6_sheet 39 = .ok (.iload_n 3, 1) := by decide +kernel
theorem dX6_sheet_40 : decode cX6_sheet 40 = .ok (.bipush 40, 2) := by decide +kernel
theorem dX6_sheet_42 : decode cX6_sheet 42 = .ok (.if_icmp .le 6, 3) := by decide +kernel
theorem dX6_sheet_45 : decode cX6_sheet 45 = .ok (.bipush (-2), 2) := by decide +kernel
theorem dX6_sheet_47 : decode cX6_sheet 47 = .ok (.ireturn, 1) := by decide +kernel
theorem dX6_sheet_48 : decode cX6_sheet 48 = .ok (.iload_n 3, 1) := by decide +kernel
theorem dX6_sheet_49 : decode cX6_sheet 49 = .ok (.ifCond .ge 6, 3) := by decide +kernel
theorem dX6_sheet_52 : decode cX6_sheet 52 = .ok (.bipush (-14), 2) := by decide +kernel
theorem dX6_sheet_54 : decode cX6_sheet 54 = .ok (.ireturn, 1) := by decide +kernel
theorem dX6_sheet_55 : decode cX6_sheet 55 = .ok (.aload 4, 2) := by decide +kernel
theorem dX6_sheet_57 : decode cX6_sheet 57 = .ok (.iload_n 2, 1) := by decide +kernel
theorem dX6_sheet_58 : decode cX6_sheet 58 = .ok (.iload_n 3, 1) := by decide +kernel
theorem dX6_sheet_59 : decode cX6_sheet 59 = .ok (.invokevirtual 229, 3) := by decide +kernel
theorem dX6_sheet_62 : decode cX6_sheet 62 = .ok (.iconst 1, 1) := by decide +kernel
theorem dX6_sheet_63 : decode cX6_sheet 63 = .ok (.ireturn, 1) := by decide +kernel
theorem dX6_cell_0 : decode cX6_cell 0 = .ok (.aload_n 0, 1) := by decide +kernel
theorem dX6_cell_1 : decode cX6_cell 1 = .ok (.iload_n 1, 1) := by decide +kernel
theorem dX6_cell_2 : decode cX6_cell 2 = .ok (.invokevirtual 225, 3) := by decide +kernel
theorem dX6_cell_5 : decode cX6_cell 5 = .ok (.astore 4, 2) := by decide +kernel
theorem dX6_cell_7 : decode cX6_cell 7 = .ok (.aload 4, 2) := by decide +kernel
theorem dX6_cell_9 : decode cX6_cell 9 = .ok (.ifnonnull 6, 3) := by decide +kernel
theorem dX6_cell_12 : decode cX6_cell 12 = .ok (.bipush (-2), 2) := by decide +kernel
theorem dX6_cell_14 : decode cX6_cell 14 = .ok (.ireturn, 1) := by decide +kernel
theorem dX6_cell_15 : decode cX6_cell 15 = .ok (.aload 4, 2) := by decide +kernel
theorem dX6_cell_17 : decode cX6_cell 17 = .ok (.invokevirtual 268, 3) := by decide +kernel
theorem dX6_cell_20 : decode cX6_cell 20 = .ok (.ifCond .eq 6, 3) := by decide +kernel
theorem dX6_cell_23 : decode cX6_cell 23 = .ok (.bipush (-11), 2) := by decide +kernel
theorem dX6_cell_25 : decode cX6_cell 25 = .ok (.ireturn, 1) := by decide +kernel
theorem dX6_cell_26 : decode cX6_cell 26 = .ok (.aload 4, 2) := by decide +kernel
theorem dX6_cell_28 : decode cX6_cell 28 = .ok (.iload_n 2, 1) := by decide +kernel
theorem dX6_cell_29 : decode cX6_cell 29 = .ok (.invokevirtual 272, 3) := by decide +kernel
theorem dX6_cell_32 : decode cX6_cell 32 = .ok (.ifCond .ne 6, 3) := by decide +kernel
theorem dX6_cell_35 : decode cX6_cell 35 = .ok (.bipush (-12), 2) := by decide +kernel
theorem dX6_cell_37 : decode cX6_cell 37 = .ok (.ireturn, 1) := by decide +kernel
theorem dX6_cell_38 : decode cX6_cell 38 = .ok (.aload 4, 2) := by decide +kernel
theorem dX6_cell_40 : decode cX6_cell 40 = .ok (.iload_n 2, 1) := by decide +kernel
theorem dX6_cell_41 : decode cX6_cell 41 = .ok (.iload_n 3, 1) := by decide +kernel
theorem dX6_cell_42 : decode cX6_cell 42 = .ok (.invokevirtual 232, 3) := by decide +kernel
theorem dX6_cell_45 : decode cX6_cell 45 = .ok (.iconst 1, 1) := by decide +kernel
theorem dX6_cell_46 : decode cX6_cell 46 = .ok (.ireturn, 1) := by decide +kernel
theorem dX6_copy_0 : decode cX6_copy 0 = .ok (.aload_n 0, 1) := by decide +kernel
theorem dX6_copy_1 : decode cX6_copy 1 = .ok (.iload_n 1, 1) := by decide +kernel
theorem dX6_copy_2 : decode cX6_copy 2 = .ok (.invokevirtual 225, 3) := by decide +kernel
theorem dX6_copy_5 : decode cX6_copy 5 = .ok (.astore 6, 2) := by decide +kernel
theorem dX6_copy_7 : decode cX6_copy 7 = .ok (.aload_n 0, 1) := by decide +kernel
theorem dX6_copy_8 : decode cX6_copy 8 = .ok (.iload_n 3, 1) := by decide +kernel
theorem dX6_copy_9 : decode cX6_copy 9 = .ok (.invokevirtual 225, 3) := by decide +kernel
theorem dX6_copy_12 : decode cX6_copy 12 = .ok (.astore 7, 2) := by decide +kernel
theorem dX6_copy_14 : decode cX6_copy 14 = .ok (.aload 6, 2) := by decide +kernel
theorem dX6_copy_16 : decode cX6_copy 16 = .ok (.ifnull 8, 3) := by decide +kernel
theorem dX6_copy_19 : decode cX6_copy 19 = .ok (.aload 7, 2) := by decide +kernel
theorem dX6_copy_21 : decode cX6_copy 21 = .ok (.ifnonnull 6, 3) := by decide +kernel
theorem dX6_copy_24 : decode cX6_copy 24 = .ok (.bipush (-2), 2) := by decide +kernel
theorem dX6_copy_26 : decode cX6_copy 26 = .ok (.ireturn, 1) := by decide +kernel
theorem dX6_copy_27 : decode cX6_copy 27 = .ok (.aload 6, 2) := by decide +kernel
theorem dX6_copy_29 : decode cX6_copy 29 = .ok (.invokevirtual 268, 3) := by decide +kernel
theorem dX6_copy_32 : decode cX6_copy 32 = .ok (.ifCond .ne 11, 3) := by decide +kernel
theorem dX6_copy_35 : decode cX6_copy 35 = .ok (.aload 7, 2) := by decide +kernel
theorem dX6_copy_37 : decode cX6_copy 37 = .ok (.invokevirtual 268, 3) := by decide +kernel
theorem dX6_copy_40 : decode cX6_copy 40 = .ok (.ifCond .eq 6, 3) := by decide +kernel
theorem dX6_copy_43 : decode cX6_copy 43 = .ok (.bipush (-11), 2) := by decide +kernel
theorem dX6_copy_45 : decode cX6_copy 45 = .ok (.ireturn, 1) := by decide +kernel
theorem dX6_copy_46 : decode cX6_copy 46 = .ok (.aload 6, 2) := by decide +kernel
theorem dX6_copy_48 : decode cX6_copy 48 = .ok (.getfield 275, 3) := by decide +kernel
theorem dX6_copy_51 : decode cX6_copy 51 = .ok (.aload 7, 2) := by decide +kernel
theorem dX6_copy_53 : decode cX6_copy 53 = .ok (.getfield 275, 3) := by decide +kernel
theorem dX6_copy_56 : decode cX6_copy 56 = .ok (.if_icmp .eq 6, 3) := by decide +kernel
theorem dX6_copy_59 : decode cX6_copy 59 = .ok (.bipush (-13), 2) := by decide +kernel
theorem dX6_copy_61 : decode cX6_copy 61 = .ok (.ireturn, 1) := by decide +kernel
theorem dX6_copy_62 : decode cX6_copy 62 = .ok (.aload 6, 2) := by decide +kernel
theorem dX6_copy_64 : decode cX6_copy 64 = .ok (.iload_n 2, 1) := by decide +kernel
theorem dX6_copy_65 : decode cX6_copy 65 = .ok (.iload 5, 2) := by decide +kernel
theorem dX6_copy_67 : decode cX6_copy 67 = .ok (.invokevirtual 278, 3) := by decide +kernel
theorem dX6_copy_70 : decode cX6_copy 70 = .ok (.ifCond .eq 15, 3) := by decide +kernel
theorem dX6_copy_73 : decode cX6_copy 73 = .ok (.aload 7, 2) := by decide +kernel
theorem dX6_copy_75 : decode cX6_copy 75 = .ok (.iload 4, 2) := by decide +kernel
theorem dX6_copy_77 : decode cX6_copy 77 = .ok (.iload 5, 2) := by decide +kernel
theorem dX6_copy_79 : decode cX6_copy 79 = .ok (.invokevirtual 278, 3) := by decide +kernel
theorem dX6_copy_82 : decode cX6_copy 82 = .ok (.ifCond .ne 6, 3) := by decide +kernel
theorem dX6_copy_85 : decode cX6_copy 85 = .ok (.bipush (-12), 2) := by decide +kernel
theorem dX6_copy_87 : decode cX6_copy 87 = .ok (.ireturn, 1) := by decide +kernel
theorem dX6_copy_88 : decode cX6_copy 88 = .ok (.aload 6, 2) := by decide +kernel
theorem dX6_copy_90 : decode cX6_copy 90 = .ok (.getfield 282, 3) := by decide +kernel
theorem dX6_copy_93 : decode cX6_copy 93 = .ok (.iload_n 2, 1) := by decide +kernel
theorem dX6_copy_94 : decode cX6_copy 94 = .ok (.aload 7, 2) := by decide +kernel
theorem dX6_copy_96 : decode cX6_copy 96 = .ok (.getfield 282, 3) := by decide +kernel
theorem dX6_copy_99 : decode cX6_copy 99 = .ok (.iload 4, 2) := by decide +kernel
theorem dX6_copy_101 : decode cX6_copy 101 = .ok (.iload 5, 2) := by decide +kernel
theorem dX6_copy_103 : decode cX6_copy 103 = .ok (.invokestatic 253, 3) := by decide +kernel
theorem dX6_copy_106 : decode cX6_copy 106 = .ok (.iload 5, 2) := by decide +kernel
theorem dX6_copy_108 : decode cX6_copy 108 = .ok (.ireturn, 1) := by decide +kernel
theorem dX6_depthsBy_0 : decode cX6_depthsBy 0 = .ok (.aload_n 0, 1) := by decide +kernel
theorem dX6_depthsBy_1 : decode cX6_depthsBy 1 = .ok (.iload_n 1, 1) := by decide +kernel
theorem dX6_depthsBy_2 : decode cX6_depthsBy 2 = .ok (.invokevirtual 225, 3) := by decide +kernel
theorem dX6_depthsBy_5 : decode cX6_depthsBy 5 = .ok (.astore 5, 2) := by decide +kernel
theorem dX6_depthsBy_7 : decode cX6_depthsBy 7 = .ok (.aload 5, 2) := by decide +kernel
theorem dX6_depthsBy_9 : decode cX6_depthsBy 9 = .ok (.ifnull 24, 3) := by decide +kernel
theorem dX6_depthsBy_12 : decode cX6_depthsBy 12 = .ok (.iload_n 2, 1) := by decide +kernel
theorem dX6_depthsBy_13 : decode cX6_depthsBy 13 = .ok (.ifCond .lt 20, 3) := by decide +kernel
theorem dX6_depthsBy_16 : decode cX6_depthsBy 16 = .ok (.iload_n 2, 1) := by decide +kernel
theorem dX6_depthsBy_17 : decode cX6_depthsBy 17 = .ok (.iconst 2, 1) := by decide +kernel
theorem dX6_depthsBy_18 : decode cX6_depthsBy 18 = .ok (.if_icmp .gt 15, 3) := by decide +kernel
theorem dX6_depthsBy_21 : decode cX6_depthsBy 21 = .ok (.iload 4, 2) := by decide +kernel
theorem dX6_depthsBy_23 : decode cX6_depthsBy 23 = .ok (.ifCond .lt 10, 3) := by decide +kernel
theorem dX6_depthsBy_26 : decode cX6_depthsBy 26 = .ok (.iload 4, 2) := by decide +kernel
theorem dX6_depthsBy_28 : decode cX6_depthsBy 28 = .ok (.bipush 12, 2) := by decide +kernel
theorem dX6_depthsBy_30 : decode cX6_depthsBy 30 = .ok (.if_icmp .le 6, 3) := by decide +kernel
theorem dX6_depthsBy_33 : decode cX6_depthsBy 33 = .ok (.bipush (-2), 2) := by decide +kernel
theorem dX6_depthsBy_35 : decode cX6_depthsBy 35 = .ok (.ireturn, 1) := by decide +kernel
theorem dX6_depthsBy_36 : decode cX6_depthsBy 36 = .ok (.aload 5, 2) := by decide +kernel
theorem dX6_depthsBy_38 : decode cX6_depthsBy 38 = .ok (.invokevirtual 268, 3) := by decide +kernel
theorem dX6_depthsBy_41 : decode cX6_depthsBy 41 = .ok (.ifCond .eq 6, 3) := by decide +kernel
theorem dX6_depthsBy_44 : decode cX6_depthsBy 44 = .ok (.bipush (-11), 2) := by decide +kernel
theorem dX6_depthsBy_46 : decode cX6_depthsBy 46 = .ok (.ireturn, 1) := by decide +kernel
theorem dX6_depthsBy_47 : decode cX6_depthsBy 47 = .ok (.aload 5, 2) := by decide +kernel
theorem dX6_depthsBy_49 : decode cX6_depthsBy 49 = .ok (.getfield 275, 3) := by decide +kernel
theorem dX6_depthsBy_52 : decode cX6_depthsBy 52 = .ok (.iload_n 2, 1) := by decide +kernel
theorem dX6_depthsBy_53 : decode cX6_depthsBy 53 = .ok (.if_icmp .eq 6, 3) := by decide +kernel
theorem dX6_depthsBy_56 : decode cX6_depthsBy 56 = .ok (.bipush (-13), 2) := by decide +kernel
theorem dX6_depthsBy_58 : decode cX6_depthsBy 58 = .ok (.ireturn, 1) := by decide +kernel
theorem dX6_depthsBy_59 : decode cX6_depthsBy 59 = .ok (.iconst 0, 1) := by decide +kernel
theorem dX6_depthsBy_60 : decode cX6_depthsBy 60 = .ok (.istore 6, 2) := by decide +kernel
theorem dX6_depthsBy_62 : decode cX6_depthsBy 62 = .ok (.iload_n 3, 1) := by decide +kernel
theorem dX6_depthsBy_63 : decode cX6_depthsBy 63 = .ok (.istore 7, 2) := by decide +kernel
theorem dX6_depthsBy_65 : decode cX6_depthsBy 65 = .ok (.iconst 0, 1) := by decide +kernel
theorem dX6_depthsBy_66 : decode cX6_depthsBy 66 = .ok (.istore 8, 2) := by decide +kernel
theorem dX6_depthsBy_68 : decode cX6_depthsBy 68 = .ok (.iload 8, 2) := by decide +kernel
theorem dX6_depthsBy_70 : decode cX6_depthsBy 70 = .ok (.iload 4, 2) := by decide +kernel
theorem dX6_depthsBy_72 : decode cX6_depthsBy 72 = .ok (.if_icmp .ge 61, 3) := by decide +kernel
theorem dX6_depthsBy_75 : decode cX6_depthsBy 75 = .ok (.aload 5, 2) := by decide +kernel
theorem dX6_depthsBy_77 : decode cX6_depthsBy 77 = .ok (.iload 7, 2) := by decide +kernel
theorem dX6_depthsBy_79 : decode cX6_depthsBy 79 = .ok (.iconst 3, 1) := by decide +kernel
theorem dX6_depthsBy_80 : decode cX6_depthsBy 80 = .ok (.invokevirtual 278, 3) := by decide +kernel
theorem dX6_depthsBy_83 : decode cX6_depthsBy 83 = .ok (.ifCond .ne 6, 3) := by decide +kernel
theorem dX6_depthsBy_86 : decode cX6_depthsBy 86 = .ok (.bipush (-12), 2) := by decide +kernel
theorem dX6_depthsBy_88 : decode cX6_depthsBy 88 = .ok (.ireturn, 1) := by decide +kernel
theorem dX6_depthsBy_89 : decode cX6_depthsBy 89 = .ok (.aload_n 0, 1) := by decide +kernel
theorem dX6_depthsBy_90 : decode cX6_depthsBy 90 = .ok (.aload 5, 2) := by decide +kernel
theorem dX6_depthsBy_92 : decode cX6_depthsBy 92 = .ok (.iload 7, 2) := by decide +kernel
theorem dX6_depthsBy_94 : decode cX6_depthsBy 94 = .ok (.invokevirtual 285, 3) := by decide +kernel
theorem dX6_depthsBy_97 : decode cX6_depthsBy 97 = .ok (.aload 5, 2) := by decide +kernel
theorem dX6_depthsBy_99 : decode cX6_depthsBy 99 = .ok (.iload 7, 2) := by decide +kernel
theorem dX6_depthsBy_101 : decode cX6_depthsBy 101 = .ok (.iconst 1, 1) := by decide +kernel
theorem dX6_depthsBy_102 : decode cX6_depthsBy 102 = .ok (.iadd, 1) := by decide +kernel
theorem dX6_depthsBy_103 : decode cX6_depthsBy 103 = .ok (.invokevirtual 285, 3) := by decide +kernel
theorem dX6_depthsBy_106 : decode cX6_depthsBy 106 = .ok (.aload 5, 2) := by decide +kernel
theorem dX6_depthsBy_108 : decode cX6_depthsBy 108 = .ok (.iload 7, 2) := by decide +kernel
theorem dX6_depthsBy_110 : decode cX6_depthsBy 110 = .ok (.iconst 2, 1) := by decide +kernel
theorem dX6_depthsBy_111 : decode cX6_depthsBy 111 = .ok (.iadd, 1) := by decide +kernel
theorem dX6_depthsBy_112 : decode cX6_depthsBy 112 = .ok (.invokevirtual 285, 3) := by decide +kernel
theorem dX6_depthsBy_115 : decode cX6_depthsBy 115 = .ok (.invokevirtual 288, 3) := by decide +kernel
theorem dX6_depthsBy_118 : decode cX6_depthsBy 118 = .ok (.ifCond .lt 6, 3) := by decide +kernel
theorem dX6_depthsBy_121 : decode cX6_depthsBy 121 = .ok (.iinc 6 1, 3) := by decide +kernel
theorem dX6_depthsBy_124 : decode cX6_depthsBy 124 = .ok (.iinc 7 3, 3) := by decide +kernel
theorem dX6_depthsBy_127 : decode cX6_depthsBy 127 = .ok (.iinc 8 1, 3) := by decide +kernel
theorem dX6_depthsBy_130 : decode cX6_depthsBy 130 = .ok (.goto (-62), 3) := by decide +kernel
theorem dX6_depthsBy_133 : decode cX6_depthsBy 133 = .ok (.iload 6, 2) := by decide +kernel
theorem dX6_depthsBy_135 : decode cX6_depthsBy 135 = .ok (.ireturn, 1) := by decide +kernel
theorem dX6_taken_0 : decode cX6_taken 0 = .ok (.iload_n 2, 1) := by decide +kernel
theorem dX6_taken_1 : decode cX6_taken 1 = .ok (.ifCond .lt 9, 3) := by decide +kernel
theorem dX6_taken_4 : decode cX6_taken 4 = .ok (.iload_n 2, 1) := by decide +kernel
theorem dX6_taken_5 : decode cX6_taken 5 = .ok (.bipush 6, 2) := by decide +kernel
theorem dX6_taken_7 : decode cX6_taken 7 = .ok (.if_icmp .le 6, 3) := by decide +kernel
theorem dX6_taken_10 : decode cX6_taken 10 = .ok (.bipush (-2), 2) := by decide +kernel
theorem dX6_taken_12 : decode cX6_taken 12 = .ok (.ireturn, 1) := by decide +kernel
theorem dX6_taken_13 : decode cX6_taken 13 = .ok (.iload_n 1, 1) := by decide +kernel
theorem dX6_taken_14 : decode cX6_taken 14 = .ok (.ifCond .lt 9, 3) := by decide +kernel
theorem dX6_taken_17 : decode cX6_taken 17 = .ok (.iload_n 1, 1) := by decide +kernel
theorem dX6_taken_18 : decode cX6_taken 18 = .ok (.bipush 15, 2) := by decide +kernel
theorem dX6_taken_20 : decode cX6_taken 20 = .ok (.if_icmp .lt 6, 3) := by decide +kernel
theorem dX6_taken_23 : decode cX6_taken 23 = .ok (.bipush (-12), 2) := by decide +kernel
theorem dX6_taken_25 : decode cX6_taken 25 = .ok (.ireturn, 1) := by decide +kernel
theorem dX6_taken_26 : decode cX6_taken 26 = .ok (.iload_n 1, 1) := by decide +kernel
theorem dX6_taken_27 : decode cX6_taken 27 = .ok (.bipush 8, 2) := by decide +kernel
theorem dX6_taken_29 : decode cX6_taken 29 = .ok (.if_icmp .ge 32, 3) := by decide +kernel
theorem dX6_taken_32 : decode cX6_taken 32 = .ok (.aload_n 0, 1) := by decide +kernel
theorem dX6_taken_33 : decode cX6_taken 33 = .ok (.iload_n 1, 1) := by decide +kernel
theorem dX6_taken_34 : decode cX6_taken 34 = .ok (.invokevirtual 155, 3) := by decide +kernel
theorem dX6_taken_37 : decode cX6_taken 37 = .ok (.ifCond .ne 6, 3) := by decide +kernel
theorem dX6_taken_40 : decode cX6_taken 40 = .ok (.bipush (-11), 2) := by decide +kernel
theorem dX6_taken_42 : decode cX6_taken 42 = .ok (.ireturn, 1) := by decide +kernel
theorem dX6_taken_43 : decode cX6_taken 43 = .ok (.iload_n 2, 1) := by decide +kernel
theorem dX6_taken_44 : decode cX6_taken 44 = .ok (.bipush 6, 2) := by decide +kernel
theorem dX6_taken_46 : decode cX6_taken 46 = .ok (.if_icmp .ne 12, 3) := by decide +kernel
theorem dX6_taken_49 : decode cX6_taken 49 = .ok (.aload_n 0, 1) := by decide +kernel
theorem dX6_taken_50 : decode cX6_taken 50 = .ok (.getfield 19, 3) := by decide +kernel
theorem dX6_taken_53 : decode cX6_taken 53 = .ok (.iload_n 1, 1) := by decide +kernel
theorem dX6_taken_54 : decode cX6_taken 54 = .ok (.iaload, 1) := by decide +kernel
theorem dX6_taken_55 : decode cX6_taken 55 = .ok (.goto 5, 3) := by decide +kernel
theorem dX6_taken_58 : decode cX6_taken 58 = .ok (.bipush (-13), 2) := by decide +kernel
theorem dX6_taken_60 : decode cX6_taken 60 = .ok (.ireturn, 1) := by decide +kernel
theorem dX6_taken_61 : decode cX6_taken 61 = .ok (.aload_n 0, 1) := by decide +kernel
theorem dX6_taken_62 : decode cX6_taken 62 = .ok (.iload_n 1, 1) := by decide +kernel
theorem dX6_taken_63 : decode cX6_taken 63 = .ok (.bipush 8, 2) := by decide +kernel
theorem dX6_taken_65 : decode cX6_taken 65 = .ok (.isub, 1) := by decide +kernel
theorem dX6_taken_66 : decode cX6_taken 66 = .ok (.invokevirtual 128, 3) := by decide +kernel
theorem dX6_taken_69 : decode cX6_taken 69 = .ok (.astore_n 3, 1) := by decide +kernel
theorem dX6_taken_70 : decode cX6_taken 70 = .ok (.aload_n 3, 1) := by decide +kernel
theorem dX6_taken_71 : decode cX6_taken 71 = .ok (.ifnonnull 6, 3) := by decide +kernel
theorem dX6_taken_74 : decode cX6_taken 74 = .ok (.bipush (-11), 2) := by decide +kernel
theorem dX6_taken_76 : decode cX6_taken 76 = .ok (.ireturn, 1) := by decide +kernel
theorem dX6_taken_77 : decode cX6_taken 77 = .ok (.aload_n 3, 1) := by decide +kernel
theorem dX6_taken_78 : decode cX6_taken 78 = .ok (.iload_n 2, 1) := by decide +kernel
theorem dX6_taken_79 : decode cX6_taken 79 = .ok (.invokevirtual 292, 3) := by decide +kernel
theorem dX6_taken_82 : decode cX6_taken 82 = .ok (.ifCond .eq 10, 3) := by decide +kernel
theorem dX6_taken_85 : decode cX6_taken 85 = .ok (.iload_n 1, 1) := by decide +kernel
theorem dX6_taken_86 : decode cX6_taken 86 = .ok (.bipush 8, 2) := by decide +kernel
theorem dX6_taken_88 : decode cX6_taken 88 = .ok (.isub, 1) := by decide +kernel
theorem dX6_taken_89 : decode cX6_taken 89 = .ok (.goto 5, 3) := by decide +kernel
theorem dX6_taken_92 : decode cX6_taken 92 = .ok (.bipush (-13), 2) := by decide +kernel
theorem dX6_taken_94 : decode cX6_taken 94 = .ok (.ireturn, 1) := by decide +kernel
theorem dX6_isByte_0 : decode cX6_isByte 0 = .ok (.iload_n 0, 1) := by decide +kernel
theorem dX6_isByte_1 : decode cX6_isByte 1 = .ok (.ifCond .lt 14, 3) := by decide +kernel
theorem dX6_isByte_4 : decode cX6_isByte 4 = .ok (.iload_n 0, 1) := by decide +kernel
theorem dX6_isByte_5 : decode cX6_isByte 5 = .ok (.sipush 255, 3) := by decide +kernel
theorem dX6_isByte_8 : decode cX6_isByte 8 = .ok (.if_icmp .gt 7, 3) := by decide +kernel
theorem dX6_isByte_11 : decode cX6_isByte 11 = .ok (.iconst 1, 1) := by decide +kernel
theorem dX6_isByte_12 : decode cX6_isByte 12 = .ok (.goto 4, 3) := by decide +kernel
theorem dX6_isByte_15 : decode cX6_isByte 15 = .ok (.iconst 0, 1) := by decide +kernel
theorem dX6_isByte_16 : decode cX6_isByte 16 = .ok (.ireturn, 1) := by decide +kernel
theorem dX6_isZeroOrOne_0 : decode cX6_isZeroOrOne 0 = .ok (.iload_n 0, 1) := by decide +kernel
theorem dX6_isZeroOrOne_1 : decode cX6_isZeroOrOne 1 = .ok (.ifCond .eq 8, 3) := by decide +kernel
theorem dX6_isZeroOrOne_4 : decode cX6_isZeroOrOne 4 = .ok (.iload_n 0, 1) := by decide +kernel
theorem dX6_isZeroOrOne_5 : decode cX6_isZeroOrOne 5 = .ok (.iconst 1, 1) := by decide +kernel
theorem dX6_isZeroOrOne_6 : decode cX6_isZeroOrOne 6 = .ok (.if_icmp .ne 7, 3) := by decide +kernel
theorem dX6_isZeroOrOne_9 : decode cX6_isZeroOrOne 9 = .ok (.iconst 1, 1) := by decide +kernel
theorem dX6_isZeroOrOne_10 : decode cX6_isZeroOrOne 10 = .ok (.goto 4, 3) := by decide +kernel
theorem dX6_isZeroOrOne_13 : decode cX6_isZeroOrOne 13 = .ok (.iconst 0, 1) := by decide +kernel
theorem dX6_isZeroOrOne_14 : decode cX6_isZeroOrOne 14 = .ok (.ireturn, 1) := by decide +kernel
theorem dX6_isTopic_0 : decode cX6_isTopic 0 = .ok (.iload_n 0, 1) := by decide +kernel
theorem dX6_isTopic_1 : decode cX6_isTopic 1 = .ok (.ifCond .lt 12, 3) := by decide +kernel
theorem dX6_isTopic_4 : decode cX6_isTopic 4 = .ok (.iload_n 0, 1) := by decide +kernel
theorem dX6_isTopic_5 : decode cX6_isTopic 5 = .ok (.iconst 4, 1) := by decide +kernel
theorem dX6_isTopic_6 : decode cX6_isTopic 6 = .ok (.if_icmp .ge 7, 3) := by decide +kernel
theorem dX6_isTopic_9 : decode cX6_isTopic 9 = .ok (.iconst 1, 1) := by decide +kernel
theorem dX6_isTopic_10 : decode cX6_isTopic 10 = .ok (.goto 4, 3) := by decide +kernel
theorem dX6_isTopic_13 : decode cX6_isTopic 13 = .ok (.iconst 0, 1) := by decide +kernel
theorem dX6_isTopic_14 : decode cX6_isTopic 14 = .ok (.ireturn, 1) := by decide +kernel
theorem dX6_isTable_0 : decode cX6_isTable 0 = .ok (.iload_n 0, 1) := by decide +kernel
theorem dX6_isTable_1 : decode cX6_isTable 1 = .ok (.ifCond .lt 12, 3) := by decide +kernel
theorem dX6_isTable_4 : decode cX6_isTable 4 = .ok (.iload_n 0, 1) := by decide +kernel
theorem dX6_isTable_5 : decode cX6_isTable 5 = .ok (.iconst 3, 1) := by decide +kernel
theorem dX6_isTable_6 : decode cX6_isTable 6 = .ok (.if_icmp .ge 7, 3) := by decide +kernel
theorem dX6_isTable_9 : decode cX6_isTable 9 = .ok (.iconst 1, 1) := by decide +kernel
theorem dX6_isTable_10 : decode cX6_isTable 10 = .ok (.goto 4, 3) := by decide +kernel
theorem dX6_isTable_13 : decode cX6_isTable 13 = .ok (.iconst 0, 1) := by decide +kernel
theorem dX6_isTable_14 : decode cX6_isTable 14 = .ok (.ireturn, 1) := by decide +kernel
theorem dX6_isTableOrNone_0 : decode cX6_isTableOrNone 0 = .ok (.iload_n 0, 1) := by decide +kernel
theorem dX6_isTableOrNone_1 : decode cX6_isTableOrNone 1 = .ok (.iconst (-1), 1) := by decide +kernel
theorem dX6_isTableOrNone_2 : decode cX6_isTableOrNone 2 = .ok (.if_icmp .eq 10, 3) := by decide +kernel
theorem dX6_isTableOrNone_5 : decode cX6_isTableOrNone 5 = .ok (.iload_n 0, 1) := by decide +kernel
theorem dX6_isTableOrNone_6 : decode cX6_isTableOrNone 6 = .ok (.invokestatic 161, 3) := by decide +kernel
theorem dX6_isTableOrNone_9 : decode cX6_isTableOrNone 9 = .ok (.ifCond .eq 7, 3) := by decide +kernel
theorem dX6_isTableOrNone_12 : decode cX6_isTableOrNone 12 = .ok (.iconst 1, 1) := by decide +kernel
theorem dX6_isTableOrNone_13 : decode cX6_isTableOrNone 13 = .ok (.goto 4, 3) := by decide +kernel
theorem dX6_isTableOrNone_16 : decode cX6_isTableOrNone 16 = .ok (.iconst 0, 1) := by decide +kernel
theorem dX6_isTableOrNone_17 : decode cX6_isTableOrNone 17 = .ok (.ireturn, 1) := by decide +kernel
theorem dX6_isQuestion_0 : decode cX6_isQuestion 0 = .ok (.iload_n 1, 1) := by decide +kernel
theorem dX6_isQuestion_1 : decode cX6_isQuestion 1 = .ok (.ifCond .lt 21, 3) := by decide +kernel
theorem dX6_isQuestion_4 : decode cX6_isQuestion 4 = .ok (.iload_n 1, 1) := by decide +kernel
theorem dX6_isQuestion_5 : decode cX6_isQuestion 5 = .ok (.aload_n 0, 1) := by decide +kernel
theorem dX6_isQuestion_6 : decode cX6_isQuestion 6 = .ok (.getfield 88, 3) := by decide +kernel
theorem dX6_isQuestion_9 : decode cX6_isQuestion 9 = .ok (.if_icmp .ge 13, 3) := by decide +kernel
theorem dX6_isQuestion_12 : decode cX6_isQuestion 12 = .ok (.iload_n 1, 1) := by decide +kernel
theorem dX6_isQuestion_13 : decode cX6_isQuestion 13 = .ok (.bipush 8, 2) := by decide +kernel
theorem dX6_isQuestion_15 : decode cX6_isQuestion 15 = .ok (.if_icmp .ge 7, 3) := by decide +kernel
theorem dX6_isQuestion_18 : decode cX6_isQuestion 18 = .ok (.iconst 1, 1) := by decide +kernel
theorem dX6_isQuestion_19 : decode cX6_isQuestion 19 = .ok (.goto 4, 3) := by decide +kernel
theorem dX6_isQuestion_22 : decode cX6_isQuestion 22 = .ok (.iconst 0, 1) := by decide +kernel
theorem dX6_isQuestion_23 : decode cX6_isQuestion 23 = .ok (.ireturn, 1) := by decide +kernel
theorem dX6_personAt_0 : decode cX6_personAt 0 = .ok (.iload_n 1, 1) := by decide +kernel
theorem dX6_personAt_1 : decode cX6_personAt 1 = .ok (.ifCond .lt 26, 3) := by decide +kernel
theorem dX6_personAt_4 : decode cX6_personAt 4 = .ok (.iload_n 1, 1) := by decide +kernel
theorem dX6_personAt_5 : decode cX6_personAt 5 = .ok (.aload_n 0, 1) := by decide +kernel
theorem dX6_personAt_6 : decode cX6_personAt 6 = .ok (.getfield 85, 3) := by decide +kernel
theorem dX6_personAt_9 : decode cX6_personAt 9 = .ok (.if_icmp .ge 18, 3) := by decide +kernel
theorem dX6_personAt_12 : decode cX6_personAt 12 = .ok (.iload_n 1, 1) := by decide +kernel
theorem dX6_personAt_13 : decode cX6_personAt 13 = .ok (.bipush 7, 2) := by decide +kernel
theorem dX6_personAt_15 : decode cX6_personAt 15 = .ok (.if_icmp .ge 12, 3) := by decide +kernel
theorem dX6_personAt_18 : decode cX6_personAt 18 = .ok (.aload_n 0, 1) := by decide +kernel
theorem dX6_personAt_19 : decode cX6_personAt 19 = .ok (.getfield 11, 3) := by decide +kernel
theorem dX6_personAt_22 : decode cX6_personAt 22 = .ok (.iload_n 1, 1) := by decide +kernel
theorem dX6_personAt_23 : decode cX6_personAt 23 = .ok (.aaload, 1) := by decide +kernel
theorem dX6_personAt_24 : decode cX6_personAt 24 = .ok (.goto 4, 3) := by decide +kernel
theorem dX6_personAt_27 : decode cX6_personAt 27 = .ok (.aconst_null, 1) := by decide +kernel
theorem dX6_personAt_28 : decode cX6_personAt 28 = .ok (.areturn, 1) := by decide +kernel
theorem dX6_sheetAt_0 : decode cX6_sheetAt 0 = .ok (.iload_n 1, 1) := by decide +kernel
theorem dX6_sheetAt_1 : decode cX6_sheetAt 1 = .ok (.ifCond .lt 17, 3) := by decide +kernel
theorem dX6_sheetAt_4 : decode cX6_sheetAt 4 = .ok (.iload_n 1, 1) := by decide +kernel
theorem dX6_sheetAt_5 : decode cX6_sheetAt 5 = .ok (.iconst 4, 1) := by decide +kernel
theorem dX6_sheetAt_6 : decode cX6_sheetAt 6 = .ok (.if_icmp .ge 12, 3) := by decide +kernel
theorem dX6_sheetAt_9 : decode cX6_sheetAt 9 = .ok (.aload_n 0, 1) := by decide +kernel
theorem dX6_sheetAt_10 : decode cX6_sheetAt 10 = .ok (.getfield 41, 3) := by decide +kernel
theorem dX6_sheetAt_13 : decode cX6_sheetAt 13 = .ok (.iload_n 1, 1) := by decide +kernel
theorem dX6_sheetAt_14 : decode cX6_sheetAt 14 = .ok (.aaload, 1) := by decide +kernel
theorem dX6_sheetAt_15 : decode cX6_sheetAt 15 = .ok (.goto 4, 3) := by decide +kernel
theorem dX6_sheetAt_18 : decode cX6_sheetAt 18 = .ok (.aconst_null, 1) := by decide +kernel
theorem dX6_sheetAt_19 : decode cX6_sheetAt 19 = .ok (.areturn, 1) := by decide +kernel
theorem dX6_lawText_0 : decode cX6_lawText 0 = .ok (.aload_n 0, 1) := by decide +kernel
theorem dX6_lawText_1 : decode cX6_lawText 1 = .ok (.getfield 91, 3) := by decide +kernel
theorem dX6_lawText_4 : decode cX6_lawText 4 = .ok (.ifCond .lt 24, 3) := by decide +kernel
theorem dX6_lawText_7 : decode cX6_lawText 7 = .ok (.aload_n 0, 1) := by decide +kernel
theorem dX6_lawText_8 : decode cX6_lawText 8 = .ok (.getfield 91, 3) := by decide +kernel
theorem dX6_lawText_11 : decode cX6_lawText 11 = .ok (.bipush 6, 2) := by decide +kernel
theorem dX6_lawText_13 : decode cX6_lawText 13 = .ok (.if_icmp .ge 15, 3) := by decide +kernel
theorem dX6_lawText_16 : decode cX6_lawText 16 = .ok (.aload_n 0, 1) := by decide +kernel
theorem dX6_lawText_17 : decode cX6_lawText 17 = .ok (.getfield 27, 3) := by decide +kernel
theorem dX6_lawText_20 : decode cX6_lawText 20 = .ok (.aload_n 0, 1) := by decide +kernel
theorem dX6_lawText_21 : decode cX6_lawText 21 = .ok (.getfield 91, 3) := by decide +kernel
theorem dX6_lawText_24 : decode cX6_lawText 24 = .ok (.aaload, 1) := by decide +kernel
theorem dX6_lawText_25 : decode cX6_lawText 25 = .ok (.goto 4, 3) := by decide +kernel
theorem dX6_lawText_28 : decode cX6_lawText 28 = .ok (.aconst_null, 1) := by decide +kernel
theorem dX6_lawText_29 : decode cX6_lawText 29 = .ok (.areturn, 1) := by decide +kernel
theorem dX6_bounded_0 : decode cX6_bounded 0 = .ok (.iload_n 1, 1) := by decide +kernel
theorem dX6_bounded_1 : decode cX6_bounded 1 = .ok (.iload_n 2, 1) := by decide +kernel
theorem dX6_bounded_2 : decode cX6_bounded 2 = .ok (.iload_n 0, 1) := by decide +kernel
theorem dX6_bounded_3 : decode cX6_bounded 3 = .ok (.invokestatic 295, 3) := by decide +kernel
theorem dX6_bounded_6 : decode cX6_bounded 6 = .ok (.invokestatic 300, 3) := by decide +kernel
theorem dX6_bounded_9 : decode cX6_bounded 9 = .ok (.ireturn, 1) := by decide +kernel
theorem dX6_name_0 : decode cX6_name 0 = .ok (.aload_n 0, 1) := by decide +kernel
theorem dX6_name_1 : decode cX6_name 1 = .ok (.arraylength, 1) := by decide +kernel
theorem dX6_name_2 : decode cX6_name 2 = .ok (.bipush 6, 2) := by decide +kernel
theorem dX6_name_4 : decode cX6_name 4 = .ok (.if_icmp .ge 4, 3) := by decide +kernel
theorem dX6_name_7 : decode cX6_name 7 = .ok (.return_, 1) := by decide +kernel
theorem dX6_name_8 : decode cX6_name 8 = .ok (.aload_n 0, 1) := by decide +kernel
theorem dX6_name_9 : decode cX6_name 9 = .ok (.iconst 0, 1) := by decide +kernel
theorem dX6_name_10 : decode cX6_name 10 = .ok (.iload_n 1, 1) := by decide +kernel
theorem dX6_name_11 : decode cX6_name 11 = .ok (.iastore, 1) := by decide +kernel
theorem dX6_name_12 : decode cX6_name 12 = .ok (.aload_n 0, 1) := by decide +kernel
theorem dX6_name_13 : decode cX6_name 13 = .ok (.iconst 1, 1) := by decide +kernel
theorem dX6_name_14 : decode cX6_name 14 = .ok (.iload_n 2, 1) := by decide +kernel
theorem dX6_name_15 : decode cX6_name 15 = .ok (.iastore, 1) := by decide +kernel
theorem dX6_name_16 : decode cX6_name 16 = .ok (.aload_n 0, 1) := by decide +kernel
theorem dX6_name_17 : decode cX6_name 17 = .ok (.iconst 2, 1) := by decide +kernel
theorem dX6_name_18 : decode cX6_name 18 = .ok (.iload_n 3, 1) := by decide +kernel
theorem dX6_name_19 : decode cX6_name 19 = .ok (.iastore, 1) := by decide +kernel
theorem dX6_name_20 : decode cX6_name 20 = .ok (.return_, 1) := by decide +kernel
theorem dX6_nameMore_0 : decode cX6_nameMore 0 = .ok (.aload_n 0, 1) := by decide +kernel
theorem dX6_nameMore_1 : decode cX6_nameMore 1 = .ok (.arraylength, 1) := by decide +kernel
theorem dX6_nameMore_2 : decode cX6_nameMore 2 = .ok (.bipush 6, 2) := by decide +kernel
theorem dX6_nameMore_4 : decode cX6_nameMore 4 = .ok (.if_icmp .ge 4, 3) := by decide +kernel
theorem dX6_nameMore_7 : decode cX6_nameMore 7 = .ok (.return_, 1) := by decide +kernel
theorem dX6_nameMore_8 : decode cX6_nameMore 8 = .ok (.aload_n 0, 1) := by decide +kernel
theorem dX6_nameMore_9 : decode cX6_nameMore 9 = .ok (.iconst 3, 1) := by decide +kernel
theorem dX6_nameMore_10 : decode cX6_nameMore 10 = .ok (.iload_n 1, 1) := by decide +kernel
theorem dX6_nameMore_11 : decode cX6_nameMore 11 = .ok (.iastore, 1) := by decide +kernel
theorem dX6_nameMore_12 : decode cX6_nameMore 12 = .ok (.aload_n 0, 1) := by decide +kernel
theorem dX6_nameMore_13 : decode cX6_nameMore 13 = .ok (.iconst 4, 1) := by decide +kernel
theorem dX6_nameMore_14 : decode cX6_nameMore 14 = .ok (.iload_n 2, 1) := by decide +kernel
theorem dX6_nameMore_15 : decode cX6_nameMore 15 = .ok (.iastore, 1) := by decide +kernel
theorem dX6_nameMore_16 : decode cX6_nameMore 16 = .ok (.aload_n 0, 1) := by decide +kernel
theorem dX6_nameMore_17 : decode cX6_nameMore 17 = .ok (.iconst 5, 1) := by decide +kernel
theorem dX6_nameMore_18 : decode cX6_nameMore 18 = .ok (.iload_n 3, 1) := by decide +kernel
theorem dX6_nameMore_19 : decode cX6_nameMore 19 = .ok (.iastore, 1) := by decide +kernel
theorem dX6_nameMore_20 : decode cX6_nameMore 20 = .ok (.return_, 1) := by decide +kernel
theorem dX6_lowest_0 : decode cX6_lowest 0 = .ok (.iload_n 1, 1) := by decide +kernel
theorem dX6_lowest_1 : decode cX6_lowest 1 = .ok (.istore_n 3, 1) := by decide +kernel
theorem dX6_lowest_2 : decode cX6_lowest 2 = .ok (.iload_n 0, 1) := by decide +kernel
theorem dX6_lowest_3 : decode cX6_lowest 3 = .ok (.istore 4, 2) := by decide +kernel
theorem dX6_lowest_5 : decode cX6_lowest 5 = .ok (.iconst 0, 1) := by decide +kernel
theorem dX6_lowest_6 : decode cX6_lowest 6 = .ok (.istore 5, 2) := by decide +kernel
theorem dX6_lowest_8 : decode cX6_lowest 8 = .ok (.iload 5, 2) := by decide +kernel
theorem dX6_lowest_10 : decode cX6_lowest 10 = .ok (.bipush 100, 2) := by decide +kernel
theorem dX6_lowest_12 : decode cX6_lowest 12 = .ok (.if_icmp .ge 27, 3) := by decide +kernel
theorem dX6_lowest_15 : decode cX6_lowest 15 = .ok (.iload 4, 2) := by decide +kernel
theorem dX6_lowest_17 : decode cX6_lowest 17 = .ok (.ifCond .le 22, 3) := by decide +kernel
theorem dX6_lowest_20 : decode cX6_lowest 20 = .ok (.iload_n 3, 1) := by decide +kernel
theorem dX6_lowest_21 : decode cX6_lowest 21 = .ok (.iload 4, 2) := by decide +kernel
theorem dX6_lowest_23 : decode cX6_lowest 23 = .ok (.irem, 1) := by decide +kernel
theorem dX6_lowest_24 : decode cX6_lowest 24 = .ok (.istore 6, 2) := by decide +kernel
theorem dX6_lowest_26 : decode cX6_lowest 26 = .ok (.iload 4, 2) := by decide +kernel
theorem dX6_lowest_28 : decode cX6_lowest 28 = .ok (.istore_n 3, 1) := by decide +kernel
theorem dX6_lowest_29 : decode cX6_lowest 29 = .ok (.iload 6, 2) := by decide +kernel
theorem dX6_lowest_31 : decode cX6_lowest 31 = .ok (.istore 4, 2) := by decide +kernel
theorem dX6_lowest_33 : decode cX6_lowest 33 = .ok (.iinc 5 1, 3) := by decide +kernel
theorem dX6_lowest_36 : decode cX6_lowest 36 = .ok (.goto (-28), 3) := by decide +kernel
theorem dX6_lowest_39 : decode cX6_lowest 39 = .ok (.iload_n 3, 1) := by decide +kernel
theorem dX6_lowest_40 : decode cX6_lowest 40 = .ok (.ifCond .ne 7, 3) := by decide +kernel
theorem dX6_lowest_43 : decode cX6_lowest 43 = .ok (.ldc2_w 209, 3) := by decide +kernel
theorem dX6_lowest_46 : decode cX6_lowest 46 = .ok (.lreturn, 1) := by decide +kernel
theorem dX6_lowest_47 : decode cX6_lowest 47 = .ok (.iload_n 2, 1) := by decide +kernel
theorem dX6_lowest_48 : decode cX6_lowest 48 = .ok (.ifCond .ne 10, 3) := by decide +kernel
theorem dX6_lowest_51 : decode cX6_lowest 51 = .ok (.iload_n 0, 1) := by decide +kernel
theorem dX6_lowest_52 : decode cX6_lowest 52 = .ok (.iload_n 3, 1) := by decide +kernel
theorem dX6_lowest_53 : decode cX6_lowest 53 = .ok (.idiv, 1) := by decide +kernel
theorem dX6_lowest_54 : decode cX6_lowest 54 = .ok (.i2l, 1) := by decide +kernel
theorem dX6_lowest_55 : decode cX6_lowest 55 = .ok (.goto 7, 3) := by decide +kernel
theorem dX6_lowest_58 : decode cX6_lowest 58 = .ok (.iload_n 1, 1) := by decide +kernel
theorem dX6_lowest_59 : decode cX6_lowest 59 = .ok (.iload_n 3, 1) := by decide +kernel
theorem dX6_lowest_60 : decode cX6_lowest 60 = .ok (.idiv, 1) := by decide +kernel
theorem dX6_lowest_61 : decode cX6_lowest 61 = .ok (.i2l, 1) := by decide +kernel
theorem dX6_lowest_62 : decode cX6_lowest 62 = .ok (.lreturn, 1) := by decide +kernel
theorem dX6_reckon_0 : decode cX6_reckon 0 = .ok (.aload_n 0, 1) := by decide +kernel
theorem dX6_reckon_1 : decode cX6_reckon 1 = .ok (.getfield 55, 3) := by decide +kernel
theorem dX6_reckon_4 : decode cX6_reckon 4 = .ok (.aload_n 0, 1) := by decide +kernel
theorem dX6_reckon_5 : decode cX6_reckon 5 = .ok (.invokevirtual 108, 3) := by decide +kernel
theorem dX6_reckon_8 : decode cX6_reckon 8 = .ok (.aload_n 0, 1) := by decide +kernel
theorem dX6_reckon_9 : decode cX6_reckon 9 = .ok (.getfield 15, 3) := by decide +kernel
theorem dX6_reckon_12 : decode cX6_reckon 12 = .ok (.aload_n 0, 1) := by decide +kernel
theorem dX6_reckon_13 : decode cX6_reckon 13 = .ok (.getfield 19, 3) := by decide +kernel
theorem dX6_reckon_16 : decode cX6_reckon 16 = .ok (.aload_n 0, 1) := by decide +kernel
theorem dX6_reckon_17 : decode cX6_reckon 17 = .ok (.getfield 88, 3) := by decide +kernel
theorem dX6_reckon_20 : decode cX6_reckon 20 = .ok (.invokevirtual 303, 3) := by decide +kernel
theorem dX6_reckon_23 : decode cX6_reckon 23 = .ok (.iconst 0, 1) := by decide +kernel
theorem dX6_reckon_24 : decode cX6_reckon 24 = .ok (.istore_n 1, 1) := by decide +kernel
theorem dX6_reckon_25 : decode cX6_reckon 25 = .ok (.iload_n 1, 1) := by decide +kernel
theorem dX6_reckon_26 : decode cX6_reckon 26 = .ok (.bipush 7, 2) := by decide +kernel
theorem dX6_reckon_28 : decode cX6_reckon 28 = .ok (.if_icmp .ge 34, 3) := by decide +kernel
theorem dX6_reckon_31 : decode cX6_reckon 31 = .ok (.aload_n 0, 1) := by decide +kernel
theorem dX6_reckon_32 : decode cX6_reckon 32 = .ok (.getfield 55, 3) := by decide +kernel
theorem dX6_reckon_35 : decode cX6_reckon 35 = .ok (.aload_n 0, 1) := by decide +kernel
theorem dX6_reckon_36 : decode cX6_reckon 36 = .ok (.invokevirtual 108, 3) := by decide +kernel
theorem dX6_reckon_39 : decode cX6_reckon 39 = .ok (.iload_n 1, 1) := by decide +kernel
theorem dX6_reckon_40 : decode cX6_reckon 40 = .ok (.aload_n 0, 1) := by decide +kernel
theorem dX6_reckon_41 : decode cX6_reckon 41 = .ok (.iload_n 1, 1) := by decide +kernel
theorem dX6_reckon_42 : decode cX6_reckon 42 = .ok (.invokevirtual 128, 3) := by decide +kernel
theorem dX6_reckon_45 : decode cX6_reckon 45 = .ok (.aload_n 0, 1) := by decide +kernel
theorem dX6_reckon_46 : decode cX6_reckon 46 = .ok (.getfield 15, 3) := by decide +kernel
theorem dX6_reckon_49 : decode cX6_reckon 49 = .ok (.aload_n 0, 1) := by decide +kernel
theorem dX6_reckon_50 : decode cX6_reckon 50 = .ok (.getfield 19, 3) := by decide +kernel
theorem dX6_reckon_53 : decode cX6_reckon 53 = .ok (.invokevirtual 307, 3) := by decide +kernel
theorem dX6_reckon_56 : decode cX6_reckon 56 = .ok (.iinc 1 1, 3) := by decide +kernel
theorem dX6_reckon_59 : decode cX6_reckon 59 = .ok (.goto (-34), 3) := by decide +kernel
theorem dX6_reckon_62 : decode cX6_reckon 62 = .ok (.aload_n 0, 1) := by decide +kernel
theorem dX6_reckon_63 : decode cX6_reckon 63 = .ok (.invokevirtual 311, 3) := by decide +kernel
theorem dX6_reckon_66 : decode cX6_reckon 66 = .ok (.return_, 1) := by decide +kernel
theorem dX6_findRights_0 : decode cX6_findRights 0 = .ok (.iconst 0, 1) := by decide +kernel
theorem dX6_findRights_1 : decode cX6_findRights 1 = .ok (.istore_n 1, 1) := by decide +kernel
theorem dX6_findRights_2 : decode cX6_findRights 2 = .ok (.iload_n 1, 1) := by decide +kernel
theorem dX6_findRights_3 : decode cX6_findRights 3 = .ok (.iconst 3, 1) := by decide +kernel
theorem dX6_findRights_4 : decode cX6_findRights 4 = .ok (.if_icmp .ge 27, 3) := by decide +kernel
theorem dX6_findRights_7 : decode cX6_findRights 7 = .ok (.aload_n 0, 1) := by decide +kernel
theorem dX6_findRights_8 : decode cX6_findRights 8 = .ok (.getfield 59, 3) := by decide +kernel
theorem dX6_findRights_11 : decode cX6_findRights 11 = .ok (.iload_n 1, 1) := by decide +kernel
theorem dX6_findRights_12 : decode cX6_findRights 12 = .ok (.aload_n 0, 1) := by decide +kernel
theorem dX6_findRights_13 : decode cX6_findRights 13 = .ok (.getfield 55, 3) := by decide +kernel
theorem dX6_findRights_16 : decode cX6_findRights 16 = .ok (.aload_n 0, 1) := by decide +kernel
theorem dX6_findRights_17 : decode cX6_findRights 17 = .ok (.iload_n 1, 1) := by decide +kernel
theorem dX6_findRights_18 : decode cX6_findRights 18 = .ok (.invokevirtual 167, 3) := by decide +kernel
theorem dX6_findRights_21 : decode cX6_findRights 21 = .ok (.invokevirtual 314, 3) := by decide +kernel
theorem dX6_findRights_24 : decode cX6_findRights 24 = .ok (.iastore, 1) := by decide +kernel
theorem dX6_findRights_25 : decode cX6_findRights 25 = .ok (.iinc 1 1, 3) := by decide +kernel
theorem dX6_findRights_28 : decode cX6_findRights 28 = .ok (.goto (-26), 3) := by decide +kernel
theorem dX6_findRights_31 : decode cX6_findRights 31 = .ok (.return_, 1) := by decide +kernel
theorem dX6_seatedAt_0 : decode cX6_seatedAt 0 = .ok (.iconst 0, 1) := by decide +kernel
theorem dX6_seatedAt_1 : decode cX6_seatedAt 1 = .ok (.istore_n 2, 1) := by decide +kernel
theorem dX6_seatedAt_2 : decode cX6_seatedAt 2 = .ok (.iconst 0, 1) := by decide +kernel
theorem dX6_seatedAt_3 : decode cX6_seatedAt 3 = .ok (.istore_n 3, 1) := by decide +kernel
theorem dX6_seatedAt_4 : decode cX6_seatedAt 4 = .ok (.iload_n 3, 1) := by decide +kernel
theorem dX6_seatedAt_5 : decode cX6_seatedAt 5 = .ok (.aload_n 0, 1) := by decide +kernel
theorem dX6_seatedAt_6 : decode cX6_seatedAt 6 = .ok (.getfield 85, 3) := by decide +kernel
theorem dX6_seatedAt_9 : decode cX6_seatedAt 9 = .ok (.if_icmp .ge 36, 3) := by decide +kernel
theorem dX6_seatedAt_12 : decode cX6_seatedAt 12 = .ok (.aload_n 0, 1) := by decide +kernel
theorem dX6_seatedAt_13 : decode cX6_seatedAt 13 = .ok (.iload_n 3, 1) := by decide +kernel
theorem dX6_seatedAt_14 : decode cX6_seatedAt 14 = .ok (.invokevirtual 128, 3) := by decide +kernel
theorem dX6_seatedAt_17 : decode cX6_seatedAt 17 = .ok (.astore 4, 2) := by decide +kernel
theorem dX6_seatedAt_19 : decode cX6_seatedAt 19 = .ok (.aload 4, 2) := by decide +kernel
theorem dX6_seatedAt_21 : decode cX6_seatedAt 21 = .ok (.ifnull 18, 3) := by decide +kernel
theorem dX6_seatedAt_24 : decode cX6_seatedAt 24 = .ok (.aload 4, 2) := by decide +kernel
theorem dX6_seatedAt_26 : decode cX6_seatedAt 26 = .ok (.getfield 143, 3) := by decide +kernel
theorem dX6_seatedAt_29 : decode cX6_seatedAt 29 = .ok (.iload_n 1, 1) := by decide +kernel
theorem dX6_seatedAt_30 : decode cX6_seatedAt 30 = .ok (.if_icmp .ne 9, 3) := by decide +kernel
theorem dX6_seatedAt_33 : decode cX6_seatedAt 33 = .ok (.iload_n 2, 1) := by decide +kernel
theorem dX6_seatedAt_34 : decode cX6_seatedAt 34 = .ok (.iconst 1, 1) := by decide +kernel
theorem dX6_seatedAt_35 : decode cX6_seatedAt 35 = .ok (.iload_n 3, 1) := by decide +kernel
theorem dX6_seatedAt_36 : decode cX6_seatedAt 36 = .ok (.ishl, 1) := by decide +kernel
theorem dX6_seatedAt_37 : decode cX6_seatedAt 37 = .ok (.ior, 1) := by decide +kernel
theorem dX6_seatedAt_38 : decode cX6_seatedAt 38 = .ok (.istore_n 2, 1) := by decide +kernel
theorem dX6_seatedAt_39 : decode cX6_seatedAt 39 = .ok (.iinc 3 1, 3) := by decide +kernel
theorem dX6_seatedAt_42 : decode cX6_seatedAt 42 = .ok (.goto (-38), 3) := by decide +kernel
theorem dX6_seatedAt_45 : decode cX6_seatedAt 45 = .ok (.iload_n 2, 1) := by decide +kernel
theorem dX6_seatedAt_46 : decode cX6_seatedAt 46 = .ok (.ireturn, 1) := by decide +kernel
theorem dX6_scoreNow_0 : decode cX6_scoreNow 0 = .ok (.iload_n 1, 1) := by decide +kernel
theorem dX6_scoreNow_1 : decode cX6_scoreNow 1 = .ok (.invokestatic 161, 3) := by decide +kernel
theorem dX6_scoreNow_4 : decode cX6_scoreNow 4 = .ok (.ifCond .eq 25, 3) := by decide +kernel
theorem dX6_scoreNow_7 : decode cX6_scoreNow 7 = .ok (.aload_n 0, 1) := by decide +kernel
theorem dX6_scoreNow_8 : decode cX6_scoreNow 8 = .ok (.getfield 55, 3) := by decide +kernel
theorem dX6_scoreNow_11 : decode cX6_scoreNow 11 = .ok (.aload_n 0, 1) := by decide +kernel
theorem dX6_scoreNow_12 : decode cX6_scoreNow 12 = .ok (.getfield 59, 3) := by decide +kernel
theorem dX6_scoreNow_15 : decode cX6_scoreNow 15 = .ok (.iload_n 1, 1) := by decide +kernel
theorem dX6_scoreNow_16 : decode cX6_scoreNow 16 = .ok (.iaload, 1) := by decide +kernel
theorem dX6_scoreNow_17 : decode cX6_scoreNow 17 = .ok (.aload_n 0, 1) := by decide +kernel
theorem dX6_scoreNow_18 : decode cX6_scoreNow 18 = .ok (.getfield 22, 3) := by decide +kernel
theorem dX6_scoreNow_21 : decode cX6_scoreNow 21 = .ok (.iload_n 1, 1) := by decide +kernel
theorem dX6_scoreNow_22 : decode cX6_scoreNow 22 = .ok (.iaload, 1) := by decide +kernel
theorem dX6_scoreNow_23 : decode cX6_scoreNow 23 = .ok (.invokevirtual 190, 3) := by decide +kernel
theorem dX6_scoreNow_26 : decode cX6_scoreNow 26 = .ok (.goto 4, 3) := by decide +kernel
theorem dX6_scoreNow_29 : decode cX6_scoreNow 29 = .ok (.iconst 0, 1) := by decide +kernel
theorem dX6_scoreNow_30 : decode cX6_scoreNow 30 = .ok (.ireturn, 1) := by decide +kernel
theorem dX6_scoreIf_0 : decode cX6_scoreIf 0 = .ok (.iload_n 1, 1) := by decide +kernel
theorem dX6_scoreIf_1 : decode cX6_scoreIf 1 = .ok (.invokestatic 161, 3) := by decide +kernel
theorem dX6_scoreIf_4 : decode cX6_scoreIf 4 = .ok (.ifCond .eq 27, 3) := by decide +kernel
theorem dX6_scoreIf_7 : decode cX6_scoreIf 7 = .ok (.aload_n 0, 1) := by decide +kernel
theorem dX6_scoreIf_8 : decode cX6_scoreIf 8 = .ok (.getfield 55, 3) := by decide +kernel
theorem dX6_scoreIf_11 : decode cX6_scoreIf 11 = .ok (.aload_n 0, 1) := by decide +kernel
theorem dX6_scoreIf_12 : decode cX6_scoreIf 12 = .ok (.getfield 55, 3) := by decide +kernel
theorem dX6_scoreIf_15 : decode cX6_scoreIf 15 = .ok (.iload_n 2, 1) := by decide +kernel
theorem dX6_scoreIf_16 : decode cX6_scoreIf 16 = .ok (.invokevirtual 314, 3) := by decide +kernel
theorem dX6_scoreIf_19 : decode cX6_scoreIf 19 = .ok (.aload_n 0, 1) := by decide +kernel
theorem dX6_scoreIf_20 : decode cX6_scoreIf 20 = .ok (.getfield 22, 3) := by decide +kernel
theorem dX6_scoreIf_23 : decode cX6_scoreIf 23 = .ok (.iload_n 1, 1) := by decide +kernel
theorem dX6_scoreIf_24 : decode cX6_scoreIf 24 = .ok (.iaload, 1) := by decide +kernel
theorem dX6_scoreIf_25 : decode cX6_scoreIf 25 = .ok (.invokevirtual 190, 3) := by decide +kernel
theorem dX6_scoreIf_28 : decode cX6_scoreIf 28 = .ok (.goto 4, 3) := by decide +kernel
theorem dX6_scoreIf_31 : decode cX6_scoreIf 31 = .ok (.iconst 0, 1) := by decide +kernel
theorem dX6_scoreIf_32 : decode cX6_scoreIf 32 = .ok (.ireturn, 1) := by decide +kernel
theorem dX6_winner_0 : decode cX6_winner 0 = .ok (.iconst 0, 1) := by decide +kernel
theorem dX6_winner_1 : decode cX6_winner 1 = .ok (.istore_n 1, 1) := by decide +kernel
theorem dX6_winner_2 : decode cX6_winner 2 = .ok (.iconst 1, 1) := by decide +kernel
theorem dX6_winner_3 : decode cX6_winner 3 = .ok (.istore_n 2, 1) := by decide +kernel
theorem dX6_winner_4 : decode cX6_winner 4 = .ok (.iload_n 2, 1) := by decide +kernel
theorem dX6_winner_5 : decode cX6_winner 5 = .ok (.iconst 3, 1) := by decide +kernel
theorem dX6_winner_6 : decode cX6_winner 6 = .ok (.if_icmp .ge 24, 3) := by decide +kernel
theorem dX6_winner_9 : decode cX6_winner 9 = .ok (.aload_n 0, 1) := by decide +kernel
theorem dX6_winner_10 : decode cX6_winner 10 = .ok (.iload_n 2, 1) := by decide +kernel
theorem dX6_winner_11 : decode cX6_winner 11 = .ok (.invokevirtual 177, 3) := by decide +kernel
theorem dX6_winner_14 : decode cX6_winner 14 = .ok (.aload_n 0, 1) := by decide +kernel
theorem dX6_winner_15 : decode cX6_winner 15 = .ok (.iload_n 1, 1) := by decide +kernel
theorem dX6_winner_16 : decode cX6_winner 16 = .ok (.invokevirtual 177, 3) := by decide +kernel
theorem dX6_winner_19 : decode cX6_winner 19 = .ok (.if_icmp .le 5, 3) := by decide +kernel
theorem dX6_winner_22 : decode cX6_winner 22 = .ok (.iload_n 2, 1) := by decide +kernel
theorem dX6_winner_23 : decode cX6_winner 23 = .ok (.istore_n 1, 1) := by decide +kernel
theorem dX6_winner_24 : decode cX6_winner 24 = .ok (.iinc 2 1, 3) := by decide +kernel
theorem dX6_winner_27 : decode cX6_winner 27 = .ok (.goto (-23), 3) := by decide +kernel
theorem dX6_winner_30 : decode cX6_winner 30 = .ok (.iload_n 1, 1) := by decide +kernel
theorem dX6_winner_31 : decode cX6_winner 31 = .ok (.ireturn, 1) := by decide +kernel
theorem dX6_apartBy_0 : decode cX6_apartBy 0 = .ok (.aload_n 0, 1) := by decide +kernel
theorem dX6_apartBy_1 : decode cX6_apartBy 1 = .ok (.getfield 55, 3) := by decide +kernel
theorem dX6_apartBy_4 : decode cX6_apartBy 4 = .ok (.aload_n 0, 1) := by decide +kernel
theorem dX6_apartBy_5 : decode cX6_apartBy 5 = .ok (.getfield 59, 3) := by decide +kernel
theorem dX6_apartBy_8 : decode cX6_apartBy 8 = .ok (.iconst 0, 1) := by decide +kernel
theorem dX6_apartBy_9 : decode cX6_apartBy 9 = .ok (.iaload, 1) := by decide +kernel
theorem dX6_apartBy_10 : decode cX6_apartBy 10 = .ok (.iload_n 1, 1) := by decide +kernel
theorem dX6_apartBy_11 : decode cX6_apartBy 11 = .ok (.iand, 1) := by decide +kernel
theorem dX6_apartBy_12 : decode cX6_apartBy 12 = .ok (.aload_n 0, 1) := by decide +kernel
theorem dX6_apartBy_13 : decode cX6_apartBy 13 = .ok (.getfield 22, 3) := by decide +kernel
theorem dX6_apartBy_16 : decode cX6_apartBy 16 = .ok (.iconst 0, 1) := by decide +kernel
theorem dX6_apartBy_17 : decode cX6_apartBy 17 = .ok (.iaload, 1) := by decide +kernel
theorem dX6_apartBy_18 : decode cX6_apartBy 18 = .ok (.invokevirtual 190, 3) := by decide +kernel
theorem dX6_apartBy_21 : decode cX6_apartBy 21 = .ok (.istore_n 2, 1) := by decide +kernel
theorem dX6_apartBy_22 : decode cX6_apartBy 22 = .ok (.iload_n 2, 1) := by decide +kernel
theorem dX6_apartBy_23 : decode cX6_apartBy 23 = .ok (.istore_n 3, 1) := by decide +kernel
theorem dX6_apartBy_24 : decode cX6_apartBy 24 = .ok (.iconst 1, 1) := by decide +kernel
theorem dX6_apartBy_25 : decode cX6_apartBy 25 = .ok (.istore 4, 2) := by decide +kernel
theorem dX6_apartBy_27 : decode cX6_apartBy 27 = .ok (.iload 4, 2) := by decide +kernel
theorem dX6_apartBy_29 : decode cX6_apartBy 29 = .ok (.iconst 3, 1) := by decide +kernel
theorem dX6_apartBy_30 : decode cX6_apartBy 30 = .ok (.if_icmp .ge 48, 3) := by decide +kernel
theorem dX6_apartBy_33 : decode cX6_apartBy 33 = .ok (.aload_n 0, 1) := by decide +kernel
theorem dX6_apartBy_34 : decode cX6_apartBy 34 = .ok (.getfield 55, 3) := by decide +kernel
theorem dX6_apartBy_37 : decode cX6_apartBy 37 = .ok (.aload_n 0, 1) := by decide +kernel
theorem dX6_apartBy_38 : decode cX6_apartBy 38 = .ok (.getfield 59, 3) := by decide +kernel
theorem dX6_apartBy_41 : decode cX6_apartBy 41 = .ok (.iload 4, 2) := by decide +kernel
theorem dX6_apartBy_43 : decode cX6_apartBy 43 = .ok (.iaload, 1) := by decide +kernel
theorem dX6_apartBy_44 : decode cX6_apartBy 44 = .ok (.iload_n 1, 1) := by decide +kernel
theorem dX6_apartBy_45 : decode cX6_apartBy 45 = .ok (.iand, 1) := by decide +kernel
theorem dX6_apartBy_46 : decode cX6_apartBy 46 = .ok (.aload_n 0, 1) := by decide +kernel
theorem dX6_apartBy_47 : decode cX6_apartBy 47 = .ok (.getfield 22, 3) := by decide +kernel
theorem dX6_apartBy_50 : decode cX6_apartBy 50 = .ok (.iload 4, 2) := by decide +kernel
theorem dX6_apartBy_52 : decode cX6_apartBy 52 = .ok (.iaload, 1) := by decide +kernel
theorem dX6_apartBy_53 : decode cX6_apartBy 53 = .ok (.invokevirtual 190, 3) := by decide +kernel
theorem dX6_apartBy_56 : decode cX6_apartBy 56 = .ok (.istore 5, 2) := by decide +kernel
theorem dX6_apartBy_58 : decode cX6_apartBy 58 = .ok (.iload_n 2, 1) := by decide +kernel
theorem dX6_apartBy_59 : decode cX6_apartBy 59 = .ok (.iload 5, 2) := by decide +kernel
theorem dX6_apartBy_61 : decode cX6_apartBy 61 = .ok (.invokestatic 300, 3) := by decide +kernel
theorem dX6_apartBy_64 : decode cX6_apartBy 64 = .ok (.istore_n 2, 1) := by decide +kernel
theorem dX6_apartBy_65 : decode cX6_apartBy 65 = .ok (.iload_n 3, 1) := by decide +kernel
theorem dX6_apartBy_66 : decode cX6_apartBy 66 = .ok (.iload 5, 2) := by decide +kernel
theorem dX6_apartBy_68 : decode cX6_apartBy 68 = .ok (.invokestatic 295, 3) := by decide +kernel
theorem dX6_apartBy_71 : decode cX6_apartBy 71 = .ok (.istore_n 3, 1) := by decide +kernel
theorem dX6_apartBy_72 : decode cX6_apartBy 72 = .ok (.iinc 4 1, 3) := by decide +kernel
theorem dX6_apartBy_75 : decode cX6_apartBy 75 = .ok (.goto (-48), 3) := by decide +kernel
theorem dX6_apartBy_78 : decode cX6_apartBy 78 = .ok (.iload_n 2, 1) := by decide +kernel
theorem dX6_apartBy_79 : decode cX6_apartBy 79 = .ok (.iload_n 3, 1) := by decide +kernel
theorem dX6_apartBy_80 : decode cX6_apartBy 80 = .ok (.isub, 1) := by decide +kernel
theorem dX6_apartBy_81 : decode cX6_apartBy 81 = .ok (.ireturn, 1) := by decide +kernel
theorem dX6_apartIfChanged_0 : decode cX6_apartIfChanged 0 = .ok (.aload_n 1, 1) := by decide +kernel
theorem dX6_apartIfChanged_1 : decode cX6_apartIfChanged 1 = .ok (.ifnull 18, 3) := by decide +kernel
theorem dX6_apartIfChanged_4 : decode cX6_apartIfChanged 4 = .ok (.aload_n 2, 1) := by decide +kernel
theorem dX6_apartIfChanged_5 : decode cX6_apartIfChanged 5 = .ok (.ifnull 14, 3) := by decide +kernel
theorem dX6_apartIfChanged_8 : decode cX6_apartIfChanged 8 = .ok (.aload_n 1, 1) := by decide +kernel
theorem dX6_apartIfChanged_9 : decode cX6_apartIfChanged 9 = .ok (.getfield 143, 3) := by decide +kernel
theorem dX6_apartIfChanged_12 : decode cX6_apartIfChanged 12 = .ok (.aload_n 2, 1) := by decide +kernel
theorem dX6_apartIfChanged_13 : decode cX6_apartIfChanged 13 = .ok (.getfield 143, 3) := by decide +kernel
theorem dX6_apartIfChanged_16 : decode cX6_apartIfChanged 16 = .ok (.if_icmp .ne 5, 3) := by decide +kernel
theorem dX6_apartIfChanged_19 : decode cX6_apartIfChanged 19 = .ok (.iconst (-1), 1) := by decide +kernel
theorem dX6_apartIfChanged_20 : decode cX6_apartIfChanged 20 = .ok (.ireturn, 1) := by decide +kernel
theorem dX6_apartIfChanged_21 : decode cX6_apartIfChanged 21 = .ok (.aload_n 1, 1) := by decide +kernel
theorem dX6_apartIfChanged_22 : decode cX6_apartIfChanged 22 = .ok (.aload_n 2, 1) := by decide +kernel
theorem dX6_apartIfChanged_23 : decode cX6_apartIfChanged 23 = .ok (.invokestatic 317, 3) := by decide +kernel
theorem dX6_apartIfChanged_26 : decode cX6_apartIfChanged 26 = .ok (.aload_n 0, 1) := by decide +kernel
theorem dX6_apartIfChanged_27 : decode cX6_apartIfChanged 27 = .ok (.invokevirtual 311, 3) := by decide +kernel
theorem dX6_apartIfChanged_30 : decode cX6_apartIfChanged 30 = .ok (.aload_n 0, 1) := by decide +kernel
theorem dX6_apartIfChanged_31 : decode cX6_apartIfChanged 31 = .ok (.sipush 255, 3) := by decide +kernel
theorem dX6_apartIfChanged_34 : decode cX6_apartIfChanged 34 = .ok (.invokevirtual 187, 3) := by decide +kernel
theorem dX6_apartIfChanged_37 : decode cX6_apartIfChanged 37 = .ok (.istore_n 3, 1) := by decide +kernel
theorem dX6_apartIfChanged_38 : decode cX6_apartIfChanged 38 = .ok (.aload_n 1, 1) := by decide +kernel
theorem dX6_apartIfChanged_39 : decode cX6_apartIfChanged 39 = .ok (.aload_n 2, 1) := by decide +kernel
theorem dX6_apartIfChanged_40 : decode cX6_apartIfChanged 40 = .ok (.invokestatic 317, 3) := by decide +kernel
theorem dX6_apartIfChanged_43 : decode cX6_apartIfChanged 43 = .ok (.aload_n 0, 1) := by decide +kernel
theorem dX6_apartIfChanged_44 : decode cX6_apartIfChanged 44 = .ok (.invokevirtual 311, 3) := by decide +kernel
theorem dX6_apartIfChanged_47 : decode cX6_apartIfChanged 47 = .ok (.iload_n 3, 1) := by decide +kernel
theorem dX6_apartIfChanged_48 : decode cX6_apartIfChanged 48 = .ok (.ireturn, 1) := by decide +kernel
theorem dX6_changePlaces_0 : decode cX6_changePlaces 0 = .ok (.aload_n 0, 1) := by decide +kernel
theorem dX6_changePlaces_1 : decode cX6_changePlaces 1 = .ok (.getfield 143, 3) := by decide +kernel
theorem dX6_changePlaces_4 : decode cX6_changePlaces 4 = .ok (.istore_n 2, 1) := by decide +kernel
theorem dX6_changePlaces_5 : decode cX6_changePlaces 5 = .ok (.aload_n 0, 1) := by decide +kernel
theorem dX6_changePlaces_6 : decode cX6_changePlaces 6 = .ok (.aload_n 1, 1) := by decide +kernel
theorem dX6_changePlaces_7 : decode cX6_changePlaces 7 = .ok (.getfield 143, 3) := by decide +kernel
theorem dX6_changePlaces_10 : decode cX6_changePlaces 10 = .ok (.putfield 143, 3) := by decide +kernel
theorem dX6_changePlaces_13 : decode cX6_changePlaces 13 = .ok (.aload_n 1, 1) := by decide +kernel
theorem dX6_changePlaces_14 : decode cX6_changePlaces 14 = .ok (.iload_n 2, 1) := by decide +kernel
theorem dX6_changePlaces_15 : decode cX6_changePlaces 15 = .ok (.putfield 143, 3) := by decide +kernel
theorem dX6_changePlaces_18 : decode cX6_changePlaces 18 = .ok (.return_, 1) := by decide +kernel
theorem dX6_costOf_0 : decode cX6_costOf 0 = .ok (.aload_n 0, 1) := by decide +kernel
theorem dX6_costOf_1 : decode cX6_costOf 1 = .ok (.invokevirtual 108, 3) := by decide +kernel
theorem dX6_costOf_4 : decode cX6_costOf 4 = .ok (.astore_n 3, 1) := by decide +kernel
theorem dX6_costOf_5 : decode cX6_costOf 5 = .ok (.aload_n 3, 1) := by decide +kernel
theorem dX6_costOf_6 : decode cX6_costOf 6 = .ok (.ifnonnull 5, 3) := by decide +kernel
theorem dX6_costOf_9 : decode cX6_costOf 9 = .ok (.iconst 0, 1) := by decide +kernel
theorem dX6_costOf_10 : decode cX6_costOf 10 = .ok (.ireturn, 1) := by decide +kernel
theorem dX6_costOf_11 : decode cX6_costOf 11 = .ok (.aload_n 2, 1) := by decide +kernel
theorem dX6_costOf_12 : decode cX6_costOf 12 = .ok (.invokevirtual 321, 3) := by decide +kernel
theorem dX6_costOf_15 : decode cX6_costOf 15 = .ok (.istore 4, 2) := by decide +kernel
theorem dX6_costOf_17 : decode cX6_costOf 17 = .ok (.aload_n 0, 1) := by decide +kernel
theorem dX6_costOf_18 : decode cX6_costOf 18 = .ok (.getfield 65, 3) := by decide +kernel
theorem dX6_costOf_21 : decode cX6_costOf 21 = .ok (.aload_n 2, 1) := by decide +kernel
theorem dX6_costOf_22 : decode cX6_costOf 22 = .ok (.iload 4, 2) := by decide +kernel
theorem dX6_costOf_24 : decode cX6_costOf 24 = .ok (.invokevirtual 135, 3) := by decide +kernel
theorem dX6_costOf_27 : decode cX6_costOf 27 = .ok (.iconst 0, 1) := by decide +kernel
theorem dX6_costOf_28 : decode cX6_costOf 28 = .ok (.aload_n 2, 1) := by decide +kernel
theorem dX6_costOf_29 : decode cX6_costOf 29 = .ok (.getfield 149, 3) := by decide +kernel
theorem dX6_costOf_32 : decode cX6_costOf 32 = .ok (.invokestatic 111, 3) := by decide +kernel
theorem dX6_costOf_35 : decode cX6_costOf 35 = .ok (.aload_n 0, 1) := by decide +kernel
theorem dX6_costOf_36 : decode cX6_costOf 36 = .ok (.getfield 65, 3) := by decide +kernel
theorem dX6_costOf_39 : decode cX6_costOf 39 = .ok (.iload 4, 2) := by decide +kernel
theorem dX6_costOf_41 : decode cX6_costOf 41 = .ok (.iconst 0, 1) := by decide +kernel
theorem dX6_costOf_42 : decode cX6_costOf 42 = .ok (.iload_n 1, 1) := by decide +kernel
theorem dX6_costOf_43 : decode cX6_costOf 43 = .ok (.invokestatic 115, 3) := by decide +kernel
theorem dX6_costOf_46 : decode cX6_costOf 46 = .ok (.aload_n 3, 1) := by decide +kernel
theorem dX6_costOf_47 : decode cX6_costOf 47 = .ok (.iconst 2, 1) := by decide +kernel
theorem dX6_costOf_48 : decode cX6_costOf 48 = .ok (.aload_n 0, 1) := by decide +kernel
theorem dX6_costOf_49 : decode cX6_costOf 49 = .ok (.getfield 65, 3) := by decide +kernel
theorem dX6_costOf_52 : decode cX6_costOf 52 = .ok (.invokevirtual 118, 3) := by decide +kernel
theorem dX6_costOf_55 : decode cX6_costOf 55 = .ok (.ireturn, 1) := by decide +kernel
theorem dX6_refusalOfTold_0 : decode cX6_refusalOfTold 0 = .ok (.aload_n 0, 1) := by decide +kernel
theorem dX6_refusalOfTold_1 : decode cX6_refusalOfTold 1 = .ok (.iload_n 1, 1) := by decide +kernel
theorem dX6_refusalOfTold_2 : decode cX6_refusalOfTold 2 = .ok (.invokevirtual 225, 3) := by decide +kernel
theorem dX6_refusalOfTold_5 : decode cX6_refusalOfTold 5 = .ok (.astore_n 2, 1) := by decide +kernel
theorem dX6_refusalOfTold_6 : decode cX6_refusalOfTold 6 = .ok (.aload_n 2, 1) := by decide +kernel
theorem dX6_refusalOfTold_7 : decode cX6_refusalOfTold 7 = .ok (.ifnonnull 6, 3) := by decide +kernel
theorem dX6_refusalOfTold_10 : decode cX6_refusalOfTold 10 = .ok (.bipush (-2), 2) := by decide +kernel
theorem dX6_refusalOfTold_12 : decode cX6_refusalOfTold 12 = .ok (.ireturn, 1) := by decide +kernel
theorem dX6_refusalOfTold_13 : decode cX6_refusalOfTold 13 = .ok (.aload_n 2, 1) := by decide +kernel
theorem dX6_refusalOfTold_14 : decode cX6_refusalOfTold 14 = .ok (.invokevirtual 268, 3) := by decide +kernel
theorem dX6_refusalOfTold_17 : decode cX6_refusalOfTold 17 = .ok (.ifCond .eq 6, 3) := by decide +kernel
theorem dX6_refusalOfTold_20 : decode cX6_refusalOfTold 20 = .ok (.bipush (-11), 2) := by decide +kernel
theorem dX6_refusalOfTold_22 : decode cX6_refusalOfTold 22 = .ok (.ireturn, 1) := by decide +kernel
theorem dX6_refusalOfTold_23 : decode cX6_refusalOfTold 23 = .ok (.aload_n 2, 1) := by decide +kernel
theorem dX6_refusalOfTold_24 : decode cX6_refusalOfTold 24 = .ok (.getfield 324, 3) := by decide +kernel
theorem dX6_refusalOfTold_27 : decode cX6_refusalOfTold 27 = .ok (.aload_n 0, 1) := by decide +kernel
theorem dX6_refusalOfTold_28 : decode cX6_refusalOfTold 28 = .ok (.getfield 88, 3) := by decide +kernel
theorem dX6_refusalOfTold_31 : decode cX6_refusalOfTold 31 = .ok (.if_icmp .ne 7, 3) := by decide +kernel
theorem dX6_refusalOfTold_34 : decode cX6_refusalOfTold 34 = .ok (.iconst 0, 1) := by decide +kernel
theorem dX6_refusalOfTold_35 : decode cX6_refusalOfTold 35 = .ok (.goto 5, 3) := by decide +kernel
theorem dX6_refusalOfTold_38 : decode cX6_refusalOfTold 38 = .ok (.bipush (-2), 2) := by decide +kernel
theorem dX6_refusalOfTold_40 : decode cX6_refusalOfTold 40 = .ok (.ireturn, 1) := by decide +kernel
theorem dX6_firstOtherwise_0 : decode cX6_firstOtherwise 0 = .ok (.aload_n 0, 1) := by decide +kernel
theorem dX6_firstOtherwise_1 : decode cX6_firstOtherwise 1 = .ok (.iload_n 1, 1) := by decide +kernel
theorem dX6_firstOtherwise_2 : decode cX6_firstOtherwise 2 = .ok (.invokevirtual 225, 3) := by decide +kernel
theorem dX6_firstOtherwise_5 : decode cX6_firstOtherwise 5 = .ok (.astore_n 3, 1) := by decide +kernel
theorem dX6_firstOtherwise_6 : decode cX6_firstOtherwise 6 = .ok (.aload_n 3, 1) := by decide +kernel
theorem dX6_firstOtherwise_7 : decode cX6_firstOtherwise 7 = .ok (.ifnull 10, 3) := by decide +kernel
theorem dX6_firstOtherwise_10 : decode cX6_firstOtherwise 10 = .ok (.iload_n 2, 1) := by decide +kernel
theorem dX6_firstOtherwise_11 : decode cX6_firstOtherwise 11 = .ok (.invokestatic 161, 3) := by decide +kernel
theorem dX6_firstOtherwise_14 : decode cX6_firstOtherwise 14 = .ok (.ifCond .ne 5, 3) := by decide +kernel
theorem dX6_firstOtherwise_17 : decode cX6_firstOtherwise 17 = .ok (.iconst (-1), 1) := by decide +kernel
theorem dX6_firstOtherwise_18 : decode cX6_firstOtherwise 18 = .ok (.ireturn, 1) := by decide +kernel
theorem dX6_firstOtherwise_19 : decode cX6_firstOtherwise 19 = .ok (.iconst 0, 1) := by decide +kernel
theorem dX6_firstOtherwise_20 : decode cX6_firstOtherwise 20 = .ok (.istore 4, 2) := by decide +kernel
theorem dX6_firstOtherwise_22 : decode cX6_firstOtherwise 22 = .ok (.iload 4, 2) := by decide +kernel
theorem dX6_firstOtherwise_24 : decode cX6_firstOtherwise 24 = .ok (.aload_n 0, 1) := by decide +kernel
theorem dX6_firstOtherwise_25 : decode cX6_firstOtherwise 25 = .ok (.getfield 88, 3) := by decide +kernel
theorem dX6_firstOtherwise_28 : decode cX6_firstOtherwise 28 = .ok (.if_icmp .ge 32, 3) := by decide +kernel
theorem dX6_firstOtherwise_31 : decode cX6_firstOtherwise 31 = .ok (.aload_n 3, 1) := by decide +kernel
theorem dX6_firstOtherwise_32 : decode cX6_firstOtherwise 32 = .ok (.iload 4, 2) := by decide +kernel
theorem dX6_firstOtherwise_34 : decode cX6_firstOtherwise 34 = .ok (.invokevirtual 285, 3) := by decide +kernel
theorem dX6_firstOtherwise_37 : decode cX6_firstOtherwise 37 = .ok (.aload_n 0, 1) := by decide +kernel
theorem dX6_firstOtherwise_38 : decode cX6_firstOtherwise 38 = .ok (.getfield 59, 3) := by decide +kernel
theorem dX6_firstOtherwise_41 : decode cX6_firstOtherwise 41 = .ok (.iload_n 2, 1) := by decide +kernel
theorem dX6_firstOtherwise_42 : decode cX6_firstOtherwise 42 = .ok (.iaload, 1) := by decide +kernel
theorem dX6_firstOtherwise_43 : decode cX6_firstOtherwise 43 = .ok (.iload 4, 2) := by decide +kernel
theorem dX6_firstOtherwise_45 : decode cX6_firstOtherwise 45 = .ok (.ishr, 1) := by decide +kernel
theorem dX6_firstOtherwise_46 : decode cX6_firstOtherwise 46 = .ok (.iconst 1, 1) := by decide +kernel
theorem dX6_firstOtherwise_47 : decode cX6_firstOtherwise 47 = .ok (.iand, 1) := by decide +kernel
theorem dX6_firstOtherwise_48 : decode cX6_firstOtherwise 48 = .ok (.if_icmp .eq 6, 3) := by decide +kernel
theorem dX6_firstOtherwise_51 : decode cX6_firstOtherwise 51 = .ok (.iload 4, 2) := by decide +kernel
theorem dX6_firstOtherwise_53 : decode cX6_firstOtherwise 53 = .ok (.ireturn, 1) := by decide +kernel
theorem dX6_firstOtherwise_54 : decode cX6_firstOtherwise 54 = .ok (.iinc 4 1, 3) := by decide +kernel
theorem dX6_firstOtherwise_57 : decode cX6_firstOtherwise 57 = .ok (.goto (-35), 3) := by decide +kernel
theorem dX6_firstOtherwise_60 : decode cX6_firstOtherwise 60 = .ok (.iconst (-1), 1) := by decide +kernel
theorem dX6_firstOtherwise_61 : decode cX6_firstOtherwise 61 = .ok (.ireturn, 1) := by decide +kernel
theorem dX6_winnerBy_0 : decode cX6_winnerBy 0 = .ok (.aload_n 0, 1) := by decide +kernel
theorem dX6_winnerBy_1 : decode cX6_winnerBy 1 = .ok (.aload_n 0, 1) := by decide +kernel
theorem dX6_winnerBy_2 : decode cX6_winnerBy 2 = .ok (.getfield 62, 3) := by decide +kernel
theorem dX6_winnerBy_5 : decode cX6_winnerBy 5 = .ok (.invokevirtual 245, 3) := by decide +kernel
theorem dX6_winnerBy_8 : decode cX6_winnerBy 8 = .ok (.iload_n 1, 1) := by decide +kernel
theorem dX6_winnerBy_9 : decode cX6_winnerBy 9 = .ok (.i2l, 1) := by decide +kernel
theorem dX6_winnerBy_10 : decode cX6_winnerBy 10 = .ok (.lconst 1, 1) := by decide +kernel
theorem dX6_winnerBy_11 : decode cX6_winnerBy 11 = .ok (.ladd, 1) := by decide +kernel
theorem dX6_winnerBy_12 : decode cX6_winnerBy 12 = .ok (.lstore_n 2, 1) := by decide +kernel
theorem dX6_winnerBy_13 : decode cX6_winnerBy 13 = .ok (.iconst 0, 1) := by decide +kernel
theorem dX6_winnerBy_14 : decode cX6_winnerBy 14 = .ok (.istore 4, 2) := by decide +kernel
theorem dX6_winnerBy_16 : decode cX6_winnerBy 16 = .ok (.iload 4, 2) := by decide +kernel
theorem dX6_winnerBy_18 : decode cX6_winnerBy 18 = .ok (.aload_n 0, 1) := by decide +kernel
theorem dX6_winnerBy_19 : decode cX6_winnerBy 19 = .ok (.getfield 85, 3) := by decide +kernel
theorem dX6_winnerBy_22 : decode cX6_winnerBy 22 = .ok (.if_icmp .ge 74, 3) := by decide +kernel
theorem dX6_winnerBy_25 : decode cX6_winnerBy 25 = .ok (.aload_n 0, 1) := by decide +kernel
theorem dX6_winnerBy_26 : decode cX6_winnerBy 26 = .ok (.iload 4, 2) := by decide +kernel
theorem dX6_winnerBy_28 : decode cX6_winnerBy 28 = .ok (.invokevirtual 128, 3) := by decide +kernel
theorem dX6_winnerBy_31 : decode cX6_winnerBy 31 = .ok (.astore 5, 2) := by decide +kernel
theorem dX6_winnerBy_33 : decode cX6_winnerBy 33 = .ok (.iconst 0, 1) := by decide +kernel
theorem dX6_winnerBy_34 : decode cX6_winnerBy 34 = .ok (.istore 6, 2) := by decide +kernel
theorem dX6_winnerBy_36 : decode cX6_winnerBy 36 = .ok (.iload 6, 2) := by decide +kernel
theorem dX6_winnerBy_38 : decode cX6_winnerBy 38 = .ok (.iconst 4, 1) := by decide +kernel
theorem dX6_winnerBy_39 : decode cX6_winnerBy 39 = .ok (.if_icmp .ge 51, 3) := by decide +kernel
theorem dX6_winnerBy_42 : decode cX6_winnerBy 42 = .ok (.lload_n 2, 1) := by decide +kernel
theorem dX6_winnerBy_43 : decode cX6_winnerBy 43 = .ok (.ldc2_w 325, 3) := by decide +kernel
theorem dX6_winnerBy_46 : decode cX6_winnerBy 46 = .ok (.lmul, 1) := by decide +kernel
theorem dX6_winnerBy_47 : decode cX6_winnerBy 47 = .ok (.ldc2_w 327, 3) := by decide +kernel
theorem dX6_winnerBy_50 : decode cX6_winnerBy 50 = .ok (.lrem, 1) := by decide +kernel
theorem dX6_winnerBy_51 : decode cX6_winnerBy 51 = .ok (.lstore_n 2, 1) := by decide +kernel
theorem dX6_winnerBy_52 : decode cX6_winnerBy 52 = .ok (.lload_n 2, 1) := by decide +kernel
theorem dX6_winnerBy_53 : decode cX6_winnerBy 53 = .ok (.ldc2_w 329, 3) := by decide +kernel
theorem dX6_winnerBy_56 : decode cX6_winnerBy 56 = .ok (.lrem, 1) := by decide +kernel
theorem dX6_winnerBy_57 : decode cX6_winnerBy 57 = .ok (.l2i, 1) := by decide +kernel
theorem dX6_winnerBy_58 : decode cX6_winnerBy 58 = .ok (.iconst 1, 1) := by decide +kernel
theorem dX6_winnerBy_59 : decode cX6_winnerBy 59 = .ok (.isub, 1) := by decide +kernel
theorem dX6_winnerBy_60 : decode cX6_winnerBy 60 = .ok (.istore 7, 2) := by decide +kernel
theorem dX6_winnerBy_62 : decode cX6_winnerBy 62 = .ok (.aload 5, 2) := by decide +kernel
theorem dX6_winnerBy_64 : decode cX6_winnerBy 64 = .ok (.ifnull 20, 3) := by decide +kernel
theorem dX6_winnerBy_67 : decode cX6_winnerBy 67 = .ok (.aload 5, 2) := by decide +kernel
theorem dX6_winnerBy_69 : decode cX6_winnerBy 69 = .ok (.iload 6, 2) := by decide +kernel
theorem dX6_winnerBy_71 : decode cX6_winnerBy 71 = .ok (.aload 5, 2) := by decide +kernel
theorem dX6_winnerBy_73 : decode cX6_winnerBy 73 = .ok (.iload 6, 2) := by decide +kernel
theorem dX6_winnerBy_75 : decode cX6_winnerBy 75 = .ok (.invokevirtual 135, 3) := by decide +kernel
theorem dX6_winnerBy_78 : decode cX6_winnerBy 78 = .ok (.iload 7, 2) := by decide +kernel
theorem dX6_winnerBy_80 : decode cX6_winnerBy 80 = .ok (.iadd, 1) := by decide +kernel
theorem dX6_winnerBy_81 : decode cX6_winnerBy 81 = .ok (.invokevirtual 139, 3) := by decide +kernel
theorem dX6_winnerBy_84 : decode cX6_winnerBy 84 = .ok (.iinc 6 1, 3) := by decide +kernel
theorem dX6_winnerBy_87 : decode cX6_winnerBy 87 = .ok (.goto (-51), 3) := by decide +kernel
theorem dX6_winnerBy_90 : decode cX6_winnerBy 90 = .ok (.iinc 4 1, 3) := by decide +kernel
theorem dX6_winnerBy_93 : decode cX6_winnerBy 93 = .ok (.goto (-77), 3) := by decide +kernel
theorem dX6_winnerBy_96 : decode cX6_winnerBy 96 = .ok (.aload_n 0, 1) := by decide +kernel
theorem dX6_winnerBy_97 : decode cX6_winnerBy 97 = .ok (.invokevirtual 164, 3) := by decide +kernel
theorem dX6_winnerBy_100 : decode cX6_winnerBy 100 = .ok (.aload_n 0, 1) := by decide +kernel
theorem dX6_winnerBy_101 : decode cX6_winnerBy 101 = .ok (.invokevirtual 183, 3) := by decide +kernel
theorem dX6_winnerBy_104 : decode cX6_winnerBy 104 = .ok (.istore 4, 2) := by decide +kernel
theorem dX6_winnerBy_106 : decode cX6_winnerBy 106 = .ok (.aload_n 0, 1) := by decide +kernel
theorem dX6_winnerBy_107 : decode cX6_winnerBy 107 = .ok (.aload_n 0, 1) := by decide +kernel
theorem dX6_winnerBy_108 : decode cX6_winnerBy 108 = .ok (.getfield 62, 3) := by decide +kernel
theorem dX6_winnerBy_111 : decode cX6_winnerBy 111 = .ok (.invokevirtual 265, 3) := by decide +kernel
theorem dX6_winnerBy_114 : decode cX6_winnerBy 114 = .ok (.iload 4, 2) := by decide +kernel
theorem dX6_winnerBy_116 : decode cX6_winnerBy 116 = .ok (.ireturn, 1) := by decide +kernel
theorem dX6_keepDepths_0 : decode cX6_keepDepths 0 = .ok (.iconst 0, 1) := by decide +kernel
theorem dX6_keepDepths_1 : decode cX6_keepDepths 1 = .ok (.istore_n 2, 1) := by decide +kernel
theorem dX6_keepDepths_2 : decode cX6_keepDepths 2 = .ok (.iload_n 2, 1) := by decide +kernel
theorem dX6_keepDepths_3 : decode cX6_keepDepths 3 = .ok (.bipush 28, 2) := by decide +kernel
theorem dX6_keepDepths_5 : decode cX6_keepDepths 5 = .ok (.if_icmp .ge 37, 3) := by decide +kernel
theorem dX6_keepDepths_8 : decode cX6_keepDepths 8 = .ok (.iload_n 2, 1) := by decide +kernel
theorem dX6_keepDepths_9 : decode cX6_keepDepths 9 = .ok (.aload_n 1, 1) := by decide +kernel
theorem dX6_keepDepths_10 : decode cX6_keepDepths 10 = .ok (.arraylength, 1) := by decide +kernel
theorem dX6_keepDepths_11 : decode cX6_keepDepths 11 = .ok (.if_icmp .ge 31, 3) := by decide +kernel
theorem dX6_keepDepths_14 : decode cX6_keepDepths 14 = .ok (.aload_n 0, 1) := by decide +kernel
theorem dX6_keepDepths_15 : decode cX6_keepDepths 15 = .ok (.iload_n 2, 1) := by decide +kernel
theorem dX6_keepDepths_16 : decode cX6_keepDepths 16 = .ok (.iconst 4, 1) := by decide +kernel
theorem dX6_keepDepths_17 : decode cX6_keepDepths 17 = .ok (.idiv, 1) := by decide +kernel
theorem dX6_keepDepths_18 : decode cX6_keepDepths 18 = .ok (.invokevirtual 128, 3) := by decide +kernel
theorem dX6_keepDepths_21 : decode cX6_keepDepths 21 = .ok (.astore_n 3, 1) := by decide +kernel
theorem dX6_keepDepths_22 : decode cX6_keepDepths 22 = .ok (.aload_n 3, 1) := by decide +kernel
theorem dX6_keepDepths_23 : decode cX6_keepDepths 23 = .ok (.ifnull 13, 3) := by decide +kernel
theorem dX6_keepDepths_26 : decode cX6_keepDepths 26 = .ok (.aload_n 1, 1) := by decide +kernel
theorem dX6_keepDepths_27 : decode cX6_keepDepths 27 = .ok (.iload_n 2, 1) := by decide +kernel
theorem dX6_keepDepths_28 : decode cX6_keepDepths 28 = .ok (.aload_n 3, 1) := by decide +kernel
theorem dX6_keepDepths_29 : decode cX6_keepDepths 29 = .ok (.iload_n 2, 1) := by decide +kernel
theorem dX6_keepDepths_30 : decode cX6_keepDepths 30 = .ok (.iconst 4, 1) := by decide +kernel
theorem dX6_keepDepths_31 : decode cX6_keepDepths 31 = .ok (.irem, 1) := by decide +kernel
theorem dX6_keepDepths_32 : decode cX6_keepDepths 32 = .ok (.invokevirtual 135, 3) := by decide +kernel
theorem dX6_keepDepths_35 : decode cX6_keepDepths 35 = .ok (.iastore, 1) := by decide +kernel
theorem dX6_keepDepths_36 : decode cX6_keepDepths 36 = .ok (.iinc 2 1, 3) := by decide +kernel
theorem dX6_keepDepths_39 : decode cX6_keepDepths 39 = .ok (.goto (-37), 3) := by decide +kernel
theorem dX6_keepDepths_42 : decode cX6_keepDepths 42 = .ok (.return_, 1) := by decide +kernel
theorem dX6_giveDepths_0 : decode cX6_giveDepths 0 = .ok (.iconst 0, 1) := by decide +kernel
theorem dX6_giveDepths_1 : decode cX6_giveDepths 1 = .ok (.istore_n 2, 1) := by decide +kernel
theorem dX6_giveDepths_2 : decode cX6_giveDepths 2 = .ok (.iload_n 2, 1) := by decide +kernel
theorem dX6_giveDepths_3 : decode cX6_giveDepths 3 = .ok (.bipush 28, 2) := by decide +kernel
theorem dX6_giveDepths_5 : decode cX6_giveDepths 5 = .ok (.if_icmp .ge 37, 3) := by decide +kernel
theorem dX6_giveDepths_8 : decode cX6_giveDepths 8 = .ok (.iload_n 2, 1) := by decide +kernel
theorem dX6_giveDepths_9 : decode cX6_giveDepths 9 = .ok (.aload_n 1, 1) := by decide +kernel
theorem dX6_giveDepths_10 : decode cX6_giveDepths 10 = .ok (.arraylength, 1) := by decide +kernel
theorem dX6_giveDepths_11 : decode cX6_giveDepths 11 = .ok (.if_icmp .ge 31, 3) := by decide +kernel
theorem dX6_giveDepths_14 : decode cX6_giveDepths 14 = .ok (.aload_n 0, 1) := by decide +kernel
theorem dX6_giveDepths_15 : decode cX6_giveDepths 15 = .ok (.iload_n 2, 1) := by decide +kernel
theorem dX6_giveDepths_16 : decode cX6_giveDepths 16 = .ok (.iconst 4, 1) := by decide +kernel
theorem dX6_giveDepths_17 : decode cX6_giveDepths 17 = .ok (.idiv, 1) := by decide +kernel
theorem dX6_giveDepths_18 : decode cX6_giveDepths 18 = .ok (.invokevirtual 128, 3) := by decide +kernel
theorem dX6_giveDepths_21 : decode cX6_giveDepths 21 = .ok (.astore_n 3, 1) := by decide +kernel
theorem dX6_giveDepths_22 : decode cX6_giveDepths 22 = .ok (.aload_n 3, 1) := by decide +kernel
theorem dX6_giveDepths_23 : decode cX6_giveDepths 23 = .ok (.ifnull 13, 3) := by decide +kernel
theorem dX6_giveDepths_26 : decode cX6_giveDepths 26 = .ok (.aload_n 3, 1) := by decide +kernel
theorem dX6_giveDepths_27 : decode cX6_giveDepths 27 = .ok (.iload_n 2, 1) := by decide +kernel
theorem dX6_giveDepths_28 : decode cX6_giveDepths 28 = .ok (.iconst 4, 1) := by decide +kernel
theorem dX6_giveDepths_29 : decode cX6_giveDepths 29 = .ok (.irem, 1) := by decide +kernel
theorem dX6_giveDepths_30 : decode cX6_giveDepths 30 = .ok (.aload_n 1, 1) := by decide +kernel
theorem dX6_giveDepths_31 : decode cX6_giveDepths 31 = .ok (.iload_n 2, 1) := by decide +kernel
theorem dX6_giveDepths_32 : decode cX6_giveDepths 32 = .ok (.iaload, 1) := by decide +kernel
theorem dX6_giveDepths_33 : decode cX6_giveDepths 33 = .ok (.invokevirtual 139, 3) := by decide +kernel
theorem dX6_giveDepths_36 : decode cX6_giveDepths 36 = .ok (.iinc 2 1, 3) := by decide +kernel
theorem dX6_giveDepths_39 : decode cX6_giveDepths 39 = .ok (.goto (-37), 3) := by decide +kernel
theorem dX6_giveDepths_42 : decode cX6_giveDepths 42 = .ok (.return_, 1) := by decide +kernel
