theorem dX7_knows_88 : decode cX7_knows 88 = .ok (.iload_n 3, 1) := by decide +kernel
theorem dX7_knows_89 : decode cX7_knows 89 = .ok (.iconst 5, 1) := by decide +kernel
theorem dX7_knows_90 : decode cX7_knows 90 = .ok (.if_icmp .ne 18, 3) := by decide +kernel
theorem dX7_knows_93 : decode cX7_knows 93 = .ok (.iload_n 2, 1) := by decide +kernel
theorem dX7_knows_94 : decode cX7_knows 94 = .ok (.aload_n 0, 1) := by decide +kernel
theorem dX7_knows_95 : decode cX7_knows 95 = .ok (.getfield 16, 3) := by decide +kernel
theorem dX7_knows_98 : decode cX7_knows 98 = .ok (.iload_n 1, 1) := by decide +kernel
theorem dX7_knows_99 : decode cX7_knows 99 = .ok (.iaload, 1) := by decide +kernel
theorem dX7_knows_100 : decode cX7_knows 100 = .ok (.if_icmp .lt 8, 3) := by decide +kernel
theorem dX7_knows_103 : decode cX7_knows 103 = .ok (.bipush 9, 2) := by decide +kernel
theorem dX7_knows_105 : decode cX7_knows 105 = .ok (.goto 5, 3) := by decide +kernel
theorem dX7_knows_108 : decode cX7_knows 108 = .ok (.iload 5, 2) := by decide +kernel
theorem dX7_knows_110 : decode cX7_knows 110 = .ok (.istore 7, 2) := by decide +kernel
theorem dX7_knows_112 : decode cX7_knows 112 = .ok (.iload 7, 2) := by decide +kernel
theorem dX7_knows_114 : decode cX7_knows 114 = .ok (.iconst 0, 1) := by decide +kernel
theorem dX7_knows_115 : decode cX7_knows 115 = .ok (.bipush 9, 2) := by decide +kernel
theorem dX7_knows_117 : decode cX7_knows 117 = .ok (.invokestatic 170, 3) := by decide +kernel
theorem dX7_knows_120 : decode cX7_knows 120 = .ok (.ireturn, 1) := by decide +kernel
theorem dX7_loudOf_0 : decode cX7_loudOf 0 = .ok (.aload_n 0, 1) := by decide +kernel
theorem dX7_loudOf_1 : decode cX7_loudOf 1 = .ok (.getfield 7, 3) := by decide +kernel
theorem dX7_loudOf_4 : decode cX7_loudOf 4 = .ok (.iload_n 1, 1) := by decide +kernel
theorem dX7_loudOf_5 : decode cX7_loudOf 5 = .ok (.iaload, 1) := by decide +kernel
theorem dX7_loudOf_6 : decode cX7_loudOf 6 = .ok (.istore_n 3, 1) := by decide +kernel
theorem dX7_loudOf_7 : decode cX7_loudOf 7 = .ok (.aload_n 0, 1) := by decide +kernel
theorem dX7_loudOf_8 : decode cX7_loudOf 8 = .ok (.getfield 13, 3) := by decide +kernel
theorem dX7_loudOf_11 : decode cX7_loudOf 11 = .ok (.iload_n 1, 1) := by decide +kernel
theorem dX7_loudOf_12 : decode cX7_loudOf 12 = .ok (.iaload, 1) := by decide +kernel
theorem dX7_loudOf_13 : decode cX7_loudOf 13 = .ok (.iconst 3, 1) := by decide +kernel
theorem dX7_loudOf_14 : decode cX7_loudOf 14 = .ok (.idiv, 1) := by decide +kernel
theorem dX7_loudOf_15 : decode cX7_loudOf 15 = .ok (.istore 4, 2) := by decide +kernel
theorem dX7_loudOf_17 : decode cX7_loudOf 17 = .ok (.iload_n 3, 1) := by decide +kernel
theorem dX7_loudOf_18 : decode cX7_loudOf 18 = .ok (.iconst 2, 1) := by decide +kernel
theorem dX7_loudOf_19 : decode cX7_loudOf 19 = .ok (.if_icmp .ne 8, 3) := by decide +kernel
theorem dX7_loudOf_22 : decode cX7_loudOf 22 = .ok (.iload 4, 2) := by decide +kernel
theorem dX7_loudOf_24 : decode cX7_loudOf 24 = .ok (.goto 53, 3) := by decide +kernel
theorem dX7_loudOf_27 : decode cX7_loudOf 27 = .ok (.iload_n 3, 1) := by decide +kernel
theorem dX7_loudOf_28 : decode cX7_loudOf 28 = .ok (.iconst 3, 1) := by decide +kernel
theorem dX7_loudOf_29 : decode cX7_loudOf 29 = .ok (.if_icmp .ne 16, 3) := by decide +kernel
theorem dX7_loudOf_32 : decode cX7_loudOf 32 = .ok (.iconst 2, 1) := by decide +kernel
theorem dX7_loudOf_33 : decode cX7_loudOf 33 = .ok (.aload_n 0, 1) := by decide +kernel
theorem dX7_loudOf_34 : decode cX7_loudOf 34 = .ok (.getfield 13, 3) := by decide +kernel
theorem dX7_loudOf_37 : decode cX7_loudOf 37 = .ok (.iload_n 1, 1) := by decide +kernel
theorem dX7_loudOf_38 : decode cX7_loudOf 38 = .ok (.iaload, 1) := by decide +kernel
theorem dX7_loudOf_39 : decode cX7_loudOf 39 = .ok (.imul, 1) := by decide +kernel
theorem dX7_loudOf_40 : decode cX7_loudOf 40 = .ok (.iconst 5, 1) := by decide +kernel
theorem dX7_loudOf_41 : decode cX7_loudOf 41 = .ok (.iadd, 1) := by decide +kernel
theorem dX7_loudOf_42 : decode cX7_loudOf 42 = .ok (.goto 35, 3) := by decide +kernel
theorem dX7_loudOf_45 : decode cX7_loudOf 45 = .ok (.iload_n 3, 1) := by decide +kernel
theorem dX7_loudOf_46 : decode cX7_loudOf 46 = .ok (.iconst 4, 1) := by decide +kernel
theorem dX7_loudOf_47 : decode cX7_loudOf 47 = .ok (.if_icmp .ne 24, 3) := by decide +kernel
theorem dX7_loudOf_50 : decode cX7_loudOf 50 = .ok (.iload_n 2, 1) := by decide +kernel
theorem dX7_loudOf_51 : decode cX7_loudOf 51 = .ok (.aload_n 0, 1) := by decide +kernel
theorem dX7_loudOf_52 : decode cX7_loudOf 52 = .ok (.getfield 16, 3) := by decide +kernel
theorem dX7_loudOf_55 : decode cX7_loudOf 55 = .ok (.iload_n 1, 1) := by decide +kernel
theorem dX7_loudOf_56 : decode cX7_loudOf 56 = .ok (.iaload, 1) := by decide +kernel
theorem dX7_loudOf_57 : decode cX7_loudOf 57 = .ok (.iconst 4, 1) := by decide +kernel
theorem dX7_loudOf_58 : decode cX7_loudOf 58 = .ok (.irem, 1) := by decide +kernel
theorem dX7_loudOf_59 : decode cX7_loudOf 59 = .ok (.if_icmp .ne 8, 3) := by decide +kernel
theorem dX7_loudOf_62 : decode cX7_loudOf 62 = .ok (.iload 4, 2) := by decide +kernel
theorem dX7_loudOf_64 : decode cX7_loudOf 64 = .ok (.goto 13, 3) := by decide +kernel
theorem dX7_loudOf_67 : decode cX7_loudOf 67 = .ok (.iconst 0, 1) := by decide +kernel
theorem dX7_loudOf_68 : decode cX7_loudOf 68 = .ok (.goto 9, 3) := by decide +kernel
theorem dX7_loudOf_71 : decode cX7_loudOf 71 = .ok (.aload_n 0, 1) := by decide +kernel
theorem dX7_loudOf_72 : decode cX7_loudOf 72 = .ok (.getfield 13, 3) := by decide +kernel
theorem dX7_loudOf_75 : decode cX7_loudOf 75 = .ok (.iload_n 1, 1) := by decide +kernel
theorem dX7_loudOf_76 : decode cX7_loudOf 76 = .ok (.iaload, 1) := by decide +kernel
theorem dX7_loudOf_77 : decode cX7_loudOf 77 = .ok (.ireturn, 1) := by decide +kernel
theorem dX7_weight_0 : decode cX7_weight 0 = .ok (.aload_n 0, 1) := by decide +kernel
theorem dX7_weight_1 : decode cX7_weight 1 = .ok (.iconst 0, 1) := by decide +kernel
theorem dX7_weight_2 : decode cX7_weight 2 = .ok (.aload_n 0, 1) := by decide +kernel
theorem dX7_weight_3 : decode cX7_weight 3 = .ok (.iload_n 1, 1) := by decide +kernel
theorem dX7_weight_4 : decode cX7_weight 4 = .ok (.iload_n 2, 1) := by decide +kernel
theorem dX7_weight_5 : decode cX7_weight 5 = .ok (.invokevirtual 186, 3) := by decide +kernel
theorem dX7_weight_8 : decode cX7_weight 8 = .ok (.aload_n 0, 1) := by decide +kernel
theorem dX7_weight_9 : decode cX7_weight 9 = .ok (.getfield 28, 3) := by decide +kernel
theorem dX7_weight_12 : decode cX7_weight 12 = .ok (.iload_n 2, 1) := by decide +kernel
theorem dX7_weight_13 : decode cX7_weight 13 = .ok (.iaload, 1) := by decide +kernel
theorem dX7_weight_14 : decode cX7_weight 14 = .ok (.aload_n 0, 1) := by decide +kernel
theorem dX7_weight_15 : decode cX7_weight 15 = .ok (.iload_n 1, 1) := by decide +kernel
theorem dX7_weight_16 : decode cX7_weight 16 = .ok (.aload_n 0, 1) := by decide +kernel
theorem dX7_weight_17 : decode cX7_weight 17 = .ok (.getfield 25, 3) := by decide +kernel
theorem dX7_weight_20 : decode cX7_weight 20 = .ok (.iload_n 2, 1) := by decide +kernel
theorem dX7_weight_21 : decode cX7_weight 21 = .ok (.iaload, 1) := by decide +kernel
theorem dX7_weight_22 : decode cX7_weight 22 = .ok (.invokevirtual 189, 3) := by decide +kernel
theorem dX7_weight_25 : decode cX7_weight 25 = .ok (.aload_n 0, 1) := by decide +kernel
theorem dX7_weight_26 : decode cX7_weight 26 = .ok (.getfield 25, 3) := by decide +kernel
theorem dX7_weight_29 : decode cX7_weight 29 = .ok (.iload_n 2, 1) := by decide +kernel
theorem dX7_weight_30 : decode cX7_weight 30 = .ok (.iaload, 1) := by decide +kernel
theorem dX7_weight_31 : decode cX7_weight 31 = .ok (.iload_n 2, 1) := by decide +kernel
theorem dX7_weight_32 : decode cX7_weight 32 = .ok (.iload_n 1, 1) := by decide +kernel
theorem dX7_weight_33 : decode cX7_weight 33 = .ok (.invokevirtual 173, 3) := by decide +kernel
theorem dX7_weight_36 : decode cX7_weight 36 = .ok (.ireturn, 1) := by decide +kernel
theorem dX7_canAnswer_0 : decode cX7_canAnswer 0 = .ok (.aload_n 0, 1) := by decide +kernel
theorem dX7_canAnswer_1 : decode cX7_canAnswer 1 = .ok (.iload_n 1, 1) := by decide +kernel
theorem dX7_canAnswer_2 : decode cX7_canAnswer 2 = .ok (.iload_n 2, 1) := by decide +kernel
theorem dX7_canAnswer_3 : decode cX7_canAnswer 3 = .ok (.invokevirtual 186, 3) := by decide +kernel
theorem dX7_canAnswer_6 : decode cX7_canAnswer 6 = .ok (.aload_n 0, 1) := by decide +kernel
theorem dX7_canAnswer_7 : decode cX7_canAnswer 7 = .ok (.getfield 28, 3) := by decide +kernel
theorem dX7_canAnswer_10 : decode cX7_canAnswer 10 = .ok (.iload_n 2, 1) := by decide +kernel
theorem dX7_canAnswer_11 : decode cX7_canAnswer 11 = .ok (.iaload, 1) := by decide +kernel
theorem dX7_canAnswer_12 : decode cX7_canAnswer 12 = .ok (.if_icmp .lt 7, 3) := by decide +kernel
theorem dX7_canAnswer_15 : decode cX7_canAnswer 15 = .ok (.iconst 1, 1) := by decide +kernel
theorem dX7_canAnswer_16 : decode cX7_canAnswer 16 = .ok (.goto 4, 3) := by decide +kernel
theorem dX7_canAnswer_19 : decode cX7_canAnswer 19 = .ok (.iconst 0, 1) := by decide +kernel
theorem dX7_canAnswer_20 : decode cX7_canAnswer 20 = .ok (.ireturn, 1) := by decide +kernel
theorem dX7_believed_0 : decode cX7_believed 0 = .ok (.iconst (-1), 1) := by decide +kernel
theorem dX7_believed_1 : decode cX7_believed 1 = .ok (.istore_n 3, 1) := by decide +kernel
theorem dX7_believed_2 : decode cX7_believed 2 = .ok (.iconst 0, 1) := by decide +kernel
theorem dX7_believed_3 : decode cX7_believed 3 = .ok (.istore 4, 2) := by decide +kernel
theorem dX7_believed_5 : decode cX7_believed 5 = .ok (.iconst 0, 1) := by decide +kernel
theorem dX7_believed_6 : decode cX7_believed 6 = .ok (.istore 5, 2) := by decide +kernel
theorem dX7_believed_8 : decode cX7_believed 8 = .ok (.iload 5, 2) := by decide +kernel
theorem dX7_believed_10 : decode cX7_believed 10 = .ok (.aload_n 0, 1) := by decide +kernel
theorem dX7_believed_11 : decode cX7_believed 11 = .ok (.getfield 87, 3) := by decide +kernel
theorem dX7_believed_14 : decode cX7_believed 14 = .ok (.if_icmp .ge 74, 3) := by decide +kernel
theorem dX7_believed_17 : decode cX7_believed 17 = .ok (.aload_n 0, 1) := by decide +kernel
theorem dX7_believed_18 : decode cX7_believed 18 = .ok (.getfield 19, 3) := by decide +kernel
theorem dX7_believed_21 : decode cX7_believed 21 = .ok (.iload 5, 2) := by decide +kernel
theorem dX7_believed_23 : decode cX7_believed 23 = .ok (.iaload, 1) := by decide +kernel
theorem dX7_believed_24 : decode cX7_believed 24 = .ok (.iload_n 1, 1) := by decide +kernel
theorem dX7_believed_25 : decode cX7_believed 25 = .ok (.if_icmp .ne 57, 3) := by decide +kernel
theorem dX7_believed_28 : decode cX7_believed 28 = .ok (.aload_n 0, 1) := by decide +kernel
theorem dX7_believed_29 : decode cX7_believed 29 = .ok (.iload 5, 2) := by decide +kernel
theorem dX7_believed_31 : decode cX7_believed 31 = .ok (.iload_n 2, 1) := by decide +kernel
theorem dX7_believed_32 : decode cX7_believed 32 = .ok (.invokevirtual 192, 3) := by decide +kernel
theorem dX7_believed_35 : decode cX7_believed 35 = .ok (.istore 6, 2) := by decide +kernel
theorem dX7_believed_37 : decode cX7_believed 37 = .ok (.iload_n 3, 1) := by decide +kernel
theorem dX7_believed_38 : decode cX7_believed 38 = .ok (.iconst (-1), 1) := by decide +kernel
theorem dX7_believed_39 : decode cX7_believed 39 = .ok (.if_icmp .eq 10, 3) := by decide +kernel
theorem dX7_believed_42 : decode cX7_believed 42 = .ok (.iload 6, 2) := by decide +kernel
theorem dX7_believed_44 : decode cX7_believed 44 = .ok (.iload 4, 2) := by decide +kernel
theorem dX7_believed_46 : decode cX7_believed 46 = .ok (.if_icmp .le 7, 3) := by decide +kernel
theorem dX7_believed_49 : decode cX7_believed 49 = .ok (.iconst 1, 1) := by decide +kernel
theorem dX7_believed_50 : decode cX7_believed 50 = .ok (.goto 4, 3) := by decide +kernel
theorem dX7_believed_53 : decode cX7_believed 53 = .ok (.iconst 0, 1) := by decide +kernel
theorem dX7_believed_54 : decode cX7_believed 54 = .ok (.istore 7, 2) := by decide +kernel
theorem dX7_believed_56 : decode cX7_believed 56 = .ok (.iload 7, 2) := by decide +kernel
theorem dX7_believed_58 : decode cX7_believed 58 = .ok (.ifCond .eq 8, 3) := by decide +kernel
theorem dX7_believed_61 : decode cX7_believed 61 = .ok (.iload 5, 2) := by decide +kernel
theorem dX7_believed_63 : decode cX7_believed 63 = .ok (.goto 4, 3) := by decide +kernel
theorem dX7_believed_66 : decode cX7_believed 66 = .ok (.iload_n 3, 1) := by decide +kernel
theorem dX7_believed_67 : decode cX7_believed 67 = .ok (.istore_n 3, 1) := by decide +kernel
theorem dX7_believed_68 : decode cX7_believed 68 = .ok (.iload 7, 2) := by decide +kernel
theorem dX7_believed_70 : decode cX7_believed 70 = .ok (.ifCond .eq 8, 3) := by decide +kernel
theorem dX7_believed_73 : decode cX7_believed 73 = .ok (.iload 6, 2) := by decide +kernel
theorem dX7_believed_75 : decode cX7_believed 75 = .ok (.goto 5, 3) := by decide +kernel
theorem dX7_believed_78 : decode cX7_believed 78 = .ok (.iload 4, 2) := by decide +kernel
theorem dX7_believed_80 : decode cX7_believed 80 = .ok (.istore 4, 2) := by decide +kernel
theorem dX7_believed_82 : decode cX7_believed 82 = .ok (.iinc 5 1, 3) := by decide +kernel
theorem dX7_believed_85 : decode cX7_believed 85 = .ok (.goto (-77), 3) := by decide +kernel
theorem dX7_believed_88 : decode cX7_believed 88 = .ok (.iload_n 3, 1) := by decide +kernel
theorem dX7_believed_89 : decode cX7_believed 89 = .ok (.ireturn, 1) := by decide +kernel
theorem dX7_isRight_0 : decode cX7_isRight 0 = .ok (.aload_n 0, 1) := by decide +kernel
theorem dX7_isRight_1 : decode cX7_isRight 1 = .ok (.iload_n 1, 1) := by decide +kernel
theorem dX7_isRight_2 : decode cX7_isRight 2 = .ok (.iload_n 2, 1) := by decide +kernel
theorem dX7_isRight_3 : decode cX7_isRight 3 = .ok (.invokevirtual 195, 3) := by decide +kernel
theorem dX7_isRight_6 : decode cX7_isRight 6 = .ok (.istore_n 3, 1) := by decide +kernel
theorem dX7_isRight_7 : decode cX7_isRight 7 = .ok (.iload_n 3, 1) := by decide +kernel
theorem dX7_isRight_8 : decode cX7_isRight 8 = .ok (.iconst (-1), 1) := by decide +kernel
theorem dX7_isRight_9 : decode cX7_isRight 9 = .ok (.if_icmp .eq 16, 3) := by decide +kernel
theorem dX7_isRight_12 : decode cX7_isRight 12 = .ok (.aload_n 0, 1) := by decide +kernel
theorem dX7_isRight_13 : decode cX7_isRight 13 = .ok (.iload_n 3, 1) := by decide +kernel
theorem dX7_isRight_14 : decode cX7_isRight 14 = .ok (.iload_n 2, 1) := by decide +kernel
theorem dX7_isRight_15 : decode cX7_isRight 15 = .ok (.invokevirtual 198, 3) := by decide +kernel
theorem dX7_isRight_18 : decode cX7_isRight 18 = .ok (.ifCond .eq 7, 3) := by decide +kernel
theorem dX7_isRight_21 : decode cX7_isRight 21 = .ok (.iconst 1, 1) := by decide +kernel
theorem dX7_isRight_22 : decode cX7_isRight 22 = .ok (.goto 4, 3) := by decide +kernel
theorem dX7_isRight_25 : decode cX7_isRight 25 = .ok (.iconst 0, 1) := by decide +kernel
theorem dX7_isRight_26 : decode cX7_isRight 26 = .ok (.ireturn, 1) := by decide +kernel
theorem dX7_knowing_0 : decode cX7_knowing 0 = .ok (.iconst 0, 1) := by decide +kernel
theorem dX7_knowing_1 : decode cX7_knowing 1 = .ok (.istore_n 3, 1) := by decide +kernel
theorem dX7_knowing_2 : decode cX7_knowing 2 = .ok (.iconst 0, 1) := by decide +kernel
theorem dX7_knowing_3 : decode cX7_knowing 3 = .ok (.istore 4, 2) := by decide +kernel
theorem dX7_knowing_5 : decode cX7_knowing 5 = .ok (.iload 4, 2) := by decide +kernel
theorem dX7_knowing_7 : decode cX7_knowing 7 = .ok (.aload_n 0, 1) := by decide +kernel
theorem dX7_knowing_8 : decode cX7_knowing 8 = .ok (.getfield 87, 3) := by decide +kernel
theorem dX7_knowing_11 : decode cX7_knowing 11 = .ok (.if_icmp .ge 41, 3) := by decide +kernel
theorem dX7_knowing_14 : decode cX7_knowing 14 = .ok (.iload_n 3, 1) := by decide +kernel
theorem dX7_knowing_15 : decode cX7_knowing 15 = .ok (.aload_n 0, 1) := by decide +kernel
theorem dX7_knowing_16 : decode cX7_knowing 16 = .ok (.getfield 19, 3) := by decide +kernel
theorem dX7_knowing_19 : decode cX7_knowing 19 = .ok (.iload 4, 2) := by decide +kernel
theorem dX7_knowing_21 : decode cX7_knowing 21 = .ok (.iaload, 1) := by decide +kernel
theorem dX7_knowing_22 : decode cX7_knowing 22 = .ok (.iload_n 1, 1) := by decide +kernel
theorem dX7_knowing_23 : decode cX7_knowing 23 = .ok (.if_icmp .ne 20, 3) := by decide +kernel
theorem dX7_knowing_26 : decode cX7_knowing 26 = .ok (.aload_n 0, 1) := by decide +kernel
theorem dX7_knowing_27 : decode cX7_knowing 27 = .ok (.iload 4, 2) := by decide +kernel
theorem dX7_knowing_29 : decode cX7_knowing 29 = .ok (.iload_n 2, 1) := by decide +kernel
theorem dX7_knowing_30 : decode cX7_knowing 30 = .ok (.invokevirtual 198, 3) := by decide +kernel
theorem dX7_knowing_33 : decode cX7_knowing 33 = .ok (.ifCond .eq 10, 3) := by decide +kernel
theorem dX7_knowing_36 : decode cX7_knowing 36 = .ok (.iconst 1, 1) := by decide +kernel
theorem dX7_knowing_37 : decode cX7_knowing 37 = .ok (.iload 4, 2) := by decide +kernel
theorem dX7_knowing_39 : decode cX7_knowing 39 = .ok (.ishl, 1) := by decide +kernel
theorem dX7_knowing_40 : decode cX7_knowing 40 = .ok (.goto 4, 3) := by decide +kernel
theorem dX7_knowing_43 : decode cX7_knowing 43 = .ok (.iconst 0, 1) := by decide +kernel
theorem dX7_knowing_44 : decode cX7_knowing 44 = .ok (.ior, 1) := by decide +kernel
theorem dX7_knowing_45 : decode cX7_knowing 45 = .ok (.istore_n 3, 1) := by decide +kernel
theorem dX7_knowing_46 : decode cX7_knowing 46 = .ok (.iinc 4 1, 3) := by decide +kernel
theorem dX7_knowing_49 : decode cX7_knowing 49 = .ok (.goto (-44), 3) := by decide +kernel
theorem dX7_knowing_52 : decode cX7_knowing 52 = .ok (.iload_n 3, 1) := by decide +kernel
theorem dX7_knowing_53 : decode cX7_knowing 53 = .ok (.ireturn, 1) := by decide +kernel
theorem dX7_answer_0 : decode cX7_answer 0 = .ok (.iload_n 1, 1) := by decide +kernel
theorem dX7_answer_1 : decode cX7_answer 1 = .ok (.invokestatic 183, 3) := by decide +kernel
theorem dX7_answer_4 : decode cX7_answer 4 = .ok (.ifCond .eq 11, 3) := by decide +kernel
theorem dX7_answer_7 : decode cX7_answer 7 = .ok (.aload_n 0, 1) := by decide +kernel
theorem dX7_answer_8 : decode cX7_answer 8 = .ok (.iload_n 2, 1) := by decide +kernel
theorem dX7_answer_9 : decode cX7_answer 9 = .ok (.invokevirtual 180, 3) := by decide +kernel
theorem dX7_answer_12 : decode cX7_answer 12 = .ok (.ifCond .ne 6, 3) := by decide +kernel
theorem dX7_answer_15 : decode cX7_answer 15 = .ok (.bipush (-5), 2) := by decide +kernel
theorem dX7_answer_17 : decode cX7_answer 17 = .ok (.ireturn, 1) := by decide +kernel
theorem dX7_answer_18 : decode cX7_answer 18 = .ok (.iload_n 3, 1) := by decide +kernel
theorem dX7_answer_19 : decode cX7_answer 19 = .ok (.iconst 0, 1) := by decide +kernel
theorem dX7_answer_20 : decode cX7_answer 20 = .ok (.iconst 2, 1) := by decide +kernel
theorem dX7_answer_21 : decode cX7_answer 21 = .ok (.invokestatic 90, 3) := by decide +kernel
theorem dX7_answer_24 : decode cX7_answer 24 = .ok (.ifCond .ne 6, 3) := by decide +kernel
theorem dX7_answer_27 : decode cX7_answer 27 = .ok (.bipush (-7), 2) := by decide +kernel
theorem dX7_answer_29 : decode cX7_answer 29 = .ok (.ireturn, 1) := by decide +kernel
theorem dX7_answer_30 : decode cX7_answer 30 = .ok (.iload_n 3, 1) := by decide +kernel
theorem dX7_answer_31 : decode cX7_answer 31 = .ok (.ifCond .ne 12, 3) := by decide +kernel
theorem dX7_answer_34 : decode cX7_answer 34 = .ok (.aload_n 0, 1) := by decide +kernel
theorem dX7_answer_35 : decode cX7_answer 35 = .ok (.iload_n 1, 1) := by decide +kernel
theorem dX7_answer_36 : decode cX7_answer 36 = .ok (.iload_n 2, 1) := by decide +kernel
theorem dX7_answer_37 : decode cX7_answer 37 = .ok (.invokevirtual 195, 3) := by decide +kernel
theorem dX7_answer_40 : decode cX7_answer 40 = .ok (.goto 31, 3) := by decide +kernel
theorem dX7_answer_43 : decode cX7_answer 43 = .ok (.iload_n 3, 1) := by decide +kernel
theorem dX7_answer_44 : decode cX7_answer 44 = .ok (.iconst 1, 1) := by decide +kernel
theorem dX7_answer_45 : decode cX7_answer 45 = .ok (.if_icmp .ne 20, 3) := by decide +kernel
theorem dX7_answer_48 : decode cX7_answer 48 = .ok (.aload_n 0, 1) := by decide +kernel
theorem dX7_answer_49 : decode cX7_answer 49 = .ok (.iload_n 1, 1) := by decide +kernel
theorem dX7_answer_50 : decode cX7_answer 50 = .ok (.iload_n 2, 1) := by decide +kernel
theorem dX7_answer_51 : decode cX7_answer 51 = .ok (.invokevirtual 202, 3) := by decide +kernel
theorem dX7_answer_54 : decode cX7_answer 54 = .ok (.ifCond .eq 7, 3) := by decide +kernel
theorem dX7_answer_57 : decode cX7_answer 57 = .ok (.iconst 1, 1) := by decide +kernel
theorem dX7_answer_58 : decode cX7_answer 58 = .ok (.goto 13, 3) := by decide +kernel
theorem dX7_answer_61 : decode cX7_answer 61 = .ok (.iconst 0, 1) := by decide +kernel
theorem dX7_answer_62 : decode cX7_answer 62 = .ok (.goto 9, 3) := by decide +kernel
theorem dX7_answer_65 : decode cX7_answer 65 = .ok (.aload_n 0, 1) := by decide +kernel
theorem dX7_answer_66 : decode cX7_answer 66 = .ok (.iload_n 1, 1) := by decide +kernel
theorem dX7_answer_67 : decode cX7_answer 67 = .ok (.iload_n 2, 1) := by decide +kernel
theorem dX7_answer_68 : decode cX7_answer 68 = .ok (.invokevirtual 205, 3) := by decide +kernel
theorem dX7_answer_71 : decode cX7_answer 71 = .ok (.ireturn, 1) := by decide +kernel
theorem dX7_pointsOf_0 : decode cX7_pointsOf 0 = .ok (.aload_n 0, 1) := by decide +kernel
theorem dX7_pointsOf_1 : decode cX7_pointsOf 1 = .ok (.iconst 1, 1) := by decide +kernel
theorem dX7_pointsOf_2 : decode cX7_pointsOf 2 = .ok (.iconst 0, 1) := by decide +kernel
theorem dX7_pointsOf_3 : decode cX7_pointsOf 3 = .ok (.aload_n 0, 1) := by decide +kernel
theorem dX7_pointsOf_4 : decode cX7_pointsOf 4 = .ok (.getfield 28, 3) := by decide +kernel
theorem dX7_pointsOf_7 : decode cX7_pointsOf 7 = .ok (.iload_n 2, 1) := by decide +kernel
theorem dX7_pointsOf_8 : decode cX7_pointsOf 8 = .ok (.iaload, 1) := by decide +kernel
theorem dX7_pointsOf_9 : decode cX7_pointsOf 9 = .ok (.iconst 0, 1) := by decide +kernel
theorem dX7_pointsOf_10 : decode cX7_pointsOf 10 = .ok (.aload_n 0, 1) := by decide +kernel
theorem dX7_pointsOf_11 : decode cX7_pointsOf 11 = .ok (.getfield 25, 3) := by decide +kernel
theorem dX7_pointsOf_14 : decode cX7_pointsOf 14 = .ok (.iload_n 2, 1) := by decide +kernel
theorem dX7_pointsOf_15 : decode cX7_pointsOf 15 = .ok (.iaload, 1) := by decide +kernel
theorem dX7_pointsOf_16 : decode cX7_pointsOf 16 = .ok (.iload_n 2, 1) := by decide +kernel
theorem dX7_pointsOf_17 : decode cX7_pointsOf 17 = .ok (.iconst 0, 1) := by decide +kernel
theorem dX7_pointsOf_18 : decode cX7_pointsOf 18 = .ok (.invokevirtual 173, 3) := by decide +kernel
theorem dX7_pointsOf_21 : decode cX7_pointsOf 21 = .ok (.istore_n 3, 1) := by decide +kernel
theorem dX7_pointsOf_22 : decode cX7_pointsOf 22 = .ok (.aload_n 0, 1) := by decide +kernel
theorem dX7_pointsOf_23 : decode cX7_pointsOf 23 = .ok (.iload_n 1, 1) := by decide +kernel
theorem dX7_pointsOf_24 : decode cX7_pointsOf 24 = .ok (.iload_n 2, 1) := by decide +kernel
theorem dX7_pointsOf_25 : decode cX7_pointsOf 25 = .ok (.invokevirtual 202, 3) := by decide +kernel
theorem dX7_pointsOf_28 : decode cX7_pointsOf 28 = .ok (.ifCond .ne 7, 3) := by decide +kernel
theorem dX7_pointsOf_31 : decode cX7_pointsOf 31 = .ok (.iconst 0, 1) := by decide +kernel
theorem dX7_pointsOf_32 : decode cX7_pointsOf 32 = .ok (.goto 20, 3) := by decide +kernel
theorem dX7_pointsOf_35 : decode cX7_pointsOf 35 = .ok (.aload_n 0, 1) := by decide +kernel
theorem dX7_pointsOf_36 : decode cX7_pointsOf 36 = .ok (.getfield 31, 3) := by decide +kernel
theorem dX7_pointsOf_39 : decode cX7_pointsOf 39 = .ok (.iload_n 1, 1) := by decide +kernel
theorem dX7_pointsOf_40 : decode cX7_pointsOf 40 = .ok (.iaload, 1) := by decide +kernel
theorem dX7_pointsOf_41 : decode cX7_pointsOf 41 = .ok (.iload_n 2, 1) := by decide +kernel
theorem dX7_pointsOf_42 : decode cX7_pointsOf 42 = .ok (.if_icmp .ne 9, 3) := by decide +kernel
theorem dX7_pointsOf_45 : decode cX7_pointsOf 45 = .ok (.iconst 2, 1) := by decide +kernel
theorem dX7_pointsOf_46 : decode cX7_pointsOf 46 = .ok (.iload_n 3, 1) := by decide +kernel
theorem dX7_pointsOf_47 : decode cX7_pointsOf 47 = .ok (.imul, 1) := by decide +kernel
theorem dX7_pointsOf_48 : decode cX7_pointsOf 48 = .ok (.goto 4, 3) := by decide +kernel
theorem dX7_pointsOf_51 : decode cX7_pointsOf 51 = .ok (.iload_n 3, 1) := by decide +kernel
theorem dX7_pointsOf_52 : decode cX7_pointsOf 52 = .ok (.ireturn, 1) := by decide +kernel
theorem dX7_scoreOf_0 : decode cX7_scoreOf 0 = .ok (.iconst 0, 1) := by decide +kernel
theorem dX7_scoreOf_1 : decode cX7_scoreOf 1 = .ok (.istore_n 3, 1) := by decide +kernel
theorem dX7_scoreOf_2 : decode cX7_scoreOf 2 = .ok (.iconst 0, 1) := by decide +kernel
theorem dX7_scoreOf_3 : decode cX7_scoreOf 3 = .ok (.istore 4, 2) := by decide +kernel
theorem dX7_scoreOf_5 : decode cX7_scoreOf 5 = .ok (.iload 4, 2) := by decide +kernel
theorem dX7_scoreOf_7 : decode cX7_scoreOf 7 = .ok (.aload_n 0, 1) := by decide +kernel
theorem dX7_scoreOf_8 : decode cX7_scoreOf 8 = .ok (.getfield 94, 3) := by decide +kernel
theorem dX7_scoreOf_11 : decode cX7_scoreOf 11 = .ok (.if_icmp .ge 33, 3) := by decide +kernel
theorem dX7_scoreOf_14 : decode cX7_scoreOf 14 = .ok (.iload_n 3, 1) := by decide +kernel
theorem dX7_scoreOf_15 : decode cX7_scoreOf 15 = .ok (.iload_n 2, 1) := by decide +kernel
theorem dX7_scoreOf_16 : decode cX7_scoreOf 16 = .ok (.iload 4, 2) := by decide +kernel
theorem dX7_scoreOf_18 : decode cX7_scoreOf 18 = .ok (.ishr, 1) := by decide +kernel
theorem dX7_scoreOf_19 : decode cX7_scoreOf 19 = .ok (.iconst 1, 1) := by decide +kernel
theorem dX7_scoreOf_20 : decode cX7_scoreOf 20 = .ok (.iand, 1) := by decide +kernel
theorem dX7_scoreOf_21 : decode cX7_scoreOf 21 = .ok (.iconst 1, 1) := by decide +kernel
theorem dX7_scoreOf_22 : decode cX7_scoreOf 22 = .ok (.if_icmp .ne 13, 3) := by decide +kernel
theorem dX7_scoreOf_25 : decode cX7_scoreOf 25 = .ok (.aload_n 0, 1) := by decide +kernel
theorem dX7_scoreOf_26 : decode cX7_scoreOf 26 = .ok (.iload_n 1, 1) := by decide +kernel
theorem dX7_scoreOf_27 : decode cX7_scoreOf 27 = .ok (.iload 4, 2) := by decide +kernel
theorem dX7_scoreOf_29 : decode cX7_scoreOf 29 = .ok (.invokevirtual 208, 3) := by decide +kernel
theorem dX7_scoreOf_32 : decode cX7_scoreOf 32 = .ok (.goto 4, 3) := by decide +kernel
theorem dX7_scoreOf_35 : decode cX7_scoreOf 35 = .ok (.iconst 0, 1) := by decide +kernel
theorem dX7_scoreOf_36 : decode cX7_scoreOf 36 = .ok (.iadd, 1) := by decide +kernel
theorem dX7_scoreOf_37 : decode cX7_scoreOf 37 = .ok (.istore_n 3, 1) := by decide +kernel
theorem dX7_scoreOf_38 : decode cX7_scoreOf 38 = .ok (.iinc 4 1, 3) := by decide +kernel
theorem dX7_scoreOf_41 : decode cX7_scoreOf 41 = .ok (.goto (-36), 3) := by decide +kernel
theorem dX7_scoreOf_44 : decode cX7_scoreOf 44 = .ok (.iload_n 3, 1) := by decide +kernel
theorem dX7_scoreOf_45 : decode cX7_scoreOf 45 = .ok (.ireturn, 1) := by decide +kernel
theorem dX7_all_0 : decode cX7_all 0 = .ok (.iconst 1, 1) := by decide +kernel
theorem dX7_all_1 : decode cX7_all 1 = .ok (.aload_n 0, 1) := by decide +kernel
theorem dX7_all_2 : decode cX7_all 2 = .ok (.getfield 94, 3) := by decide +kernel
theorem dX7_all_5 : decode cX7_all 5 = .ok (.ishl, 1) := by decide +kernel
theorem dX7_all_6 : decode cX7_all 6 = .ok (.iconst 1, 1) := by decide +kernel
theorem dX7_all_7 : decode cX7_all 7 = .ok (.isub, 1) := by decide +kernel
theorem dX7_all_8 : decode cX7_all 8 = .ok (.ireturn, 1) := by decide +kernel
theorem dX7_scoreNow_0 : decode cX7_scoreNow 0 = .ok (.aload_n 0, 1) := by decide +kernel
theorem dX7_scoreNow_1 : decode cX7_scoreNow 1 = .ok (.iload_n 1, 1) := by decide +kernel
theorem dX7_scoreNow_2 : decode cX7_scoreNow 2 = .ok (.aload_n 0, 1) := by decide +kernel
theorem dX7_scoreNow_3 : decode cX7_scoreNow 3 = .ok (.invokevirtual 211, 3) := by decide +kernel
theorem dX7_scoreNow_6 : decode cX7_scoreNow 6 = .ok (.invokevirtual 214, 3) := by decide +kernel
theorem dX7_scoreNow_9 : decode cX7_scoreNow 9 = .ok (.ireturn, 1) := by decide +kernel
theorem dX7_rightOf_0 : decode cX7_rightOf 0 = .ok (.iconst 0, 1) := by decide +kernel
theorem dX7_rightOf_1 : decode cX7_rightOf 1 = .ok (.istore_n 2, 1) := by decide +kernel
theorem dX7_rightOf_2 : decode cX7_rightOf 2 = .ok (.iconst 0, 1) := by decide +kernel
theorem dX7_rightOf_3 : decode cX7_rightOf 3 = .ok (.istore_n 3, 1) := by decide +kernel
theorem dX7_rightOf_4 : decode cX7_rightOf 4 = .ok (.iload_n 3, 1) := by decide +kernel
theorem dX7_rightOf_5 : decode cX7_rightOf 5 = .ok (.aload_n 0, 1) := by decide +kernel
theorem dX7_rightOf_6 : decode cX7_rightOf 6 = .ok (.getfield 94, 3) := by decide +kernel
theorem dX7_rightOf_9 : decode cX7_rightOf 9 = .ok (.if_icmp .ge 28, 3) := by decide +kernel
theorem dX7_rightOf_12 : decode cX7_rightOf 12 = .ok (.iload_n 2, 1) := by decide +kernel
theorem dX7_rightOf_13 : decode cX7_rightOf 13 = .ok (.aload_n 0, 1) := by decide +kernel
theorem dX7_rightOf_14 : decode cX7_rightOf 14 = .ok (.iload_n 1, 1) := by decide +kernel
theorem dX7_rightOf_15 : decode cX7_rightOf 15 = .ok (.iload_n 3, 1) := by decide +kernel
theorem dX7_rightOf_16 : decode cX7_rightOf 16 = .ok (.invokevirtual 202, 3) := by decide +kernel
theorem dX7_rightOf_19 : decode cX7_rightOf 19 = .ok (.ifCond .eq 9, 3) := by decide +kernel
theorem dX7_rightOf_22 : decode cX7_rightOf 22 = .ok (.iconst 1, 1) := by decide +kernel
theorem dX7_rightOf_23 : decode cX7_rightOf 23 = .ok (.iload_n 3, 1) := by decide +kernel
theorem dX7_rightOf_24 : decode cX7_rightOf 24 = .ok (.ishl, 1) := by decide +kernel
theorem dX7_rightOf_25 : decode cX7_rightOf 25 = .ok (.goto 4, 3) := by decide +kernel
theorem dX7_rightOf_28 : decode cX7_rightOf 28 = .ok (.iconst 0, 1) := by decide +kernel
theorem dX7_rightOf_29 : decode cX7_rightOf 29 = .ok (.ior, 1) := by decide +kernel
theorem dX7_rightOf_30 : decode cX7_rightOf 30 = .ok (.istore_n 2, 1) := by decide +kernel
theorem dX7_rightOf_31 : decode cX7_rightOf 31 = .ok (.iinc 3 1, 3) := by decide +kernel
theorem dX7_rightOf_34 : decode cX7_rightOf 34 = .ok (.goto (-30), 3) := by decide +kernel
theorem dX7_rightOf_37 : decode cX7_rightOf 37 = .ok (.iload_n 2, 1) := by decide +kernel
theorem dX7_rightOf_38 : decode cX7_rightOf 38 = .ok (.ireturn, 1) := by decide +kernel
theorem dX7_missed_0 : decode cX7_missed 0 = .ok (.iconst 0, 1) := by decide +kernel
theorem dX7_missed_1 : decode cX7_missed 1 = .ok (.istore_n 2, 1) := by decide +kernel
theorem dX7_missed_2 : decode cX7_missed 2 = .ok (.iconst 0, 1) := by decide +kernel
theorem dX7_missed_3 : decode cX7_missed 3 = .ok (.istore_n 3, 1) := by decide +kernel
theorem dX7_missed_4 : decode cX7_missed 4 = .ok (.iload_n 3, 1) := by decide +kernel
theorem dX7_missed_5 : decode cX7_missed 5 = .ok (.aload_n 0, 1) := by decide +kernel
theorem dX7_missed_6 : decode cX7_missed 6 = .ok (.getfield 94, 3) := by decide +kernel
theorem dX7_missed_9 : decode cX7_missed 9 = .ok (.if_icmp .ge 37, 3) := by decide +kernel
theorem dX7_missed_12 : decode cX7_missed 12 = .ok (.iload_n 2, 1) := by decide +kernel
theorem dX7_missed_13 : decode cX7_missed 13 = .ok (.aload_n 0, 1) := by decide +kernel
theorem dX7_missed_14 : decode cX7_missed 14 = .ok (.iload_n 1, 1) := by decide +kernel
theorem dX7_missed_15 : decode cX7_missed 15 = .ok (.iload_n 3, 1) := by decide +kernel
theorem dX7_missed_16 : decode cX7_missed 16 = .ok (.invokevirtual 202, 3) := by decide +kernel
theorem dX7_missed_19 : decode cX7_missed 19 = .ok (.ifCond .ne 18, 3) := by decide +kernel
theorem dX7_missed_22 : decode cX7_missed 22 = .ok (.aload_n 0, 1) := by decide +kernel
theorem dX7_missed_23 : decode cX7_missed 23 = .ok (.iload_n 1, 1) := by decide +kernel
theorem dX7_missed_24 : decode cX7_missed 24 = .ok (.iload_n 3, 1) := by decide +kernel
theorem dX7_missed_25 : decode cX7_missed 25 = .ok (.invokevirtual 205, 3) := by decide +kernel
theorem dX7_missed_28 : decode cX7_missed 28 = .ok (.ifCond .eq 9, 3) := by decide +kernel
theorem dX7_missed_31 : decode cX7_missed 31 = .ok (.iconst 1, 1) := by decide +kernel
theorem dX7_missed_32 : decode cX7_missed 32 = .ok (.iload_n 3, 1) := by decide +kernel
theorem dX7_missed_33 : decode cX7_missed 33 = .ok (.ishl, 1) := by decide +kernel
theorem dX7_missed_34 : decode cX7_missed 34 = .ok (.goto 4, 3) := by decide +kernel
theorem dX7_missed_37 : decode cX7_missed 37 = .ok (.iconst 0, 1) := by decide +kernel
theorem dX7_missed_38 : decode cX7_missed 38 = .ok (.ior, 1) := by decide +kernel
theorem dX7_missed_39 : decode cX7_missed 39 = .ok (.istore_n 2, 1) := by decide +kernel
theorem dX7_missed_40 : decode cX7_missed 40 = .ok (.iinc 3 1, 3) := by decide +kernel
theorem dX7_missed_43 : decode cX7_missed 43 = .ok (.goto (-39), 3) := by decide +kernel
theorem dX7_missed_46 : decode cX7_missed 46 = .ok (.iload_n 2, 1) := by decide +kernel
theorem dX7_missed_47 : decode cX7_missed 47 = .ok (.ireturn, 1) := by decide +kernel
theorem dX7_score_0 : decode cX7_score 0 = .ok (.iload_n 1, 1) := by decide +kernel
theorem dX7_score_1 : decode cX7_score 1 = .ok (.invokestatic 183, 3) := by decide +kernel
theorem dX7_score_4 : decode cX7_score 4 = .ok (.ifCond .ne 6, 3) := by decide +kernel
theorem dX7_score_7 : decode cX7_score 7 = .ok (.bipush (-5), 2) := by decide +kernel
theorem dX7_score_9 : decode cX7_score 9 = .ok (.ireturn, 1) := by decide +kernel
theorem dX7_score_10 : decode cX7_score 10 = .ok (.iload_n 2, 1) := by decide +kernel
theorem dX7_score_11 : decode cX7_score 11 = .ok (.iconst 0, 1) := by decide +kernel
theorem dX7_score_12 : decode cX7_score 12 = .ok (.iconst 2, 1) := by decide +kernel
theorem dX7_score_13 : decode cX7_score 13 = .ok (.invokestatic 90, 3) := by decide +kernel
theorem dX7_score_16 : decode cX7_score 16 = .ok (.ifCond .ne 6, 3) := by decide +kernel
theorem dX7_score_19 : decode cX7_score 19 = .ok (.bipush (-7), 2) := by decide +kernel
theorem dX7_score_21 : decode cX7_score 21 = .ok (.ireturn, 1) := by decide +kernel
theorem dX7_score_22 : decode cX7_score 22 = .ok (.iload_n 2, 1) := by decide +kernel
theorem dX7_score_23 : decode cX7_score 23 = .ok (.ifCond .ne 11, 3) := by decide +kernel
theorem dX7_score_26 : decode cX7_score 26 = .ok (.aload_n 0, 1) := by decide +kernel
theorem dX7_score_27 : decode cX7_score 27 = .ok (.iload_n 1, 1) := by decide +kernel
theorem dX7_score_28 : decode cX7_score 28 = .ok (.invokevirtual 217, 3) := by decide +kernel
theorem dX7_score_31 : decode cX7_score 31 = .ok (.goto 21, 3) := by decide +kernel
theorem dX7_score_34 : decode cX7_score 34 = .ok (.iload_n 2, 1) := by decide +kernel
theorem dX7_score_35 : decode cX7_score 35 = .ok (.iconst 1, 1) := by decide +kernel
theorem dX7_score_36 : decode cX7_score 36 = .ok (.if_icmp .ne 11, 3) := by decide +kernel
theorem dX7_score_39 : decode cX7_score 39 = .ok (.aload_n 0, 1) := by decide +kernel
theorem dX7_score_40 : decode cX7_score 40 = .ok (.iload_n 1, 1) := by decide +kernel
theorem dX7_score_41 : decode cX7_score 41 = .ok (.invokevirtual 220, 3) := by decide +kernel
theorem dX7_score_44 : decode cX7_score 44 = .ok (.goto 8, 3) := by decide +kernel
theorem dX7_score_47 : decode cX7_score 47 = .ok (.aload_n 0, 1) := by decide +kernel
theorem dX7_score_48 : decode cX7_score 48 = .ok (.iload_n 1, 1) := by decide +kernel
theorem dX7_score_49 : decode cX7_score 49 = .ok (.invokevirtual 223, 3) := by decide +kernel
theorem dX7_score_52 : decode cX7_score 52 = .ok (.ireturn, 1) := by decide +kernel
theorem dX7_winner_0 : decode cX7_winner 0 = .ok (.iconst 0, 1) := by decide +kernel
theorem dX7_winner_1 : decode cX7_winner 1 = .ok (.istore_n 1, 1) := by decide +kernel
theorem dX7_winner_2 : decode cX7_winner 2 = .ok (.iconst 1, 1) := by decide +kernel
theorem dX7_winner_3 : decode cX7_winner 3 = .ok (.istore_n 2, 1) := by decide +kernel
theorem dX7_winner_4 : decode cX7_winner 4 = .ok (.iload_n 2, 1) := by decide +kernel
theorem dX7_winner_5 : decode cX7_winner 5 = .ok (.iconst 3, 1) := by decide +kernel
theorem dX7_winner_6 : decode cX7_winner 6 = .ok (.if_icmp .ge 28, 3) := by decide +kernel
theorem dX7_winner_9 : decode cX7_winner 9 = .ok (.aload_n 0, 1) := by decide +kernel
theorem dX7_winner_10 : decode cX7_winner 10 = .ok (.iload_n 2, 1) := by decide +kernel
theorem dX7_winner_11 : decode cX7_winner 11 = .ok (.invokevirtual 217, 3) := by decide +kernel
theorem dX7_winner_14 : decode cX7_winner 14 = .ok (.aload_n 0, 1) := by decide +kernel
theorem dX7_winner_15 : decode cX7_winner 15 = .ok (.iload_n 1, 1) := by decide +kernel
theorem dX7_winner_16 : decode cX7_winner 16 = .ok (.invokevirtual 217, 3) := by decide +kernel
theorem dX7_winner_19 : decode cX7_winner 19 = .ok (.if_icmp .le 7, 3) := by decide +kernel
theorem dX7_winner_22 : decode cX7_winner 22 = .ok (.iload_n 2, 1) := by decide +kernel
theorem dX7_winner_23 : decode cX7_winner 23 = .ok (.goto 4, 3) := by decide +kernel
theorem dX7_winner_26 : decode cX7_winner 26 = .ok (.iload_n 1, 1) := by decide +kernel
theorem dX7_winner_27 : decode cX7_winner 27 = .ok (.istore_n 1, 1) := by decide +kernel
theorem dX7_winner_28 : decode cX7_winner 28 = .ok (.iinc 2 1, 3) := by decide +kernel
theorem dX7_winner_31 : decode cX7_winner 31 = .ok (.goto (-27), 3) := by decide +kernel
theorem dX7_winner_34 : decode cX7_winner 34 = .ok (.iload_n 1, 1) := by decide +kernel
theorem dX7_winner_35 : decode cX7_winner 35 = .ok (.ireturn, 1) := by decide +kernel
theorem dX7_apart_0 : decode cX7_apart 0 = .ok (.aload_n 0, 1) := by decide +kernel
theorem dX7_apart_1 : decode cX7_apart 1 = .ok (.iconst 0, 1) := by decide +kernel
theorem dX7_apart_2 : decode cX7_apart 2 = .ok (.iload_n 1, 1) := by decide +kernel
theorem dX7_apart_3 : decode cX7_apart 3 = .ok (.invokevirtual 214, 3) := by decide +kernel
theorem dX7_apart_6 : decode cX7_apart 6 = .ok (.istore_n 2, 1) := by decide +kernel
theorem dX7_apart_7 : decode cX7_apart 7 = .ok (.iload_n 2, 1) := by decide +kernel
theorem dX7_apart_8 : decode cX7_apart 8 = .ok (.istore_n 3, 1) := by decide +kernel
theorem dX7_apart_9 : decode cX7_apart 9 = .ok (.iconst 1, 1) := by decide +kernel
theorem dX7_apart_10 : decode cX7_apart 10 = .ok (.istore 4, 2) := by decide +kernel
theorem dX7_apart_12 : decode cX7_apart 12 = .ok (.iload 4, 2) := by decide +kernel
theorem dX7_apart_14 : decode cX7_apart 14 = .ok (.iconst 3, 1) := by decide +kernel
theorem dX7_apart_15 : decode cX7_apart 15 = .ok (.if_icmp .ge 44, 3) := by decide +kernel
theorem dX7_apart_18 : decode cX7_apart 18 = .ok (.aload_n 0, 1) := by decide +kernel
theorem dX7_apart_19 : decode cX7_apart 19 = .ok (.iload 4, 2) := by decide +kernel
theorem dX7_apart_21 : decode cX7_apart 21 = .ok (.iload_n 1, 1) := by decide +kernel
theorem dX7_apart_22 : decode cX7_apart 22 = .ok (.invokevirtual 214, 3) := by decide +kernel
theorem dX7_apart_25 : decode cX7_apart 25 = .ok (.istore 5, 2) := by decide +kernel
theorem dX7_apart_27 : decode cX7_apart 27 = .ok (.iload 5, 2) := by decide +kernel
theorem dX7_apart_29 : decode cX7_apart 29 = .ok (.iload_n 2, 1) := by decide +kernel
theorem dX7_apart_30 : decode cX7_apart 30 = .ok (.if_icmp .le 8, 3) := by decide +kernel
theorem dX7_apart_33 : decode cX7_apart 33 = .ok (.iload 5, 2) := by decide +kernel
theorem dX7_apart_35 : decode cX7_apart 35 = .ok (.goto 4, 3) := by decide +kernel
theorem dX7_apart_38 : decode cX7_apart 38 = .ok (.iload_n 2, 1) := by decide +kernel
theorem dX7_apart_39 : decode cX7_apart 39 = .ok (.istore_n 2, 1) := by decide +kernel
theorem dX7_apart_40 : decode cX7_apart 40 = .ok (.iload 5, 2) := by decide +kernel
theorem dX7_apart_42 : decode cX7_apart 42 = .ok (.iload_n 3, 1) := by decide +kernel
theorem dX7_apart_43 : decode cX7_apart 43 = .ok (.if_icmp .ge 8, 3) := by decide +kernel
theorem dX7_apart_46 : decode cX7_apart 46 = .ok (.iload 5, 2) := by decide +kernel
theorem dX7_apart_48 : decode cX7_apart 48 = .ok (.goto 4, 3) := by decide +kernel
theorem dX7_apart_51 : decode cX7_apart 51 = .ok (.iload_n 3, 1) := by decide +kernel
theorem dX7_apart_52 : decode cX7_apart 52 = .ok (.istore_n 3, 1) := by decide +kernel
theorem dX7_apart_53 : decode cX7_apart 53 = .ok (.iinc 4 1, 3) := by decide +kernel
theorem dX7_apart_56 : decode cX7_apart 56 = .ok (.goto (-44), 3) := by decide +kernel
theorem dX7_apart_59 : decode cX7_apart 59 = .ok (.iload_n 2, 1) := by decide +kernel
theorem dX7_apart_60 : decode cX7_apart 60 = .ok (.iload_n 3, 1) := by decide +kernel
theorem dX7_apart_61 : decode cX7_apart 61 = .ok (.isub, 1) := by decide +kernel
theorem dX7_apart_62 : decode cX7_apart 62 = .ok (.ireturn, 1) := by decide +kernel
theorem dX7_evening_0 : decode cX7_evening 0 = .ok (.iload_n 1, 1) := by decide +kernel
theorem dX7_evening_1 : decode cX7_evening 1 = .ok (.ifCond .ne 10, 3) := by decide +kernel
theorem dX7_evening_4 : decode cX7_evening 4 = .ok (.aload_n 0, 1) := by decide +kernel
theorem dX7_evening_5 : decode cX7_evening 5 = .ok (.invokevirtual 226, 3) := by decide +kernel
theorem dX7_evening_8 : decode cX7_evening 8 = .ok (.goto 21, 3) := by decide +kernel
theorem dX7_evening_11 : decode cX7_evening 11 = .ok (.iload_n 1, 1) := by decide +kernel
theorem dX7_evening_12 : decode cX7_evening 12 = .ok (.iconst 1, 1) := by decide +kernel
theorem dX7_evening_13 : decode cX7_evening 13 = .ok (.if_icmp .ne 14, 3) := by decide +kernel
theorem dX7_evening_16 : decode cX7_evening 16 = .ok (.aload_n 0, 1) := by decide +kernel
theorem dX7_evening_17 : decode cX7_evening 17 = .ok (.aload_n 0, 1) := by decide +kernel
theorem dX7_evening_18 : decode cX7_evening 18 = .ok (.invokevirtual 211, 3) := by decide +kernel
theorem dX7_evening_21 : decode cX7_evening 21 = .ok (.invokevirtual 229, 3) := by decide +kernel
theorem dX7_evening_24 : decode cX7_evening 24 = .ok (.goto 5, 3) := by decide +kernel
theorem dX7_evening_27 : decode cX7_evening 27 = .ok (.bipush (-2), 2) := by decide +kernel
theorem dX7_evening_29 : decode cX7_evening 29 = .ok (.ireturn, 1) := by decide +kernel
theorem dX7_best_0 : decode cX7_best 0 = .ok (.iload_n 1, 1) := by decide +kernel
theorem dX7_best_1 : decode cX7_best 1 = .ok (.invokestatic 183, 3) := by decide +kernel
theorem dX7_best_4 : decode cX7_best 4 = .ok (.ifCond .ne 6, 3) := by decide +kernel
theorem dX7_best_7 : decode cX7_best 7 = .ok (.bipush (-5), 2) := by decide +kernel
theorem dX7_best_9 : decode cX7_best 9 = .ok (.ireturn, 1) := by decide +kernel
theorem dX7_best_10 : decode cX7_best 10 = .ok (.iload_n 2, 1) := by decide +kernel
theorem dX7_best_11 : decode cX7_best 11 = .ok (.iconst 0, 1) := by decide +kernel
theorem dX7_best_12 : decode cX7_best 12 = .ok (.iconst 1, 1) := by decide +kernel
theorem dX7_best_13 : decode cX7_best 13 = .ok (.invokestatic 90, 3) := by decide +kernel
theorem dX7_best_16 : decode cX7_best 16 = .ok (.ifCond .ne 6, 3) := by decide +kernel
theorem dX7_best_19 : decode cX7_best 19 = .ok (.bipush (-7), 2) := by decide +kernel
theorem dX7_best_21 : decode cX7_best 21 = .ok (.ireturn, 1) := by decide +kernel
theorem dX7_best_22 : decode cX7_best 22 = .ok (.aload_n 0, 1) := by decide +kernel
theorem dX7_best_23 : decode cX7_best 23 = .ok (.getfield 31, 3) := by decide +kernel
theorem dX7_best_26 : decode cX7_best 26 = .ok (.iload_n 1, 1) := by decide +kernel
theorem dX7_best_27 : decode cX7_best 27 = .ok (.iaload, 1) := by decide +kernel
theorem dX7_best_28 : decode cX7_best 28 = .ok (.istore_n 3, 1) := by decide +kernel
theorem dX7_best_29 : decode cX7_best 29 = .ok (.aload_n 0, 1) := by decide +kernel
theorem dX7_best_30 : decode cX7_best 30 = .ok (.getfield 31, 3) := by decide +kernel
theorem dX7_best_33 : decode cX7_best 33 = .ok (.iload_n 1, 1) := by decide +kernel
theorem dX7_best_34 : decode cX7_best 34 = .ok (.iconst (-1), 1) := by decide +kernel
theorem dX7_best_35 : decode cX7_best 35 = .ok (.iastore, 1) := by decide +kernel
theorem dX7_best_36 : decode cX7_best 36 = .ok (.iconst (-1), 1) := by decide +kernel
theorem dX7_best_37 : decode cX7_best 37 = .ok (.istore 4, 2) := by decide +kernel
theorem dX7_best_39 : decode cX7_best 39 = .ok (.aload_n 0, 1) := by decide +kernel
theorem dX7_best_40 : decode cX7_best 40 = .ok (.iload_n 1, 1) := by decide +kernel
theorem dX7_best_41 : decode cX7_best 41 = .ok (.invokevirtual 217, 3) := by decide +kernel
theorem dX7_best_44 : decode cX7_best 44 = .ok (.istore 5, 2) := by decide +kernel
theorem dX7_best_46 : decode cX7_best 46 = .ok (.iconst 0, 1) := by decide +kernel
theorem dX7_best_47 : decode cX7_best 47 = .ok (.istore 6, 2) := by decide +kernel
theorem dX7_best_49 : decode cX7_best 49 = .ok (.iload 6, 2) := by decide +kernel
theorem dX7_best_51 : decode cX7_best 51 = .ok (.aload_n 0, 1) := by decide +kernel
theorem dX7_best_52 : decode cX7_best 52 = .ok (.getfield 94, 3) := by decide +kernel
theorem dX7_best_55 : decode cX7_best 55 = .ok (.if_icmp .ge 56, 3) := by decide +kernel
theorem dX7_best_58 : decode cX7_best 58 = .ok (.aload_n 0, 1) := by decide +kernel
theorem dX7_best_59 : decode cX7_best 59 = .ok (.getfield 31, 3) := by decide +kernel
theorem dX7_best_62 : decode cX7_best 62 = .ok (.iload_n 1, 1) := by decide +kernel
theorem dX7_best_63 : decode cX7_best 63 = .ok (.iload 6, 2) := by decide +kernel
theorem dX7_best_65 : decode cX7_best 65 = .ok (.iastore, 1) := by decide +kernel
theorem dX7_best_66 : decode cX7_best 66 = .ok (.aload_n 0, 1) := by decide +kernel
theorem dX7_best_67 : decode cX7_best 67 = .ok (.iload_n 1, 1) := by decide +kernel
theorem dX7_best_68 : decode cX7_best 68 = .ok (.invokevirtual 217, 3) := by decide +kernel
theorem dX7_best_71 : decode cX7_best 71 = .ok (.istore 7, 2) := by decide +kernel
theorem dX7_best_73 : decode cX7_best 73 = .ok (.iload 7, 2) := by decide +kernel
theorem dX7_best_75 : decode cX7_best 75 = .ok (.iload 5, 2) := by decide +kernel
theorem dX7_best_77 : decode cX7_best 77 = .ok (.if_icmp .le 8, 3) := by decide +kernel
theorem dX7_best_80 : decode cX7_best 80 = .ok (.iload 6, 2) := by decide +kernel
theorem dX7_best_82 : decode cX7_best 82 = .ok (.goto 5, 3) := by decide +kernel
theorem dX7_best_85 : decode cX7_best 85 = .ok (.iload 4, 2) := by decide +kernel
theorem dX7_best_87 : decode cX7_best 87 = .ok (.istore 4, 2) := by decide +kernel
theorem dX7_best_89 : decode cX7_best 89 = .ok (.iload 7, 2) := by decide +kernel
theorem dX7_best_91 : decode cX7_best 91 = .ok (.iload 5, 2) := by decide +kernel
theorem dX7_best_93 : decode cX7_best 93 = .ok (.if_icmp .le 8, 3) := by decide +kernel
theorem dX7_best_96 : decode cX7_best 96 = .ok (.iload 7, 2) := by decide +kernel
theorem dX7_best_98 : decode cX7_best 98 = .ok (.goto 5, 3) := by decide +kernel
theorem dX7_best_101 : decode cX7_best 101 = .ok (.iload 5, 2) := by decide +kernel
theorem dX7_best_103 : decode cX7_best 103 = .ok (.istore 5, 2) := by decide +kernel
theorem dX7_best_105 : decode cX7_best 105 = .ok (.iinc 6 1, 3) := by decide +kernel
theorem dX7_best_108 : decode cX7_best 108 = .ok (.goto (-59), 3) := by decide +kernel
theorem dX7_best_111 : decode cX7_best 111 = .ok (.aload_n 0, 1) := by decide +kernel
theorem dX7_best_112 : decode cX7_best 112 = .ok (.getfield 31, 3) := by decide +kernel
theorem dX7_best_115 : decode cX7_best 115 = .ok (.iload_n 1, 1) := by decide +kernel
theorem dX7_best_116 : decode cX7_best 116 = .ok (.iload_n 3, 1) := by decide +kernel
theorem dX7_best_117 : decode cX7_best 117 = .ok (.iastore, 1) := by decide +kernel
theorem dX7_best_118 : decode cX7_best 118 = .ok (.iload_n 2, 1) := by decide +kernel
theorem dX7_best_119 : decode cX7_best 119 = .ok (.ifCond .ne 8, 3) := by decide +kernel
theorem dX7_best_122 : decode cX7_best 122 = .ok (.iload 4, 2) := by decide +kernel
theorem dX7_best_124 : decode cX7_best 124 = .ok (.goto 5, 3) := by decide +kernel
theorem dX7_best_127 : decode cX7_best 127 = .ok (.iload 5, 2) := by decide +kernel
theorem dX7_best_129 : decode cX7_best 129 = .ok (.ireturn, 1) := by decide +kernel
theorem dX7_scoreWith_0 : decode cX7_scoreWith 0 = .ok (.aload_n 0, 1) := by decide +kernel
theorem dX7_scoreWith_1 : decode cX7_scoreWith 1 = .ok (.getfield 19, 3) := by decide +kernel
theorem dX7_scoreWith_4 : decode cX7_scoreWith 4 = .ok (.iload_n 2, 1) := by decide +kernel
theorem dX7_scoreWith_5 : decode cX7_scoreWith 5 = .ok (.iaload, 1) := by decide +kernel
theorem dX7_scoreWith_6 : decode cX7_scoreWith 6 = .ok (.istore 4, 2) := by decide +kernel
theorem dX7_scoreWith_8 : decode cX7_scoreWith 8 = .ok (.aload_n 0, 1) := by decide +kernel
theorem dX7_scoreWith_9 : decode cX7_scoreWith 9 = .ok (.getfield 19, 3) := by decide +kernel
theorem dX7_scoreWith_12 : decode cX7_scoreWith 12 = .ok (.iload_n 2, 1) := by decide +kernel
theorem dX7_scoreWith_13 : decode cX7_scoreWith 13 = .ok (.iload_n 3, 1) := by decide +kernel
theorem dX7_scoreWith_14 : decode cX7_scoreWith 14 = .ok (.iastore, 1) := by decide +kernel
theorem dX7_scoreWith_15 : decode cX7_scoreWith 15 = .ok (.aload_n 0, 1) := by decide +kernel
theorem dX7_scoreWith_16 : decode cX7_scoreWith 16 = .ok (.iload_n 1, 1) := by decide +kernel
theorem dX7_scoreWith_17 : decode cX7_scoreWith 17 = .ok (.invokevirtual 217, 3) := by decide +kernel
theorem dX7_scoreWith_20 : decode cX7_scoreWith 20 = .ok (.istore 5, 2) := by decide +kernel
theorem dX7_scoreWith_22 : decode cX7_scoreWith 22 = .ok (.aload_n 0, 1) := by decide +kernel
theorem dX7_scoreWith_23 : decode cX7_scoreWith 23 = .ok (.getfield 19, 3) := by decide +kernel
theorem dX7_scoreWith_26 : decode cX7_scoreWith 26 = .ok (.iload_n 2, 1) := by decide +kernel
theorem dX7_scoreWith_27 : decode cX7_scoreWith 27 = .ok (.iload 4, 2) := by decide +kernel
theorem dX7_scoreWith_29 : decode cX7_scoreWith 29 = .ok (.iastore, 1) := by decide +kernel
theorem dX7_scoreWith_30 : decode cX7_scoreWith 30 = .ok (.iload 5, 2) := by decide +kernel
theorem dX7_scoreWith_32 : decode cX7_scoreWith 32 = .ok (.ireturn, 1) := by decide +kernel
theorem dX7_join_0 : decode cX7_join 0 = .ok (.iload_n 1, 1) := by decide +kernel
theorem dX7_join_1 : decode cX7_join 1 = .ok (.invokestatic 183, 3) := by decide +kernel
theorem dX7_join_4 : decode cX7_join 4 = .ok (.ifCond .ne 6, 3) := by decide +kernel
theorem dX7_join_7 : decode cX7_join 7 = .ok (.bipush (-5), 2) := by decide +kernel
theorem dX7_join_9 : decode cX7_join 9 = .ok (.ireturn, 1) := by decide +kernel
theorem dX7_join_10 : decode cX7_join 10 = .ok (.iload_n 2, 1) := by decide +kernel
theorem dX7_join_11 : decode cX7_join 11 = .ok (.iconst 0, 1) := by decide +kernel
theorem dX7_join_12 : decode cX7_join 12 = .ok (.iconst 1, 1) := by decide +kernel
theorem dX7_join_13 : decode cX7_join 13 = .ok (.invokestatic 90, 3) := by decide +kernel
theorem dX7_join_16 : decode cX7_join 16 = .ok (.ifCond .ne 6, 3) := by decide +kernel
theorem dX7_join_19 : decode cX7_join 19 = .ok (.bipush (-7), 2) := by decide +kernel
theorem dX7_join_21 : decode cX7_join 21 = .ok (.ireturn, 1) := by decide +kernel
theorem dX7_join_22 : decode cX7_join 22 = .ok (.iconst (-1), 1) := by decide +kernel
theorem dX7_join_23 : decode cX7_join 23 = .ok (.istore_n 3, 1) := by decide +kernel
theorem dX7_join_24 : decode cX7_join 24 = .ok (.aload_n 0, 1) := by decide +kernel
theorem dX7_join_25 : decode cX7_join 25 = .ok (.iload_n 1, 1) := by decide +kernel
theorem dX7_join_26 : decode cX7_join 26 = .ok (.invokevirtual 217, 3) := by decide +kernel
theorem dX7_join_29 : decode cX7_join 29 = .ok (.istore 4, 2) := by decide +kernel
theorem dX7_join_31 : decode cX7_join 31 = .ok (.iconst 0, 1) := by decide +kernel
theorem dX7_join_32 : decode cX7_join 32 = .ok (.istore 5, 2) := by decide +kernel
theorem dX7_join_34 : decode cX7_join 34 = .ok (.iload 5, 2) := by decide +kernel
theorem dX7_join_36 : decode cX7_join 36 = .ok (.aload_n 0, 1) := by decide +kernel
theorem dX7_join_37 : decode cX7_join 37 = .ok (.getfield 87, 3) := by decide +kernel
theorem dX7_join_40 : decode cX7_join 40 = .ok (.if_icmp .ge 65, 3) := by decide +kernel
theorem dX7_join_43 : decode cX7_join 43 = .ok (.aload_n 0, 1) := by decide +kernel
theorem dX7_join_44 : decode cX7_join 44 = .ok (.getfield 19, 3) := by decide +kernel
theorem dX7_join_47 : decode cX7_join 47 = .ok (.iload 5, 2) := by decide +kernel
theorem dX7_join_49 : decode cX7_join 49 = .ok (.iaload, 1) := by decide +kernel
theorem dX7_join_50 : decode cX7_join 50 = .ok (.iload_n 1, 1) := by decide +kernel
theorem dX7_join_51 : decode cX7_join 51 = .ok (.if_icmp .ne 8, 3) := by decide +kernel
theorem dX7_join_54 : decode cX7_join 54 = .ok (.iload 4, 2) := by decide +kernel
theorem dX7_join_56 : decode cX7_join 56 = .ok (.goto 11, 3) := by decide +kernel
theorem dX7_join_59 : decode cX7_join 59 = .ok (.aload_n 0, 1) := by decide +kernel
theorem dX7_join_60 : decode cX7_join 60 = .ok (.iload_n 1, 1) := by decide +kernel
theorem dX7_join_61 : decode cX7_join 61 = .ok (.iload 5, 2) := by decide +kernel
theorem dX7_join_63 : decode cX7_join 63 = .ok (.iload_n 1, 1) := by decide +kernel
theorem dX7_join_64 : decode cX7_join 64 = .ok (.invokevirtual 232, 3) := by decide +kernel
theorem dX7_join_67 : decode cX7_join 67 = .ok (.istore 6, 2) := by decide +kernel
theorem dX7_join_69 : decode cX7_join 69 = .ok (.iload 6, 2) := by decide +kernel
theorem dX7_join_71 : decode cX7_join 71 = .ok (.iload 4, 2) := by decide +kernel
theorem dX7_join_73 : decode cX7_join 73 = .ok (.if_icmp .le 8, 3) := by decide +kernel
theorem dX7_join_76 : decode cX7_join 76 = .ok (.iload 5, 2) := by decide +kernel
theorem dX7_join_78 : decode cX7_join 78 = .ok (.goto 4, 3) := by decide +kernel
theorem dX7_join_81 : decode cX7_join 81 = .ok (.iload_n 3, 1) := by decide +kernel
theorem dX7_join_82 : decode cX7_join 82 = .ok (.istore_n 3, 1) := by decide +kernel
theorem dX7_join_83 : decode cX7_join 83 = .ok (.iload 6, 2) := by decide +kernel
theorem dX7_join_85 : decode cX7_join 85 = .ok (.iload 4, 2) := by decide +kernel
theorem dX7_join_87 : decode cX7_join 87 = .ok (.if_icmp .le 8, 3) := by decide +kernel
theorem dX7_join_90 : decode cX7_join 90 = .ok (.iload 6, 2) := by decide +kernel
theorem dX7_join_92 : decode cX7_join 92 = .ok (.goto 5, 3) := by decide +kernel
theorem dX7_join_95 : decode cX7_join 95 = .ok (.iload 4, 2) := by decide +kernel
theorem dX7_join_97 : decode cX7_join 97 = .ok (.istore 4, 2) := by decide +kernel
theorem dX7_join_99 : decode cX7_join 99 = .ok (.iinc 5 1, 3) := by decide +kernel
theorem dX7_join_102 : decode cX7_join 102 = .ok (.goto (-68), 3) := by decide +kernel
theorem dX7_join_105 : decode cX7_join 105 = .ok (.iload_n 2, 1) := by decide +kernel
theorem dX7_join_106 : decode cX7_join 106 = .ok (.ifCond .ne 7, 3) := by decide +kernel
theorem dX7_join_109 : decode cX7_join 109 = .ok (.iload_n 3, 1) := by decide +kernel
theorem dX7_join_110 : decode cX7_join 110 = .ok (.goto 5, 3) := by decide +kernel
theorem dX7_join_113 : decode cX7_join 113 = .ok (.iload 4, 2) := by decide +kernel
theorem dX7_join_115 : decode cX7_join 115 = .ok (.ireturn, 1) := by decide +kernel
theorem dX7_leave_0 : decode cX7_leave 0 = .ok (.iload_n 1, 1) := by decide +kernel
theorem dX7_leave_1 : decode cX7_leave 1 = .ok (.invokestatic 183, 3) := by decide +kernel
theorem dX7_leave_4 : decode cX7_leave 4 = .ok (.ifCond .ne 6, 3) := by decide +kernel
theorem dX7_leave_7 : decode cX7_leave 7 = .ok (.bipush (-5), 2) := by decide +kernel
theorem dX7_leave_9 : decode cX7_leave 9 = .ok (.ireturn, 1) := by decide +kernel
theorem dX7_leave_10 : decode cX7_leave 10 = .ok (.iload_n 2, 1) := by decide +kernel
theorem dX7_leave_11 : decode cX7_leave 11 = .ok (.iconst 0, 1) := by decide +kernel
theorem dX7_leave_12 : decode cX7_leave 12 = .ok (.iconst 1, 1) := by decide +kernel
theorem dX7_leave_13 : decode cX7_leave 13 = .ok (.invokestatic 90, 3) := by decide +kernel
theorem dX7_leave_16 : decode cX7_leave 16 = .ok (.ifCond .ne 6, 3) := by decide +kernel
theorem dX7_leave_19 : decode cX7_leave 19 = .ok (.bipush (-7), 2) := by decide +kernel
theorem dX7_leave_21 : decode cX7_leave 21 = .ok (.ireturn, 1) := by decide +kernel
theorem dX7_leave_22 : decode cX7_leave 22 = .ok (.aload_n 0, 1) := by decide +kernel
theorem dX7_leave_23 : decode cX7_leave 23 = .ok (.iload_n 1, 1) := by decide +kernel
theorem dX7_leave_24 : decode cX7_leave 24 = .ok (.invokevirtual 217, 3) := by decide +kernel
theorem dX7_leave_27 : decode cX7_leave 27 = .ok (.istore_n 3, 1) := by decide +kernel
theorem dX7_leave_28 : decode cX7_leave 28 = .ok (.iconst 0, 1) := by decide +kernel
theorem dX7_leave_29 : decode cX7_leave 29 = .ok (.istore 4, 2) := by decide +kernel
theorem dX7_leave_31 : decode cX7_leave 31 = .ok (.iconst 0, 1) := by decide +kernel
theorem dX7_leave_32 : decode cX7_leave 32 = .ok (.istore 5, 2) := by decide +kernel
theorem dX7_leave_34 : decode cX7_leave 34 = .ok (.iload 5, 2) := by decide +kernel
theorem dX7_leave_36 : decode cX7_leave 36 = .ok (.aload_n 0, 1) := by decide +kernel
theorem dX7_leave_37 : decode cX7_leave 37 = .ok (.getfield 87, 3) := by decide +kernel
theorem dX7_leave_40 : decode cX7_leave 40 = .ok (.if_icmp .ge 77, 3) := by decide +kernel
theorem dX7_leave_43 : decode cX7_leave 43 = .ok (.aload_n 0, 1) := by decide +kernel
theorem dX7_leave_44 : decode cX7_leave 44 = .ok (.getfield 19, 3) := by decide +kernel
theorem dX7_leave_47 : decode cX7_leave 47 = .ok (.iload 5, 2) := by decide +kernel
theorem dX7_leave_49 : decode cX7_leave 49 = .ok (.iaload, 1) := by decide +kernel
theorem dX7_leave_50 : decode cX7_leave 50 = .ok (.iload_n 1, 1) := by decide +kernel
theorem dX7_leave_51 : decode cX7_leave 51 = .ok (.if_icmp .ne 14, 3) := by decide +kernel
theorem dX7_leave_54 : decode cX7_leave 54 = .ok (.aload_n 0, 1) := by decide +kernel
theorem dX7_leave_55 : decode cX7_leave 55 = .ok (.iload_n 1, 1) := by decide +kernel
theorem dX7_leave_56 : decode cX7_leave 56 = .ok (.iload 5, 2) := by decide +kernel
theorem dX7_leave_58 : decode cX7_leave 58 = .ok (.iconst (-1), 1) := by decide +kernel
theorem dX7_leave_59 : decode cX7_leave 59 = .ok (.invokevirtual 232, 3) := by decide +kernel
theorem dX7_leave_62 : decode cX7_leave 62 = .ok (.goto 4, 3) := by decide +kernel
theorem dX7_leave_65 : decode cX7_leave 65 = .ok (.iconst (-1), 1) := by decide +kernel
theorem dX7_leave_66 : decode cX7_leave 66 = .ok (.istore 6, 2) := by decide +kernel
theorem dX7_leave_68 : decode cX7_leave 68 = .ok (.iload 4, 2) := by decide +kernel
theorem dX7_leave_70 : decode cX7_leave 70 = .ok (.aload_n 0, 1) := by decide +kernel
theorem dX7_leave_71 : decode cX7_leave 71 = .ok (.getfield 19, 3) := by decide +kernel
theorem dX7_leave_74 : decode cX7_leave 74 = .ok (.iload 5, 2) := by decide +kernel
theorem dX7_leave_76 : decode cX7_leave 76 = .ok (.iaload, 1) := by decide +kernel
theorem dX7_leave_77 : decode cX7_leave 77 = .ok (.iload_n 1, 1) := by decide +kernel
theorem dX7_leave_78 : decode cX7_leave 78 = .ok (.if_icmp .ne 29, 3) := by decide +kernel
theorem dX7_leave_81 : decode cX7_leave 81 = .ok (.iload_n 2, 1) := by decide +kernel
theorem dX7_leave_82 : decode cX7_leave 82 = .ok (.ifCond .ne 12, 3) := by decide +kernel
theorem dX7_leave_85 : decode cX7_leave 85 = .ok (.iload 6, 2) := by decide +kernel
theorem dX7_leave_87 : decode cX7_leave 87 = .ok (.iload_n 3, 1) := by decide +kernel
theorem dX7_leave_88 : decode cX7_leave 88 = .ok (.if_icmp .le 19, 3) := by decide +kernel
theorem dX7_leave_91 : decode cX7_leave 91 = .ok (.goto 9, 3) := by decide +kernel
theorem dX7_leave_94 : decode cX7_leave 94 = .ok (.iload 6, 2) := by decide +kernel
theorem dX7_leave_96 : decode cX7_leave 96 = .ok (.iload_n 3, 1) := by decide +kernel
theorem dX7_leave_97 : decode cX7_leave 97 = .ok (.if_icmp .lt 10, 3) := by decide +kernel
theorem dX7_leave_100 : decode cX7_leave 100 = .ok (.iconst 1, 1) := by decide +kernel
theorem dX7_leave_101 : decode cX7_leave 101 = .ok (.iload 5, 2) := by decide +kernel
theorem dX7_leave_103 : decode cX7_leave 103 = .ok (.ishl, 1) := by decide +kernel
theorem dX7_leave_104 : decode cX7_leave 104 = .ok (.goto 4, 3) := by decide +kernel
theorem dX7_leave_107 : decode cX7_leave 107 = .ok (.iconst 0, 1) := by decide +kernel
theorem dX7_leave_108 : decode cX7_leave 108 = .ok (.ior, 1) := by decide +kernel
theorem dX7_leave_109 : decode cX7_leave 109 = .ok (.istore 4, 2) := by decide +kernel
theorem dX7_leave_111 : decode cX7_leave 111 = .ok (.iinc 5 1, 3) := by decide +kernel
theorem dX7_leave_114 : decode cX7_leave 114 = .ok (.goto (-80), 3) := by decide +kernel
theorem dX7_leave_117 : decode cX7_leave 117 = .ok (.iload 4, 2) := by decide +kernel
theorem dX7_leave_119 : decode cX7_leave 119 = .ok (.ireturn, 1) := by decide +kernel
theorem dX7_coveredBy_0 : decode cX7_coveredBy 0 = .ok (.iconst 0, 1) := by decide +kernel
theorem dX7_coveredBy_1 : decode cX7_coveredBy 1 = .ok (.istore_n 2, 1) := by decide +kernel
theorem dX7_coveredBy_2 : decode cX7_coveredBy 2 = .ok (.iconst 0, 1) := by decide +kernel
theorem dX7_coveredBy_3 : decode cX7_coveredBy 3 = .ok (.istore_n 3, 1) := by decide +kernel
theorem dX7_coveredBy_4 : decode cX7_coveredBy 4 = .ok (.iload_n 3, 1) := by decide +kernel
theorem dX7_coveredBy_5 : decode cX7_coveredBy 5 = .ok (.aload_n 0, 1) := by decide +kernel
theorem dX7_coveredBy_6 : decode cX7_coveredBy 6 = .ok (.getfield 94, 3) := by decide +kernel
theorem dX7_coveredBy_9 : decode cX7_coveredBy 9 = .ok (.if_icmp .ge 57, 3) := by decide +kernel
theorem dX7_coveredBy_12 : decode cX7_coveredBy 12 = .ok (.iconst 0, 1) := by decide +kernel
theorem dX7_coveredBy_13 : decode cX7_coveredBy 13 = .ok (.istore 4, 2) := by decide +kernel
theorem dX7_coveredBy_15 : decode cX7_coveredBy 15 = .ok (.iload 4, 2) := by decide +kernel
theorem dX7_coveredBy_17 : decode cX7_coveredBy 17 = .ok (.aload_n 0, 1) := by decide +kernel
theorem dX7_coveredBy_18 : decode cX7_coveredBy 18 = .ok (.getfield 87, 3) := by decide +kernel
theorem dX7_coveredBy_21 : decode cX7_coveredBy 21 = .ok (.if_icmp .ge 39, 3) := by decide +kernel
theorem dX7_coveredBy_24 : decode cX7_coveredBy 24 = .ok (.iload_n 2, 1) := by decide +kernel
theorem dX7_coveredBy_25 : decode cX7_coveredBy 25 = .ok (.iload_n 1, 1) := by decide +kernel
theorem dX7_coveredBy_26 : decode cX7_coveredBy 26 = .ok (.iload 4, 2) := by decide +kernel
theorem dX7_coveredBy_28 : decode cX7_coveredBy 28 = .ok (.ishr, 1) := by decide +kernel
theorem dX7_coveredBy_29 : decode cX7_coveredBy 29 = .ok (.iconst 1, 1) := by decide +kernel
theorem dX7_coveredBy_30 : decode cX7_coveredBy 30 = .ok (.iand, 1) := by decide +kernel
theorem dX7_coveredBy_31 : decode cX7_coveredBy 31 = .ok (.iconst 1, 1) := by decide +kernel
theorem dX7_coveredBy_32 : decode cX7_coveredBy 32 = .ok (.if_icmp .ne 19, 3) := by decide +kernel
theorem dX7_coveredBy_35 : decode cX7_coveredBy 35 = .ok (.aload_n 0, 1) := by decide +kernel
theorem dX7_coveredBy_36 : decode cX7_coveredBy 36 = .ok (.iload 4, 2) := by decide +kernel
theorem dX7_coveredBy_38 : decode cX7_coveredBy 38 = .ok (.iload_n 3, 1) := by decide +kernel
theorem dX7_coveredBy_39 : decode cX7_coveredBy 39 = .ok (.invokevirtual 198, 3) := by decide +kernel
theorem dX7_coveredBy_42 : decode cX7_coveredBy 42 = .ok (.ifCond .eq 9, 3) := by decide +kernel
theorem dX7_coveredBy_45 : decode cX7_coveredBy 45 = .ok (.iconst 1, 1) := by decide +kernel
theorem dX7_coveredBy_46 : decode cX7_coveredBy 46 = .ok (.iload_n 3, 1) := by decide +kernel
theorem dX7_coveredBy_47 : decode cX7_coveredBy 47 = .ok (.ishl, 1) := by decide +kernel
theorem dX7_coveredBy_48 : decode cX7_coveredBy 48 = .ok (.goto 4, 3) := by decide +kernel
theorem dX7_coveredBy_51 : decode cX7_coveredBy 51 = .ok (.iconst 0, 1) := by decide +kernel
theorem dX7_coveredBy_52 : decode cX7_coveredBy 52 = .ok (.ior, 1) := by decide +kernel
theorem dX7_coveredBy_53 : decode cX7_coveredBy 53 = .ok (.istore_n 2, 1) := by decide +kernel
theorem dX7_coveredBy_54 : decode cX7_coveredBy 54 = .ok (.iinc 4 1, 3) := by decide +kernel
theorem dX7_coveredBy_57 : decode cX7_coveredBy 57 = .ok (.goto (-42), 3) := by decide +kernel
theorem dX7_coveredBy_60 : decode cX7_coveredBy 60 = .ok (.iinc 3 1, 3) := by decide +kernel
theorem dX7_coveredBy_63 : decode cX7_coveredBy 63 = .ok (.goto (-59), 3) := by decide +kernel
theorem dX7_coveredBy_66 : decode cX7_coveredBy 66 = .ok (.iload_n 2, 1) := by decide +kernel
theorem dX7_coveredBy_67 : decode cX7_coveredBy 67 = .ok (.ireturn, 1) := by decide +kernel
theorem dX7_cover_0 : decode cX7_cover 0 = .ok (.iload_n 1, 1) := by decide +kernel
theorem dX7_cover_1 : decode cX7_cover 1 = .ok (.iconst 0, 1) := by decide +kernel
theorem dX7_cover_2 : decode cX7_cover 2 = .ok (.iconst 1, 1) := by decide +kernel
theorem dX7_cover_3 : decode cX7_cover 3 = .ok (.invokestatic 90, 3) := by decide +kernel
theorem dX7_cover_6 : decode cX7_cover 6 = .ok (.ifCond .ne 6, 3) := by decide +kernel
theorem dX7_cover_9 : decode cX7_cover 9 = .ok (.bipush (-2), 2) := by decide +kernel
theorem dX7_cover_11 : decode cX7_cover 11 = .ok (.ireturn, 1) := by decide +kernel
theorem dX7_cover_12 : decode cX7_cover 12 = .ok (.aload_n 0, 1) := by decide +kernel
theorem dX7_cover_13 : decode cX7_cover 13 = .ok (.iconst 1, 1) := by decide +kernel
theorem dX7_cover_14 : decode cX7_cover 14 = .ok (.aload_n 0, 1) := by decide +kernel
theorem dX7_cover_15 : decode cX7_cover 15 = .ok (.getfield 87, 3) := by decide +kernel
theorem dX7_cover_18 : decode cX7_cover 18 = .ok (.ishl, 1) := by decide +kernel
theorem dX7_cover_19 : decode cX7_cover 19 = .ok (.iconst 1, 1) := by decide +kernel
theorem dX7_cover_20 : decode cX7_cover 20 = .ok (.isub, 1) := by decide +kernel
theorem dX7_cover_21 : decode cX7_cover 21 = .ok (.invokevirtual 235, 3) := by decide +kernel
theorem dX7_cover_24 : decode cX7_cover 24 = .ok (.istore_n 2, 1) := by decide +kernel
theorem dX7_cover_25 : decode cX7_cover 25 = .ok (.iconst (-1), 1) := by decide +kernel
theorem dX7_cover_26 : decode cX7_cover 26 = .ok (.istore_n 3, 1) := by decide +kernel
theorem dX7_cover_27 : decode cX7_cover 27 = .ok (.iconst 0, 1) := by decide +kernel
theorem dX7_cover_28 : decode cX7_cover 28 = .ok (.istore 4, 2) := by decide +kernel
theorem dX7_cover_30 : decode cX7_cover 30 = .ok (.iload 4, 2) := by decide +kernel
theorem dX7_cover_32 : decode cX7_cover 32 = .ok (.iconst 1, 1) := by decide +kernel
theorem dX7_cover_33 : decode cX7_cover 33 = .ok (.aload_n 0, 1) := by decide +kernel
theorem dX7_cover_34 : decode cX7_cover 34 = .ok (.getfield 87, 3) := by decide +kernel
theorem dX7_cover_37 : decode cX7_cover 37 = .ok (.ishl, 1) := by decide +kernel
theorem dX7_cover_38 : decode cX7_cover 38 = .ok (.if_icmp .ge 55, 3) := by decide +kernel
theorem dX7_cover_41 : decode cX7_cover 41 = .ok (.iload_n 3, 1) := by decide +kernel
theorem dX7_cover_42 : decode cX7_cover 42 = .ok (.iconst (-1), 1) := by decide +kernel
theorem dX7_cover_43 : decode cX7_cover 43 = .ok (.if_icmp .eq 15, 3) := by decide +kernel
theorem dX7_cover_46 : decode cX7_cover 46 = .ok (.iload 4, 2) := by decide +kernel
theorem dX7_cover_48 : decode cX7_cover 48 = .ok (.invokestatic 238, 3) := by decide +kernel
theorem dX7_cover_51 : decode cX7_cover 51 = .ok (.iload_n 3, 1) := by decide +kernel
theorem dX7_cover_52 : decode cX7_cover 52 = .ok (.invokestatic 238, 3) := by decide +kernel
theorem dX7_cover_55 : decode cX7_cover 55 = .ok (.if_icmp .ge 7, 3) := by decide +kernel
theorem dX7_cover_58 : decode cX7_cover 58 = .ok (.iconst 1, 1) := by decide +kernel
theorem dX7_cover_59 : decode cX7_cover 59 = .ok (.goto 4, 3) := by decide +kernel
theorem dX7_cover_62 : decode cX7_cover 62 = .ok (.iconst 0, 1) := by decide +kernel
theorem dX7_cover_63 : decode cX7_cover 63 = .ok (.istore 5, 2) := by decide +kernel
theorem dX7_cover_65 : decode cX7_cover 65 = .ok (.iload 5, 2) := by decide +kernel
theorem dX7_cover_67 : decode cX7_cover 67 = .ok (.ifCond .eq 18, 3) := by decide +kernel
theorem dX7_cover_70 : decode cX7_cover 70 = .ok (.aload_n 0, 1) := by decide +kernel
theorem dX7_cover_71 : decode cX7_cover 71 = .ok (.iload 4, 2) := by decide +kernel
theorem dX7_cover_73 : decode cX7_cover 73 = .ok (.invokevirtual 235, 3) := by decide +kernel
theorem dX7_cover_76 : decode cX7_cover 76 = .ok (.iload_n 2, 1) := by decide +kernel
theorem dX7_cover_77 : decode cX7_cover 77 = .ok (.if_icmp .ne 8, 3) := by decide +kernel
theorem dX7_cover_80 : decode cX7_cover 80 = .ok (.iload 4, 2) := by decide +kernel
theorem dX7_cover_82 : decode cX7_cover 82 = .ok (.goto 4, 3) := by decide +kernel
theorem dX7_cover_85 : decode cX7_cover 85 = .ok (.iload_n 3, 1) := by decide +kernel
theorem dX7_cover_86 : decode cX7_cover 86 = .ok (.istore_n 3, 1) := by decide +kernel
theorem dX7_cover_87 : decode cX7_cover 87 = .ok (.iinc 4 1, 3) := by decide +kernel
theorem dX7_cover_90 : decode cX7_cover 90 = .ok (.goto (-60), 3) := by decide +kernel
theorem dX7_cover_93 : decode cX7_cover 93 = .ok (.iload_n 1, 1) := by decide +kernel
theorem dX7_cover_94 : decode cX7_cover 94 = .ok (.ifCond .ne 10, 3) := by decide +kernel
theorem dX7_cover_97 : decode cX7_cover 97 = .ok (.iload_n 3, 1) := by decide +kernel
theorem dX7_cover_98 : decode cX7_cover 98 = .ok (.invokestatic 238, 3) := by decide +kernel
theorem dX7_cover_101 : decode cX7_cover 101 = .ok (.goto 4, 3) := by decide +kernel
theorem dX7_cover_104 : decode cX7_cover 104 = .ok (.iload_n 3, 1) := by decide +kernel
theorem dX7_cover_105 : decode cX7_cover 105 = .ok (.ireturn, 1) := by decide +kernel
theorem dX7_priceOf_0 : decode cX7_priceOf 0 = .ok (.iconst 0, 1) := by decide +kernel
theorem dX7_priceOf_1 : decode cX7_priceOf 1 = .ok (.istore_n 2, 1) := by decide +kernel
theorem dX7_priceOf_2 : decode cX7_priceOf 2 = .ok (.iconst 1, 1) := by decide +kernel
theorem dX7_priceOf_3 : decode cX7_priceOf 3 = .ok (.istore_n 3, 1) := by decide +kernel
theorem dX7_priceOf_4 : decode cX7_priceOf 4 = .ok (.iload_n 3, 1) := by decide +kernel
theorem dX7_priceOf_5 : decode cX7_priceOf 5 = .ok (.iconst 4, 1) := by decide +kernel
theorem dX7_priceOf_6 : decode cX7_priceOf 6 = .ok (.if_icmp .ge 38, 3) := by decide +kernel
theorem dX7_priceOf_9 : decode cX7_priceOf 9 = .ok (.aload_n 0, 1) := by decide +kernel
theorem dX7_priceOf_10 : decode cX7_priceOf 10 = .ok (.getfield 22, 3) := by decide +kernel
theorem dX7_priceOf_13 : decode cX7_priceOf 13 = .ok (.iconst 4, 1) := by decide +kernel
theorem dX7_priceOf_14 : decode cX7_priceOf 14 = .ok (.iload_n 1, 1) := by decide +kernel
theorem dX7_priceOf_15 : decode cX7_priceOf 15 = .ok (.imul, 1) := by decide +kernel
theorem dX7_priceOf_16 : decode cX7_priceOf 16 = .ok (.iload_n 3, 1) := by decide +kernel
theorem dX7_priceOf_17 : decode cX7_priceOf 17 = .ok (.iadd, 1) := by decide +kernel
theorem dX7_priceOf_18 : decode cX7_priceOf 18 = .ok (.iaload, 1) := by decide +kernel
theorem dX7_priceOf_19 : decode cX7_priceOf 19 = .ok (.aload_n 0, 1) := by decide +kernel
theorem dX7_priceOf_20 : decode cX7_priceOf 20 = .ok (.getfield 22, 3) := by decide +kernel
theorem dX7_priceOf_23 : decode cX7_priceOf 23 = .ok (.iconst 4, 1) := by decide +kernel
theorem dX7_priceOf_24 : decode cX7_priceOf 24 = .ok (.iload_n 1, 1) := by decide +kernel
theorem dX7_priceOf_25 : decode cX7_priceOf 25 = .ok (.imul, 1) := by decide +kernel
theorem dX7_priceOf_26 : decode cX7_priceOf 26 = .ok (.iload_n 2, 1) := by decide +kernel
theorem dX7_priceOf_27 : decode cX7_priceOf 27 = .ok (.iadd, 1) := by decide +kernel
theorem dX7_priceOf_28 : decode cX7_priceOf 28 = .ok (.iaload, 1) := by decide +kernel
theorem dX7_priceOf_29 : decode cX7_priceOf 29 = .ok (.if_icmp .le 7, 3) := by decide +kernel
theorem dX7_priceOf_32 : decode cX7_priceOf 32 = .ok (.iload_n 3, 1) := by decide +kernel
theorem dX7_priceOf_33 : decode cX7_priceOf 33 = .ok (.goto 4, 3) := by decide +kernel
theorem dX7_priceOf_36 : decode cX7_priceOf 36 = .ok (.iload_n 2, 1) := by decide +kernel
theorem dX7_priceOf_37 : decode cX7_priceOf 37 = .ok (.istore_n 2, 1) := by decide +kernel
theorem dX7_priceOf_38 : decode cX7_priceOf 38 = .ok (.iinc 3 1, 3) := by decide +kernel
theorem dX7_priceOf_41 : decode cX7_priceOf 41 = .ok (.goto (-37), 3) := by decide +kernel
theorem dX7_priceOf_44 : decode cX7_priceOf 44 = .ok (.aload_n 0, 1) := by decide +kernel
theorem dX7_priceOf_45 : decode cX7_priceOf 45 = .ok (.iconst 2, 1) := by decide +kernel
theorem dX7_priceOf_46 : decode cX7_priceOf 46 = .ok (.aload_n 0, 1) := by decide +kernel
theorem dX7_priceOf_47 : decode cX7_priceOf 47 = .ok (.getfield 22, 3) := by decide +kernel
theorem dX7_priceOf_50 : decode cX7_priceOf 50 = .ok (.iconst 4, 1) := by decide +kernel
theorem dX7_priceOf_51 : decode cX7_priceOf 51 = .ok (.iload_n 1, 1) := by decide +kernel
theorem dX7_priceOf_52 : decode cX7_priceOf 52 = .ok (.imul, 1) := by decide +kernel
theorem dX7_priceOf_53 : decode cX7_priceOf 53 = .ok (.iload_n 2, 1) := by decide +kernel
theorem dX7_priceOf_54 : decode cX7_priceOf 54 = .ok (.iadd, 1) := by decide +kernel
theorem dX7_priceOf_55 : decode cX7_priceOf 55 = .ok (.iaload, 1) := by decide +kernel
theorem dX7_priceOf_56 : decode cX7_priceOf 56 = .ok (.iconst 0, 1) := by decide +kernel
theorem dX7_priceOf_57 : decode cX7_priceOf 57 = .ok (.aload_n 0, 1) := by decide +kernel
theorem dX7_priceOf_58 : decode cX7_priceOf 58 = .ok (.getfield 13, 3) := by decide +kernel
theorem dX7_priceOf_61 : decode cX7_priceOf 61 = .ok (.iload_n 1, 1) := by decide +kernel
theorem dX7_priceOf_62 : decode cX7_priceOf 62 = .ok (.iaload, 1) := by decide +kernel
theorem dX7_priceOf_63 : decode cX7_priceOf 63 = .ok (.iload_n 2, 1) := by decide +kernel
theorem dX7_priceOf_64 : decode cX7_priceOf 64 = .ok (.iconst 0, 1) := by decide +kernel
theorem dX7_priceOf_65 : decode cX7_priceOf 65 = .ok (.iload_n 1, 1) := by decide +kernel
theorem dX7_priceOf_66 : decode cX7_priceOf 66 = .ok (.invokevirtual 173, 3) := by decide +kernel
theorem dX7_priceOf_69 : decode cX7_priceOf 69 = .ok (.ireturn, 1) := by decide +kernel
theorem dX7_hire_0 : decode cX7_hire 0 = .ok (.iload_n 1, 1) := by decide +kernel
theorem dX7_hire_1 : decode cX7_hire 1 = .ok (.invokestatic 183, 3) := by decide +kernel
theorem dX7_hire_4 : decode cX7_hire 4 = .ok (.ifCond .ne 6, 3) := by decide +kernel
theorem dX7_hire_7 : decode cX7_hire 7 = .ok (.bipush (-5), 2) := by decide +kernel
theorem dX7_hire_9 : decode cX7_hire 9 = .ok (.ireturn, 1) := by decide +kernel
theorem dX7_hire_10 : decode cX7_hire 10 = .ok (.iload_n 2, 1) := by decide +kernel
theorem dX7_hire_11 : decode cX7_hire 11 = .ok (.iconst 0, 1) := by decide +kernel
theorem dX7_hire_12 : decode cX7_hire 12 = .ok (.sipush 999, 3) := by decide +kernel
theorem dX7_hire_15 : decode cX7_hire 15 = .ok (.invokestatic 90, 3) := by decide +kernel
theorem dX7_hire_18 : decode cX7_hire 18 = .ok (.ifCond .eq 12, 3) := by decide +kernel
theorem dX7_hire_21 : decode cX7_hire 21 = .ok (.iload_n 3, 1) := by decide +kernel
theorem dX7_hire_22 : decode cX7_hire 22 = .ok (.iconst 0, 1) := by decide +kernel
theorem dX7_hire_23 : decode cX7_hire 23 = .ok (.iconst 1, 1) := by decide +kernel
theorem dX7_hire_24 : decode cX7_hire 24 = .ok (.invokestatic 90, 3) := by decide +kernel
theorem dX7_hire_27 : decode cX7_hire 27 = .ok (.ifCond .ne 6, 3) := by decide +kernel
theorem dX7_hire_30 : decode cX7_hire 30 = .ok (.bipush (-7), 2) := by decide +kernel
theorem dX7_hire_32 : decode cX7_hire 32 = .ok (.ireturn, 1) := by decide +kernel
theorem dX7_hire_33 : decode cX7_hire 33 = .ok (.iconst (-1), 1) := by decide +kernel
theorem dX7_hire_34 : decode cX7_hire 34 = .ok (.istore 4, 2) := by decide +kernel
theorem dX7_hire_36 : decode cX7_hire 36 = .ok (.aload_n 0, 1) := by decide +kernel
theorem dX7_hire_37 : decode cX7_hire 37 = .ok (.iload_n 1, 1) := by decide +kernel
theorem dX7_hire_38 : decode cX7_hire 38 = .ok (.invokevirtual 217, 3) := by decide +kernel
theorem dX7_hire_41 : decode cX7_hire 41 = .ok (.istore 5, 2) := by decide +kernel
theorem dX7_hire_43 : decode cX7_hire 43 = .ok (.iconst (-1), 1) := by decide +kernel
theorem dX7_hire_44 : decode cX7_hire 44 = .ok (.istore 6, 2) := by decide +kernel
theorem dX7_hire_46 : decode cX7_hire 46 = .ok (.iconst 0, 1) := by decide +kernel
theorem dX7_hire_47 : decode cX7_hire 47 = .ok (.istore 7, 2) := by decide +kernel
theorem dX7_hire_49 : decode cX7_hire 49 = .ok (.iload 7, 2) := by decide +kernel
theorem dX7_hire_51 : decode cX7_hire 51 = .ok (.aload_n 0, 1) := by decide +kernel
theorem dX7_hire_52 : decode cX7_hire 52 = .ok (.getfield 87, 3) := by decide +kernel
theorem dX7_hire_55 : decode cX7_hire 55 = .ok (.if_icmp .ge 120, 3) := by decide +kernel
theorem dX7_hire_58 : decode cX7_hire 58 = .ok (.aload_n 0, 1) := by decide +kernel
theorem dX7_hire_59 : decode cX7_hire 59 = .ok (.iload 7, 2) := by decide +kernel
theorem dX7_hire_61 : decode cX7_hire 61 = .ok (.invokevirtual 241, 3) := by decide +kernel
theorem dX7_hire_64 : decode cX7_hire 64 = .ok (.istore 8, 2) := by decide +kernel
theorem dX7_hire_66 : decode cX7_hire 66 = .ok (.aload_n 0, 1) := by decide +kernel
theorem dX7_hire_67 : decode cX7_hire 67 = .ok (.getfield 19, 3) := by decide +kernel
theorem dX7_hire_70 : decode cX7_hire 70 = .ok (.iload 7, 2) := by decide +kernel
theorem dX7_hire_72 : decode cX7_hire 72 = .ok (.iaload, 1) := by decide +kernel
theorem dX7_hire_73 : decode cX7_hire 73 = .ok (.iconst (-1), 1) := by decide +kernel
theorem dX7_hire_74 : decode cX7_hire 74 = .ok (.if_icmp .ne 95, 3) := by decide +kernel
theorem dX7_hire_77 : decode cX7_hire 77 = .ok (.iload 8, 2) := by decide +kernel
theorem dX7_hire_79 : decode cX7_hire 79 = .ok (.iload_n 2, 1) := by decide +kernel
theorem dX7_hire_80 : decode cX7_hire 80 = .ok (.if_icmp .gt 89, 3) := by decide +kernel
theorem dX7_hire_83 : decode cX7_hire 83 = .ok (.aload_n 0, 1) := by decide +kernel
theorem dX7_hire_84 : decode cX7_hire 84 = .ok (.iload_n 1, 1) := by decide +kernel
theorem dX7_hire_85 : decode cX7_hire 85 = .ok (.iload 7, 2) := by decide +kernel
theorem dX7_hire_87 : decode cX7_hire 87 = .ok (.iload_n 1, 1) := by decide +kernel
theorem dX7_hire_88 : decode cX7_hire 88 = .ok (.invokevirtual 232, 3) := by decide +kernel
theorem dX7_hire_91 : decode cX7_hire 91 = .ok (.istore 9, 2) := by decide +kernel
theorem dX7_hire_93 : decode cX7_hire 93 = .ok (.iload 9, 2) := by decide +kernel
theorem dX7_hire_95 : decode cX7_hire 95 = .ok (.iload 5, 2) := by decide +kernel
theorem dX7_hire_97 : decode cX7_hire 97 = .ok (.if_icmp .gt 23, 3) := by decide +kernel
theorem dX7_hire_100 : decode cX7_hire 100 = .ok (.iload 4, 2) := by decide +kernel
theorem dX7_hire_102 : decode cX7_hire 102 = .ok (.iconst (-1), 1) := by decide +kernel
theorem dX7_hire_103 : decode cX7_hire 103 = .ok (.if_icmp .eq 21, 3) := by decide +kernel
theorem dX7_hire_106 : decode cX7_hire 106 = .ok (.iload 9, 2) := by decide +kernel
theorem dX7_hire_108 : decode cX7_hire 108 = .ok (.iload 5, 2) := by decide +kernel
theorem dX7_hire_110 : decode cX7_hire 110 = .ok (.if_icmp .ne 14, 3) := by decide +kernel
theorem dX7_hire_113 : decode cX7_hire 113 = .ok (.iload 8, 2) := by decide +kernel
theorem dX7_hire_115 : decode cX7_hire 115 = .ok (.iload 6, 2) := by decide +kernel
theorem dX7_hire_117 : decode cX7_hire 117 = .ok (.if_icmp .ge 7, 3) := by decide +kernel
theorem dX7_hire_120 : decode cX7_hire 120 = .ok (.iconst 1, 1) := by decide +kernel
theorem dX7_hire_121 : decode cX7_hire 121 = .ok (.goto 4, 3) := by decide +kernel
theorem dX7_hire_124 : decode cX7_hire 124 = .ok (.iconst 0, 1) := by decide +kernel
theorem dX7_hire_125 : decode cX7_hire 125 = .ok (.istore 10, 2) := by decide +kernel
theorem dX7_hire_127 : decode cX7_hire 127 = .ok (.iload 10, 2) := by decide +kernel
theorem dX7_hire_129 : decode cX7_hire 129 = .ok (.ifCond .eq 8, 3) := by decide +kernel
theorem dX7_hire_132 : decode cX7_hire 132 = .ok (.iload 7, 2) := by decide +kernel
theorem dX7_hire_134 : decode cX7_hire 134 = .ok (.goto 5, 3) := by decide +kernel
theorem dX7_hire_137 : decode cX7_hire 137 = .ok (.iload 4, 2) := by decide +kernel
theorem dX7_hire_139 : decode cX7_hire 139 = .ok (.istore 4, 2) := by decide +kernel
theorem dX7_hire_141 : decode cX7_hire 141 = .ok (.iload 10, 2) := by decide +kernel
theorem dX7_hire_143 : decode cX7_hire 143 = .ok (.ifCond .eq 8, 3) := by decide +kernel
theorem dX7_hire_146 : decode cX7_hire 146 = .ok (.iload 9, 2) := by decide +kernel
theorem dX7_hire_148 : decode cX7_hire 148 = .ok (.goto 5, 3) := by decide +kernel
theorem dX7_hire_151 : decode cX7_hire 151 = .ok (.iload 5, 2) := by decide +kernel
theorem dX7_hire_153 : decode cX7_hire 153 = .ok (.istore 5, 2) := by decide +kernel
theorem dX7_hire_155 : decode cX7_hire 155 = .ok (.iload 10, 2) := by decide +kernel
theorem dX7_hire_157 : decode cX7_hire 157 = .ok (.ifCond .eq 8, 3) := by decide +kernel
theorem dX7_hire_160 : decode cX7_hire 160 = .ok (.iload 8, 2) := by decide +kernel
theorem dX7_hire_162 : decode cX7_hire 162 = .ok (.goto 5, 3) := by decide +kernel
theorem dX7_hire_165 : decode cX7_hire 165 = .ok (.iload 6, 2) := by decide +kernel
theorem dX7_hire_167 : decode cX7_hire 167 = .ok (.istore 6, 2) := by decide +kernel
theorem dX7_hire_169 : decode cX7_hire 169 = .ok (.iinc 7 1, 3) := by decide +kernel
theorem dX7_hire_172 : decode cX7_hire 172 = .ok (.goto (-123), 3) := by decide +kernel
theorem dX7_hire_175 : decode cX7_hire 175 = .ok (.iload_n 3, 1) := by decide +kernel
theorem dX7_hire_176 : decode cX7_hire 176 = .ok (.ifCond .ne 8, 3) := by decide +kernel
theorem dX7_hire_179 : decode cX7_hire 179 = .ok (.iload 4, 2) := by decide +kernel
theorem dX7_hire_181 : decode cX7_hire 181 = .ok (.goto 5, 3) := by decide +kernel
theorem dX7_hire_184 : decode cX7_hire 184 = .ok (.iload 6, 2) := by decide +kernel
theorem dX7_hire_186 : decode cX7_hire 186 = .ok (.ireturn, 1) := by decide +kernel
theorem dX7_price_0 : decode cX7_price 0 = .ok (.aload_n 0, 1) := by decide +kernel
theorem dX7_price_1 : decode cX7_price 1 = .ok (.iload_n 1, 1) := by decide +kernel
theorem dX7_price_2 : decode cX7_price 2 = .ok (.invokevirtual 177, 3) := by decide +kernel
theorem dX7_price_5 : decode cX7_price 5 = .ok (.ifCond .eq 11, 3) := by decide +kernel
theorem dX7_price_8 : decode cX7_price 8 = .ok (.aload_n 0, 1) := by decide +kernel
theorem dX7_price_9 : decode cX7_price 9 = .ok (.iload_n 1, 1) := by decide +kernel
theorem dX7_price_10 : decode cX7_price 10 = .ok (.invokevirtual 241, 3) := by decide +kernel
theorem dX7_price_13 : decode cX7_price 13 = .ok (.goto 5, 3) := by decide +kernel
theorem dX7_price_16 : decode cX7_price 16 = .ok (.bipush (-5), 2) := by decide +kernel
theorem dX7_price_18 : decode cX7_price 18 = .ok (.ireturn, 1) := by decide +kernel
theorem dX7_close_0 : decode cX7_close 0 = .ok (.iload_n 1, 1) := by decide +kernel
theorem dX7_close_1 : decode cX7_close 1 = .ok (.iconst 0, 1) := by decide +kernel
theorem dX7_close_2 : decode cX7_close 2 = .ok (.bipush 8, 2) := by decide +kernel
theorem dX7_close_4 : decode cX7_close 4 = .ok (.invokestatic 90, 3) := by decide +kernel
theorem dX7_close_7 : decode cX7_close 7 = .ok (.ifCond .eq 12, 3) := by decide +kernel
theorem dX7_close_10 : decode cX7_close 10 = .ok (.iload_n 2, 1) := by decide +kernel
theorem dX7_close_11 : decode cX7_close 11 = .ok (.iconst 0, 1) := by decide +kernel
theorem dX7_close_12 : decode cX7_close 12 = .ok (.iconst 1, 1) := by decide +kernel
theorem dX7_close_13 : decode cX7_close 13 = .ok (.invokestatic 90, 3) := by decide +kernel
theorem dX7_close_16 : decode cX7_close 16 = .ok (.ifCond .ne 6, 3) := by decide +kernel
theorem dX7_close_19 : decode cX7_close 19 = .ok (.bipush (-2), 2) := by decide +kernel
theorem dX7_close_21 : decode cX7_close 21 = .ok (.ireturn, 1) := by decide +kernel
theorem dX7_close_22 : decode cX7_close 22 = .ok (.iconst (-1), 1) := by decide +kernel
theorem dX7_close_23 : decode cX7_close 23 = .ok (.istore_n 3, 1) := by decide +kernel
theorem dX7_close_24 : decode cX7_close 24 = .ok (.iconst (-1), 1) := by decide +kernel
theorem dX7_close_25 : decode cX7_close 25 = .ok (.istore 4, 2) := by decide +kernel
theorem dX7_close_27 : decode cX7_close 27 = .ok (.iconst 0, 1) := by decide +kernel
theorem dX7_close_28 : decode cX7_close 28 = .ok (.istore 5, 2) := by decide +kernel
theorem dX7_close_30 : decode cX7_close 30 = .ok (.iload 5, 2) := by decide +kernel
theorem dX7_close_32 : decode cX7_close 32 = .ok (.aload_n 0, 1) := by decide +kernel
theorem dX7_close_33 : decode cX7_close 33 = .ok (.invokevirtual 211, 3) := by decide +kernel
theorem dX7_close_36 : decode cX7_close 36 = .ok (.if_icmp .gt 81, 3) := by decide +kernel
theorem dX7_close_39 : decode cX7_close 39 = .ok (.iload 5, 2) := by decide +kernel
theorem dX7_close_41 : decode cX7_close 41 = .ok (.invokestatic 238, 3) := by decide +kernel
theorem dX7_close_44 : decode cX7_close 44 = .ok (.iload_n 1, 1) := by decide +kernel
theorem dX7_close_45 : decode cX7_close 45 = .ok (.if_icmp .ne 12, 3) := by decide +kernel
theorem dX7_close_48 : decode cX7_close 48 = .ok (.aload_n 0, 1) := by decide +kernel
theorem dX7_close_49 : decode cX7_close 49 = .ok (.iload 5, 2) := by decide +kernel
theorem dX7_close_51 : decode cX7_close 51 = .ok (.invokevirtual 229, 3) := by decide +kernel
theorem dX7_close_54 : decode cX7_close 54 = .ok (.goto 4, 3) := by decide +kernel
theorem dX7_close_57 : decode cX7_close 57 = .ok (.iconst (-1), 1) := by decide +kernel
theorem dX7_close_58 : decode cX7_close 58 = .ok (.istore 6, 2) := by decide +kernel
theorem dX7_close_60 : decode cX7_close 60 = .ok (.iload 6, 2) := by decide +kernel
theorem dX7_close_62 : decode cX7_close 62 = .ok (.iconst (-1), 1) := by decide +kernel
theorem dX7_close_63 : decode cX7_close 63 = .ok (.if_icmp .eq 19, 3) := by decide +kernel
theorem dX7_close_66 : decode cX7_close 66 = .ok (.iload_n 3, 1) := by decide +kernel
theorem dX7_close_67 : decode cX7_close 67 = .ok (.iconst (-1), 1) := by decide +kernel
theorem dX7_close_68 : decode cX7_close 68 = .ok (.if_icmp .eq 10, 3) := by decide +kernel
theorem dX7_close_71 : decode cX7_close 71 = .ok (.iload 6, 2) := by decide +kernel
theorem dX7_close_73 : decode cX7_close 73 = .ok (.iload 4, 2) := by decide +kernel
theorem dX7_close_75 : decode cX7_close 75 = .ok (.if_icmp .ge 7, 3) := by decide +kernel
theorem dX7_close_78 : decode cX7_close 78 = .ok (.iconst 1, 1) := by decide +kernel
theorem dX7_close_79 : decode cX7_close 79 = .ok (.goto 4, 3) := by decide +kernel
theorem dX7_close_82 : decode cX7_close 82 = .ok (.iconst 0, 1) := by decide +kernel
theorem dX7_close_83 : decode cX7_close 83 = .ok (.istore 7, 2) := by decide +kernel
theorem dX7_close_85 : decode cX7_close 85 = .ok (.iload 7, 2) := by decide +kernel
theorem dX7_close_87 : decode cX7_close 87 = .ok (.ifCond .eq 8, 3) := by decide +kernel
theorem dX7_close_90 : decode cX7_close 90 = .ok (.iload 5, 2) := by decide +kernel
theorem dX7_close_92 : decode cX7_close 92 = .ok (.goto 4, 3) := by decide +kernel
theorem dX7_close_95 : decode cX7_close 95 = .ok (.iload_n 3, 1) := by decide +kernel
theorem dX7_close_96 : decode cX7_close 96 = .ok (.istore_n 3, 1) := by decide +kernel
theorem dX7_close_97 : decode cX7_close 97 = .ok (.iload 7, 2) := by decide +kernel
theorem dX7_close_99 : decode cX7_close 99 = .ok (.ifCond .eq 8, 3) := by decide +kernel
theorem dX7_close_102 : decode cX7_close 102 = .ok (.iload 6, 2) := by decide +kernel
theorem dX7_close_104 : decode cX7_close 104 = .ok (.goto 5, 3) := by decide +kernel
theorem dX7_close_107 : decode cX7_close 107 = .ok (.iload 4, 2) := by decide +kernel
theorem dX7_close_109 : decode cX7_close 109 = .ok (.istore 4, 2) := by decide +kernel
theorem dX7_close_111 : decode cX7_close 111 = .ok (.iinc 5 1, 3) := by decide +kernel
theorem dX7_close_114 : decode cX7_close 114 = .ok (.goto (-84), 3) := by decide +kernel
theorem dX7_close_117 : decode cX7_close 117 = .ok (.iload_n 2, 1) := by decide +kernel
theorem dX7_close_118 : decode cX7_close 118 = .ok (.ifCond .ne 7, 3) := by decide +kernel
theorem dX7_close_121 : decode cX7_close 121 = .ok (.iload_n 3, 1) := by decide +kernel
theorem dX7_close_122 : decode cX7_close 122 = .ok (.goto 5, 3) := by decide +kernel
theorem dX7_close_125 : decode cX7_close 125 = .ok (.iload 4, 2) := by decide +kernel
theorem dX7_close_127 : decode cX7_close 127 = .ok (.ireturn, 1) := by decide +kernel
theorem dX7_good_0 : decode cX7_good 0 = .ok (.aload_n 0, 1) := by decide +kernel
theorem dX7_good_1 : decode cX7_good 1 = .ok (.iload_n 1, 1) := by decide +kernel
theorem dX7_good_2 : decode cX7_good 2 = .ok (.invokevirtual 180, 3) := by decide +kernel
theorem dX7_good_5 : decode cX7_good 5 = .ok (.ifCond .ne 6, 3) := by decide +kernel
theorem dX7_good_8 : decode cX7_good 8 = .ok (.ldc 244, 2) := by decide +kernel
theorem dX7_good_10 : decode cX7_good 10 = .ok (.ireturn, 1) := by decide +kernel
theorem dX7_good_11 : decode cX7_good 11 = .ok (.iconst 0, 1) := by decide +kernel
theorem dX7_good_12 : decode cX7_good 12 = .ok (.istore_n 2, 1) := by decide +kernel
theorem dX7_good_13 : decode cX7_good 13 = .ok (.iconst 0, 1) := by decide +kernel
theorem dX7_good_14 : decode cX7_good 14 = .ok (.istore_n 3, 1) := by decide +kernel
theorem dX7_good_15 : decode cX7_good 15 = .ok (.iload_n 3, 1) := by decide +kernel
theorem dX7_good_16 : decode cX7_good 16 = .ok (.iconst 3, 1) := by decide +kernel
theorem dX7_good_17 : decode cX7_good 17 = .ok (.if_icmp .ge 92, 3) := by decide +kernel
theorem dX7_good_20 : decode cX7_good 20 = .ok (.iconst 0, 1) := by decide +kernel
theorem dX7_good_21 : decode cX7_good 21 = .ok (.istore 4, 2) := by decide +kernel
theorem dX7_good_23 : decode cX7_good 23 = .ok (.iload 4, 2) := by decide +kernel
theorem dX7_good_25 : decode cX7_good 25 = .ok (.iconst 3, 1) := by decide +kernel
theorem dX7_good_26 : decode cX7_good 26 = .ok (.if_icmp .ge 77, 3) := by decide +kernel
theorem dX7_good_29 : decode cX7_good 29 = .ok (.iload_n 3, 1) := by decide +kernel
theorem dX7_good_30 : decode cX7_good 30 = .ok (.iload 4, 2) := by decide +kernel
theorem dX7_good_32 : decode cX7_good 32 = .ok (.if_icmp .eq 65, 3) := by decide +kernel
theorem dX7_good_35 : decode cX7_good 35 = .ok (.aload_n 0, 1) := by decide +kernel
theorem dX7_good_36 : decode cX7_good 36 = .ok (.iload_n 3, 1) := by decide +kernel
theorem dX7_good_37 : decode cX7_good 37 = .ok (.iload_n 1, 1) := by decide +kernel
theorem dX7_good_38 : decode cX7_good 38 = .ok (.invokevirtual 202, 3) := by decide +kernel
theorem dX7_good_41 : decode cX7_good 41 = .ok (.ifCond .eq 56, 3) := by decide +kernel
theorem dX7_good_44 : decode cX7_good 44 = .ok (.aload_n 0, 1) := by decide +kernel
theorem dX7_good_45 : decode cX7_good 45 = .ok (.iload 4, 2) := by decide +kernel
theorem dX7_good_47 : decode cX7_good 47 = .ok (.iload_n 1, 1) := by decide +kernel
theorem dX7_good_48 : decode cX7_good 48 = .ok (.invokevirtual 202, 3) := by decide +kernel
theorem dX7_good_51 : decode cX7_good 51 = .ok (.ifCond .ne 46, 3) := by decide +kernel
theorem dX7_good_54 : decode cX7_good 54 = .ok (.aload_n 0, 1) := by decide +kernel
theorem dX7_good_55 : decode cX7_good 55 = .ok (.iload_n 3, 1) := by decide +kernel
theorem dX7_good_56 : decode cX7_good 56 = .ok (.invokevirtual 217, 3) := by decide +kernel
theorem dX7_good_59 : decode cX7_good 59 = .ok (.aload_n 0, 1) := by decide +kernel
theorem dX7_good_60 : decode cX7_good 60 = .ok (.iload_n 3, 1) := by decide +kernel
theorem dX7_good_61 : decode cX7_good 61 = .ok (.iload_n 1, 1) := by decide +kernel
theorem dX7_good_62 : decode cX7_good 62 = .ok (.invokevirtual 208, 3) := by decide +kernel
theorem dX7_good_65 : decode cX7_good 65 = .ok (.isub, 1) := by decide +kernel
theorem dX7_good_66 : decode cX7_good 66 = .ok (.aload_n 0, 1) := by decide +kernel
theorem dX7_good_67 : decode cX7_good 67 = .ok (.iload 4, 2) := by decide +kernel
theorem dX7_good_69 : decode cX7_good 69 = .ok (.invokevirtual 217, 3) := by decide +kernel
theorem dX7_good_72 : decode cX7_good 72 = .ok (.isub, 1) := by decide +kernel
theorem dX7_good_73 : decode cX7_good 73 = .ok (.istore 5, 2) := by decide +kernel
theorem dX7_good_75 : decode cX7_good 75 = .ok (.iload_n 2, 1) := by decide +kernel
theorem dX7_good_76 : decode cX7_good 76 = .ok (.iload 5, 2) := by decide +kernel
theorem dX7_good_78 : decode cX7_good 78 = .ok (.ifCond .le 7, 3) := by decide +kernel
theorem dX7_good_81 : decode cX7_good 81 = .ok (.iconst 1, 1) := by decide +kernel
theorem dX7_good_82 : decode cX7_good 82 = .ok (.goto 13, 3) := by decide +kernel
theorem dX7_good_85 : decode cX7_good 85 = .ok (.iload 5, 2) := by decide +kernel
theorem dX7_good_87 : decode cX7_good 87 = .ok (.ifCond .ge 7, 3) := by decide +kernel
theorem dX7_good_90 : decode cX7_good 90 = .ok (.iconst (-1), 1) := by decide +kernel
theorem dX7_good_91 : decode cX7_good 91 = .ok (.goto 4, 3) := by decide +kernel
theorem dX7_good_94 : decode cX7_good 94 = .ok (.iconst 0, 1) := by decide +kernel
theorem dX7_good_95 : decode cX7_good 95 = .ok (.iadd, 1) := by decide +kernel
theorem dX7_good_96 : decode cX7_good 96 = .ok (.istore_n 2, 1) := by decide +kernel
theorem dX7_good_97 : decode cX7_good 97 = .ok (.iinc 4 1, 3) := by decide +kernel
theorem dX7_good_100 : decode cX7_good 100 = .ok (.goto (-77), 3) := by decide +kernel
theorem dX7_good_103 : decode cX7_good 103 = .ok (.iinc 3 1, 3) := by decide +kernel
theorem dX7_good_106 : decode cX7_good 106 = .ok (.goto (-91), 3) := by decide +kernel
theorem dX7_good_109 : decode cX7_good 109 = .ok (.iload_n 2, 1) := by decide +kernel
theorem dX7_good_110 : decode cX7_good 110 = .ok (.ireturn, 1) := by decide +kernel
theorem dX7_lowest_0 : decode cX7_lowest 0 = .ok (.lload_n 0, 1) := by decide +kernel
theorem dX7_lowest_1 : decode cX7_lowest 1 = .ok (.lconst 0, 1) := by decide +kernel
theorem dX7_lowest_2 : decode cX7_lowest 2 = .ok (.lcmp, 1) := by decide +kernel
theorem dX7_lowest_3 : decode cX7_lowest 3 = .ok (.ifCond .ne 7, 3) := by decide +kernel
theorem dX7_lowest_6 : decode cX7_lowest 6 = .ok (.iload 4, 2) := by decide +kernel
theorem dX7_lowest_8 : decode cX7_lowest 8 = .ok (.i2l, 1) := by decide +kernel
theorem dX7_lowest_9 : decode cX7_lowest 9 = .ok (.lreturn, 1) := by decide +kernel
theorem dX7_lowest_10 : decode cX7_lowest 10 = .ok (.lload_n 0, 1) := by decide +kernel
theorem dX7_lowest_11 : decode cX7_lowest 11 = .ok (.lstore 5, 2) := by decide +kernel
theorem dX7_lowest_13 : decode cX7_lowest 13 = .ok (.lload_n 2, 1) := by decide +kernel
theorem dX7_lowest_14 : decode cX7_lowest 14 = .ok (.lstore 7, 2) := by decide +kernel
theorem dX7_lowest_16 : decode cX7_lowest 16 = .ok (.lload 7, 2) := by decide +kernel
theorem dX7_lowest_18 : decode cX7_lowest 18 = .ok (.lconst 0, 1) := by decide +kernel
theorem dX7_lowest_19 : decode cX7_lowest 19 = .ok (.lcmp, 1) := by decide +kernel
theorem dX7_lowest_20 : decode cX7_lowest 20 = .ok (.ifCond .eq 21, 3) := by decide +kernel
theorem dX7_lowest_23 : decode cX7_lowest 23 = .ok (.lload 5, 2) := by decide +kernel
theorem dX7_lowest_25 : decode cX7_lowest 25 = .ok (.lload 7, 2) := by decide +kernel
theorem dX7_lowest_27 : decode cX7_lowest 27 = .ok (.lrem, 1) := by decide +kernel
theorem dX7_lowest_28 : decode cX7_lowest 28 = .ok (.lstore 9, 2) := by decide +kernel
theorem dX7_lowest_30 : decode cX7_lowest 30 = .ok (.lload 7, 2) := by decide +kernel
theorem dX7_lowest_32 : decode cX7_lowest 32 = .ok (.lstore 5, 2) := by decide +kernel
theorem dX7_lowest_34 : decode cX7_lowest 34 = .ok (.lload 9, 2) := by decide +kernel
theorem dX7_lowest_36 : decode cX7_lowest 36 = .ok (.lstore 7, 2) := by decide +kernel
theorem dX7_lowest_38 : decode cX7_lowest 38 = .ok (.goto (-22), 3) := by decide +kernel
theorem dX7_lowest_41 : decode cX7_lowest 41 = .ok (.iload 4, 2) := by decide +kernel
theorem dX7_lowest_43 : decode cX7_lowest 43 = .ok (.ifCond .ne 7, 3) := by decide +kernel
theorem dX7_lowest_46 : decode cX7_lowest 46 = .ok (.lload_n 0, 1) := by decide +kernel
theorem dX7_lowest_47 : decode cX7_lowest 47 = .ok (.goto 4, 3) := by decide +kernel
theorem dX7_lowest_50 : decode cX7_lowest 50 = .ok (.lload_n 2, 1) := by decide +kernel
theorem dX7_lowest_51 : decode cX7_lowest 51 = .ok (.lload 5, 2) := by decide +kernel
theorem dX7_lowest_53 : decode cX7_lowest 53 = .ok (.ldiv, 1) := by decide +kernel
theorem dX7_lowest_54 : decode cX7_lowest 54 = .ok (.lreturn, 1) := by decide +kernel
theorem dX7_alike_0 : decode cX7_alike 0 = .ok (.iload_n 1, 1) := by decide +kernel
theorem dX7_alike_1 : decode cX7_alike 1 = .ok (.invokestatic 183, 3) := by decide +kernel
theorem dX7_alike_4 : decode cX7_alike 4 = .ok (.ifCond .eq 24, 3) := by decide +kernel
theorem dX7_alike_7 : decode cX7_alike 7 = .ok (.iload_n 2, 1) := by decide +kernel
theorem dX7_alike_8 : decode cX7_alike 8 = .ok (.invokestatic 183, 3) := by decide +kernel
theorem dX7_alike_11 : decode cX7_alike 11 = .ok (.ifCond .eq 17, 3) := by decide +kernel
theorem dX7_alike_14 : decode cX7_alike 14 = .ok (.iload_n 1, 1) := by decide +kernel
theorem dX7_alike_15 : decode cX7_alike 15 = .ok (.iload_n 2, 1) := by decide +kernel
theorem dX7_alike_16 : decode cX7_alike 16 = .ok (.if_icmp .eq 12, 3) := by decide +kernel
theorem dX7_alike_19 : decode cX7_alike 19 = .ok (.iload_n 3, 1) := by decide +kernel
theorem dX7_alike_20 : decode cX7_alike 20 = .ok (.iconst 0, 1) := by decide +kernel
theorem dX7_alike_21 : decode cX7_alike 21 = .ok (.iconst 1, 1) := by decide +kernel
theorem dX7_alike_22 : decode cX7_alike 22 = .ok (.invokestatic 90, 3) := by decide +kernel
theorem dX7_alike_25 : decode cX7_alike 25 = .ok (.ifCond .ne 7, 3) := by decide +kernel
theorem dX7_alike_28 : decode cX7_alike 28 = .ok (.ldc2_w 245, 3) := by decide +kernel
theorem dX7_alike_31 : decode cX7_alike 31 = .ok (.lreturn, 1) := by decide +kernel
theorem dX7_alike_32 : decode cX7_alike 32 = .ok (.aload_n 0, 1) := by decide +kernel
theorem dX7_alike_33 : decode cX7_alike 33 = .ok (.invokevirtual 211, 3) := by decide +kernel
theorem dX7_alike_36 : decode cX7_alike 36 = .ok (.aload_n 0, 1) := by decide +kernel
theorem dX7_alike_37 : decode cX7_alike 37 = .ok (.iload_n 1, 1) := by decide +kernel
theorem dX7_alike_38 : decode cX7_alike 38 = .ok (.invokevirtual 220, 3) := by decide +kernel
theorem dX7_alike_41 : decode cX7_alike 41 = .ok (.aload_n 0, 1) := by decide +kernel
theorem dX7_alike_42 : decode cX7_alike 42 = .ok (.iload_n 2, 1) := by decide +kernel
theorem dX7_alike_43 : decode cX7_alike 43 = .ok (.invokevirtual 220, 3) := by decide +kernel
theorem dX7_alike_46 : decode cX7_alike 46 = .ok (.ior, 1) := by decide +kernel
theorem dX7_alike_47 : decode cX7_alike 47 = .ok (.iconst (-1), 1) := by decide +kernel
theorem dX7_alike_48 : decode cX7_alike 48 = .ok (.ixor, 1) := by decide +kernel
theorem dX7_alike_49 : decode cX7_alike 49 = .ok (.iand, 1) := by decide +kernel
theorem dX7_alike_50 : decode cX7_alike 50 = .ok (.istore 4, 2) := by decide +kernel
theorem dX7_alike_52 : decode cX7_alike 52 = .ok (.aload_n 0, 1) := by decide +kernel
theorem dX7_alike_53 : decode cX7_alike 53 = .ok (.invokevirtual 211, 3) := by decide +kernel
theorem dX7_alike_56 : decode cX7_alike 56 = .ok (.aload_n 0, 1) := by decide +kernel
theorem dX7_alike_57 : decode cX7_alike 57 = .ok (.iload_n 1, 1) := by decide +kernel
theorem dX7_alike_58 : decode cX7_alike 58 = .ok (.invokevirtual 220, 3) := by decide +kernel
theorem dX7_alike_61 : decode cX7_alike 61 = .ok (.aload_n 0, 1) := by decide +kernel
theorem dX7_alike_62 : decode cX7_alike 62 = .ok (.iload_n 2, 1) := by decide +kernel
theorem dX7_alike_63 : decode cX7_alike 63 = .ok (.invokevirtual 220, 3) := by decide +kernel
theorem dX7_alike_66 : decode cX7_alike 66 = .ok (.iand, 1) := by decide +kernel
theorem dX7_alike_67 : decode cX7_alike 67 = .ok (.iconst (-1), 1) := by decide +kernel
theorem dX7_alike_68 : decode cX7_alike 68 = .ok (.ixor, 1) := by decide +kernel
theorem dX7_alike_69 : decode cX7_alike 69 = .ok (.iand, 1) := by decide +kernel
theorem dX7_alike_70 : decode cX7_alike 70 = .ok (.istore 5, 2) := by decide +kernel
theorem dX7_alike_72 : decode cX7_alike 72 = .ok (.iload 5, 2) := by decide +kernel
theorem dX7_alike_74 : decode cX7_alike 74 = .ok (.ifCond .ne 9, 3) := by decide +kernel
theorem dX7_alike_77 : decode cX7_alike 77 = .ok (.ldc2_w 245, 3) := by decide +kernel
theorem dX7_alike_80 : decode cX7_alike 80 = .ok (.goto 19, 3) := by decide +kernel
theorem dX7_alike_83 : decode cX7_alike 83 = .ok (.iload 4, 2) := by decide +kernel
theorem dX7_alike_85 : decode cX7_alike 85 = .ok (.invokestatic 238, 3) := by decide +kernel
theorem dX7_alike_88 : decode cX7_alike 88 = .ok (.i2l, 1) := by decide +kernel
theorem dX7_alike_89 : decode cX7_alike 89 = .ok (.iload 5, 2) := by decide +kernel
theorem dX7_alike_91 : decode cX7_alike 91 = .ok (.invokestatic 238, 3) := by decide +kernel
theorem dX7_alike_94 : decode cX7_alike 94 = .ok (.i2l, 1) := by decide +kernel
theorem dX7_alike_95 : decode cX7_alike 95 = .ok (.iload_n 3, 1) := by decide +kernel
theorem dX7_alike_96 : decode cX7_alike 96 = .ok (.invokestatic 247, 3) := by decide +kernel
theorem dX7_alike_99 : decode cX7_alike 99 = .ok (.lreturn, 1) := by decide +kernel
theorem dX7_apartChanged_0 : decode cX7_apartChanged 0 = .ok (.aload_n 0, 1) := by decide +kernel
theorem dX7_apartChanged_1 : decode cX7_apartChanged 1 = .ok (.getfield 19, 3) := by decide +kernel
theorem dX7_apartChanged_4 : decode cX7_apartChanged 4 = .ok (.iload_n 1, 1) := by decide +kernel
theorem dX7_apartChanged_5 : decode cX7_apartChanged 5 = .ok (.iaload, 1) := by decide +kernel
theorem dX7_apartChanged_6 : decode cX7_apartChanged 6 = .ok (.istore_n 3, 1) := by decide +kernel
theorem dX7_apartChanged_7 : decode cX7_apartChanged 7 = .ok (.aload_n 0, 1) := by decide +kernel
theorem dX7_apartChanged_8 : decode cX7_apartChanged 8 = .ok (.getfield 19, 3) := by decide +kernel
theorem dX7_apartChanged_11 : decode cX7_apartChanged 11 = .ok (.iload_n 1, 1) := by decide +kernel
theorem dX7_apartChanged_12 : decode cX7_apartChanged 12 = .ok (.aload_n 0, 1) := by decide +kernel
theorem dX7_apartChanged_13 : decode cX7_apartChanged 13 = .ok (.getfield 19, 3) := by decide +kernel
theorem dX7_apartChanged_16 : decode cX7_apartChanged 16 = .ok (.iload_n 2, 1) := by decide +kernel
theorem dX7_apartChanged_17 : decode cX7_apartChanged 17 = .ok (.iaload, 1) := by decide +kernel
theorem dX7_apartChanged_18 : decode cX7_apartChanged 18 = .ok (.iastore, 1) := by decide +kernel
theorem dX7_apartChanged_19 : decode cX7_apartChanged 19 = .ok (.aload_n 0, 1) := by decide +kernel
theorem dX7_apartChanged_20 : decode cX7_apartChanged 20 = .ok (.getfield 19, 3) := by decide +kernel
theorem dX7_apartChanged_23 : decode cX7_apartChanged 23 = .ok (.iload_n 2, 1) := by decide +kernel
theorem dX7_apartChanged_24 : decode cX7_apartChanged 24 = .ok (.iload_n 3, 1) := by decide +kernel
theorem dX7_apartChanged_25 : decode cX7_apartChanged 25 = .ok (.iastore, 1) := by decide +kernel
theorem dX7_apartChanged_26 : decode cX7_apartChanged 26 = .ok (.aload_n 0, 1) := by decide +kernel
theorem dX7_apartChanged_27 : decode cX7_apartChanged 27 = .ok (.aload_n 0, 1) := by decide +kernel
theorem dX7_apartChanged_28 : decode cX7_apartChanged 28 = .ok (.invokevirtual 211, 3) := by decide +kernel
theorem dX7_apartChanged_31 : decode cX7_apartChanged 31 = .ok (.invokevirtual 229, 3) := by decide +kernel
theorem dX7_apartChanged_34 : decode cX7_apartChanged 34 = .ok (.istore 4, 2) := by decide +kernel
theorem dX7_apartChanged_36 : decode cX7_apartChanged 36 = .ok (.aload_n 0, 1) := by decide +kernel
theorem dX7_apartChanged_37 : decode cX7_apartChanged 37 = .ok (.getfield 19, 3) := by decide +kernel
theorem dX7_apartChanged_40 : decode cX7_apartChanged 40 = .ok (.iload_n 2, 1) := by decide +kernel
theorem dX7_apartChanged_41 : decode cX7_apartChanged 41 = .ok (.aload_n 0, 1) := by decide +kernel
theorem dX7_apartChanged_42 : decode cX7_apartChanged 42 = .ok (.getfield 19, 3) := by decide +kernel
theorem dX7_apartChanged_45 : decode cX7_apartChanged 45 = .ok (.iload_n 1, 1) := by decide +kernel
theorem dX7_apartChanged_46 : decode cX7_apartChanged 46 = .ok (.iaload, 1) := by decide +kernel
theorem dX7_apartChanged_47 : decode cX7_apartChanged 47 = .ok (.iastore, 1) := by decide +kernel
theorem dX7_apartChanged_48 : decode cX7_apartChanged 48 = .ok (.aload_n 0, 1) := by decide +kernel
theorem dX7_apartChanged_49 : decode cX7_apartChanged 49 = .ok (.getfield 19, 3) := by decide +kernel
theorem dX7_apartChanged_52 : decode cX7_apartChanged 52 = .ok (.iload_n 1, 1) := by decide +kernel
theorem dX7_apartChanged_53 : decode cX7_apartChanged 53 = .ok (.iload_n 3, 1) := by decide +kernel
theorem dX7_apartChanged_54 : decode cX7_apartChanged 54 = .ok (.iastore, 1) := by decide +kernel
theorem dX7_apartChanged_55 : decode cX7_apartChanged 55 = .ok (.iload 4, 2) := by decide +kernel
theorem dX7_apartChanged_57 : decode cX7_apartChanged 57 = .ok (.ireturn, 1) := by decide +kernel
theorem dX7_change_0 : decode cX7_change 0 = .ok (.iload_n 1, 1) := by decide +kernel
theorem dX7_change_1 : decode cX7_change 1 = .ok (.iconst 0, 1) := by decide +kernel
theorem dX7_change_2 : decode cX7_change 2 = .ok (.iconst 1, 1) := by decide +kernel
theorem dX7_change_3 : decode cX7_change 3 = .ok (.invokestatic 90, 3) := by decide +kernel
theorem dX7_change_6 : decode cX7_change 6 = .ok (.ifCond .ne 6, 3) := by decide +kernel
theorem dX7_change_9 : decode cX7_change 9 = .ok (.bipush (-2), 2) := by decide +kernel
theorem dX7_change_11 : decode cX7_change 11 = .ok (.ireturn, 1) := by decide +kernel
theorem dX7_change_12 : decode cX7_change 12 = .ok (.iconst (-1), 1) := by decide +kernel
theorem dX7_change_13 : decode cX7_change 13 = .ok (.istore_n 2, 1) := by decide +kernel
theorem dX7_change_14 : decode cX7_change 14 = .ok (.aload_n 0, 1) := by decide +kernel
theorem dX7_change_15 : decode cX7_change 15 = .ok (.aload_n 0, 1) := by decide +kernel
theorem dX7_change_16 : decode cX7_change 16 = .ok (.invokevirtual 211, 3) := by decide +kernel
theorem dX7_change_19 : decode cX7_change 19 = .ok (.invokevirtual 229, 3) := by decide +kernel
theorem dX7_change_22 : decode cX7_change 22 = .ok (.istore_n 3, 1) := by decide +kernel
theorem dX7_change_23 : decode cX7_change 23 = .ok (.iconst 0, 1) := by decide +kernel
theorem dX7_change_24 : decode cX7_change 24 = .ok (.istore 4, 2) := by decide +kernel
theorem dX7_change_26 : decode cX7_change 26 = .ok (.iload 4, 2) := by decide +kernel
theorem dX7_change_28 : decode cX7_change 28 = .ok (.aload_n 0, 1) := by decide +kernel
theorem dX7_change_29 : decode cX7_change 29 = .ok (.getfield 87, 3) := by decide +kernel
theorem dX7_change_32 : decode cX7_change 32 = .ok (.if_icmp .ge 93, 3) := by decide +kernel
theorem dX7_change_35 : decode cX7_change 35 = .ok (.iload 4, 2) := by decide +kernel
theorem dX7_change_37 : decode cX7_change 37 = .ok (.iconst 1, 1) := by decide +kernel
theorem dX7_change_38 : decode cX7_change 38 = .ok (.iadd, 1) := by decide +kernel
theorem dX7_change_39 : decode cX7_change 39 = .ok (.istore 5, 2) := by decide +kernel
theorem dX7_change_41 : decode cX7_change 41 = .ok (.iload 5, 2) := by decide +kernel
theorem dX7_change_43 : decode cX7_change 43 = .ok (.aload_n 0, 1) := by decide +kernel
theorem dX7_change_44 : decode cX7_change 44 = .ok (.getfield 87, 3) := by decide +kernel
theorem dX7_change_47 : decode cX7_change 47 = .ok (.if_icmp .ge 72, 3) := by decide +kernel
theorem dX7_change_50 : decode cX7_change 50 = .ok (.aload_n 0, 1) := by decide +kernel
theorem dX7_change_51 : decode cX7_change 51 = .ok (.getfield 19, 3) := by decide +kernel
theorem dX7_change_54 : decode cX7_change 54 = .ok (.iload 4, 2) := by decide +kernel
theorem dX7_change_56 : decode cX7_change 56 = .ok (.iaload, 1) := by decide +kernel
theorem dX7_change_57 : decode cX7_change 57 = .ok (.aload_n 0, 1) := by decide +kernel
theorem dX7_change_58 : decode cX7_change 58 = .ok (.getfield 19, 3) := by decide +kernel
theorem dX7_change_61 : decode cX7_change 61 = .ok (.iload 5, 2) := by decide +kernel
theorem dX7_change_63 : decode cX7_change 63 = .ok (.iaload, 1) := by decide +kernel
theorem dX7_change_64 : decode cX7_change 64 = .ok (.if_icmp .ne 7, 3) := by decide +kernel
theorem dX7_change_67 : decode cX7_change 67 = .ok (.iload_n 3, 1) := by decide +kernel
theorem dX7_change_68 : decode cX7_change 68 = .ok (.goto 11, 3) := by decide +kernel
theorem dX7_change_71 : decode cX7_change 71 = .ok (.aload_n 0, 1) := by decide +kernel
theorem dX7_change_72 : decode cX7_change 72 = .ok (.iload 4, 2) := by decide +kernel
theorem dX7_change_74 : decode cX7_change 74 = .ok (.iload 5, 2) := by decide +kernel
theorem dX7_change_76 : decode cX7_change 76 = .ok (.invokevirtual 251, 3) := by decide +kernel
theorem dX7_change_79 : decode cX7_change 79 = .ok (.istore 6, 2) := by decide +kernel
theorem dX7_change_81 : decode cX7_change 81 = .ok (.iload 6, 2) := by decide +kernel
theorem dX7_change_83 : decode cX7_change 83 = .ok (.iload_n 3, 1) := by decide +kernel
theorem dX7_change_84 : decode cX7_change 84 = .ok (.if_icmp .ge 14, 3) := by decide +kernel
theorem dX7_change_87 : decode cX7_change 87 = .ok (.bipush 10, 2) := by decide +kernel
theorem dX7_change_89 : decode cX7_change 89 = .ok (.iload 4, 2) := by decide +kernel
theorem dX7_change_91 : decode cX7_change 91 = .ok (.imul, 1) := by decide +kernel
theorem dX7_change_92 : decode cX7_change 92 = .ok (.iload 5, 2) := by decide +kernel
theorem dX7_change_94 : decode cX7_change 94 = .ok (.iadd, 1) := by decide +kernel
theorem dX7_change_95 : decode cX7_change 95 = .ok (.goto 4, 3) := by decide +kernel
theorem dX7_change_98 : decode cX7_change 98 = .ok (.iload_n 2, 1) := by decide +kernel
theorem dX7_change_99 : decode cX7_change 99 = .ok (.istore_n 2, 1) := by decide +kernel
theorem dX7_change_100 : decode cX7_change 100 = .ok (.iload 6, 2) := by decide +kernel
theorem dX7_change_102 : decode cX7_change 102 = .ok (.iload_n 3, 1) := by decide +kernel
theorem dX7_change_103 : decode cX7_change 103 = .ok (.if_icmp .ge 8, 3) := by decide +kernel
theorem dX7_change_106 : decode cX7_change 106 = .ok (.iload 6, 2) := by decide +kernel
theorem dX7_change_108 : decode cX7_change 108 = .ok (.goto 4, 3) := by decide +kernel
theorem dX7_change_111 : decode cX7_change 111 = .ok (.iload_n 3, 1) := by decide +kernel
theorem dX7_change_112 : decode cX7_change 112 = .ok (.istore_n 3, 1) := by decide +kernel
theorem dX7_change_113 : decode cX7_change 113 = .ok (.iinc 5 1, 3) := by decide +kernel
theorem dX7_change_116 : decode cX7_change 116 = .ok (.goto (-75), 3) := by decide +kernel
theorem dX7_change_119 : decode cX7_change 119 = .ok (.iinc 4 1, 3) := by decide +kernel
theorem dX7_change_122 : decode cX7_change 122 = .ok (.goto (-96), 3) := by decide +kernel
theorem dX7_change_125 : decode cX7_change 125 = .ok (.iload_n 1, 1) := by decide +kernel
theorem dX7_change_126 : decode cX7_change 126 = .ok (.ifCond .ne 7, 3) := by decide +kernel
theorem dX7_change_129 : decode cX7_change 129 = .ok (.iload_n 2, 1) := by decide +kernel
theorem dX7_change_130 : decode cX7_change 130 = .ok (.goto 4, 3) := by decide +kernel
theorem dX7_change_133 : decode cX7_change 133 = .ok (.iload_n 3, 1) := by decide +kernel
theorem dX7_change_134 : decode cX7_change 134 = .ok (.ireturn, 1) := by decide +kernel
theorem dX7_sheetWrong_0 : decode cX7_sheetWrong 0 = .ok (.iload_n 1, 1) := by decide +kernel
theorem dX7_sheetWrong_1 : decode cX7_sheetWrong 1 = .ok (.iconst 0, 1) := by decide +kernel
theorem dX7_sheetWrong_2 : decode cX7_sheetWrong 2 = .ok (.iconst 3, 1) := by decide +kernel
theorem dX7_sheetWrong_3 : decode cX7_sheetWrong 3 = .ok (.invokestatic 90, 3) := by decide +kernel
theorem dX7_sheetWrong_6 : decode cX7_sheetWrong 6 = .ok (.ifCond .ne 6, 3) := by decide +kernel
theorem dX7_sheetWrong_9 : decode cX7_sheetWrong 9 = .ok (.bipush (-2), 2) := by decide +kernel
theorem dX7_sheetWrong_11 : decode cX7_sheetWrong 11 = .ok (.ireturn, 1) := by decide +kernel
theorem dX7_sheetWrong_12 : decode cX7_sheetWrong 12 = .ok (.aload_n 0, 1) := by decide +kernel
theorem dX7_sheetWrong_13 : decode cX7_sheetWrong 13 = .ok (.getfield 52, 3) := by decide +kernel
theorem dX7_sheetWrong_16 : decode cX7_sheetWrong 16 = .ok (.iload_n 1, 1) := by decide +kernel
theorem dX7_sheetWrong_17 : decode cX7_sheetWrong 17 = .ok (.iaload, 1) := by decide +kernel
theorem dX7_sheetWrong_18 : decode cX7_sheetWrong 18 = .ok (.iconst (-1), 1) := by decide +kernel
theorem dX7_sheetWrong_19 : decode cX7_sheetWrong 19 = .ok (.if_icmp .ne 6, 3) := by decide +kernel
theorem dX7_sheetWrong_22 : decode cX7_sheetWrong 22 = .ok (.bipush (-11), 2) := by decide +kernel
theorem dX7_sheetWrong_24 : decode cX7_sheetWrong 24 = .ok (.ireturn, 1) := by decide +kernel
theorem dX7_sheetWrong_25 : decode cX7_sheetWrong 25 = .ok (.aload_n 0, 1) := by decide +kernel
theorem dX7_sheetWrong_26 : decode cX7_sheetWrong 26 = .ok (.getfield 55, 3) := by decide +kernel
theorem dX7_sheetWrong_29 : decode cX7_sheetWrong 29 = .ok (.iload_n 1, 1) := by decide +kernel
theorem dX7_sheetWrong_30 : decode cX7_sheetWrong 30 = .ok (.iaload, 1) := by decide +kernel
theorem dX7_sheetWrong_31 : decode cX7_sheetWrong 31 = .ok (.aload_n 0, 1) := by decide +kernel
theorem dX7_sheetWrong_32 : decode cX7_sheetWrong 32 = .ok (.getfield 94, 3) := by decide +kernel
theorem dX7_sheetWrong_35 : decode cX7_sheetWrong 35 = .ok (.if_icmp .ne 7, 3) := by decide +kernel
theorem dX7_sheetWrong_38 : decode cX7_sheetWrong 38 = .ok (.iconst 0, 1) := by decide +kernel
theorem dX7_sheetWrong_39 : decode cX7_sheetWrong 39 = .ok (.goto 5, 3) := by decide +kernel
theorem dX7_sheetWrong_42 : decode cX7_sheetWrong 42 = .ok (.bipush (-2), 2) := by decide +kernel
theorem dX7_sheetWrong_44 : decode cX7_sheetWrong 44 = .ok (.ireturn, 1) := by decide +kernel
theorem dX7_unlike_0 : decode cX7_unlike 0 = .ok (.iconst 0, 1) := by decide +kernel
theorem dX7_unlike_1 : decode cX7_unlike 1 = .ok (.istore_n 3, 1) := by decide +kernel
theorem dX7_unlike_2 : decode cX7_unlike 2 = .ok (.iload_n 3, 1) := by decide +kernel
theorem dX7_unlike_3 : decode cX7_unlike 3 = .ok (.aload_n 0, 1) := by decide +kernel
theorem dX7_unlike_4 : decode cX7_unlike 4 = .ok (.getfield 94, 3) := by decide +kernel
theorem dX7_unlike_7 : decode cX7_unlike 7 = .ok (.if_icmp .ge 39, 3) := by decide +kernel
theorem dX7_unlike_10 : decode cX7_unlike 10 = .ok (.aload_n 0, 1) := by decide +kernel
theorem dX7_unlike_11 : decode cX7_unlike 11 = .ok (.getfield 58, 3) := by decide +kernel
theorem dX7_unlike_14 : decode cX7_unlike 14 = .ok (.bipush 40, 2) := by decide +kernel
theorem dX7_unlike_16 : decode cX7_unlike 16 = .ok (.iload_n 1, 1) := by decide +kernel
theorem dX7_unlike_17 : decode cX7_unlike 17 = .ok (.imul, 1) := by decide +kernel
theorem dX7_unlike_18 : decode cX7_unlike 18 = .ok (.iload_n 3, 1) := by decide +kernel
theorem dX7_unlike_19 : decode cX7_unlike 19 = .ok (.iadd, 1) := by decide +kernel
theorem dX7_unlike_20 : decode cX7_unlike 20 = .ok (.iaload, 1) := by decide +kernel
theorem dX7_unlike_21 : decode cX7_unlike 21 = .ok (.aload_n 0, 1) := by decide +kernel
theorem dX7_unlike_22 : decode cX7_unlike 22 = .ok (.iload_n 2, 1) := by decide +kernel
theorem dX7_unlike_23 : decode cX7_unlike 23 = .ok (.iload_n 3, 1) := by decide +kernel
theorem dX7_unlike_24 : decode cX7_unlike 24 = .ok (.invokevirtual 202, 3) := by decide +kernel
theorem dX7_unlike_27 : decode cX7_unlike 27 = .ok (.ifCond .eq 7, 3) := by decide +kernel
theorem dX7_unlike_30 : decode cX7_unlike 30 = .ok (.iconst 1, 1) := by decide +kernel
theorem dX7_unlike_31 : decode cX7_unlike 31 = .ok (.goto 4, 3) := by decide +kernel
theorem dX7_unlike_34 : decode cX7_unlike 34 = .ok (.iconst 0, 1) := by decide +kernel
theorem dX7_unlike_35 : decode cX7_unlike 35 = .ok (.if_icmp .eq 5, 3) := by decide +kernel
theorem dX7_unlike_38 : decode cX7_unlike 38 = .ok (.iload_n 3, 1) := by decide +kernel
theorem dX7_unlike_39 : decode cX7_unlike 39 = .ok (.ireturn, 1) := by decide +kernel
theorem dX7_unlike_40 : decode cX7_unlike 40 = .ok (.iinc 3 1, 3) := by decide +kernel
theorem dX7_unlike_43 : decode cX7_unlike 43 = .ok (.goto (-41), 3) := by decide +kernel
theorem dX7_unlike_46 : decode cX7_unlike 46 = .ok (.iconst (-1), 1) := by decide +kernel
theorem dX7_unlike_47 : decode cX7_unlike 47 = .ok (.ireturn, 1) := by decide +kernel
theorem dX7_judge_0 : decode cX7_judge 0 = .ok (.aload_n 0, 1) := by decide +kernel
theorem dX7_judge_1 : decode cX7_judge 1 = .ok (.iload_n 1, 1) := by decide +kernel
theorem dX7_judge_2 : decode cX7_judge 2 = .ok (.invokevirtual 254, 3) := by decide +kernel
theorem dX7_judge_5 : decode cX7_judge 5 = .ok (.istore_n 3, 1) := by decide +kernel
theorem dX7_judge_6 : decode cX7_judge 6 = .ok (.iload_n 3, 1) := by decide +kernel
theorem dX7_judge_7 : decode cX7_judge 7 = .ok (.ifCond .eq 5, 3) := by decide +kernel
theorem dX7_judge_10 : decode cX7_judge 10 = .ok (.iload_n 3, 1) := by decide +kernel
theorem dX7_judge_11 : decode cX7_judge 11 = .ok (.ireturn, 1) := by decide +kernel
theorem dX7_judge_12 : decode cX7_judge 12 = .ok (.iload_n 2, 1) := by decide +kernel
theorem dX7_judge_13 : decode cX7_judge 13 = .ok (.invokestatic 183, 3) := by decide +kernel
theorem dX7_judge_16 : decode cX7_judge 16 = .ok (.ifCond .eq 12, 3) := by decide +kernel
theorem dX7_judge_19 : decode cX7_judge 19 = .ok (.aload_n 0, 1) := by decide +kernel
theorem dX7_judge_20 : decode cX7_judge 20 = .ok (.iload_n 1, 1) := by decide +kernel
theorem dX7_judge_21 : decode cX7_judge 21 = .ok (.iload_n 2, 1) := by decide +kernel
theorem dX7_judge_22 : decode cX7_judge 22 = .ok (.invokevirtual 257, 3) := by decide +kernel
theorem dX7_judge_25 : decode cX7_judge 25 = .ok (.goto 5, 3) := by decide +kernel
theorem dX7_judge_28 : decode cX7_judge 28 = .ok (.bipush (-5), 2) := by decide +kernel
theorem dX7_judge_30 : decode cX7_judge 30 = .ok (.ireturn, 1) := by decide +kernel
theorem dX7_whose_0 : decode cX7_whose 0 = .ok (.aload_n 0, 1) := by decide +kernel
theorem dX7_whose_1 : decode cX7_whose 1 = .ok (.iload_n 1, 1) := by decide +kernel
theorem dX7_whose_2 : decode cX7_whose 2 = .ok (.invokevirtual 254, 3) := by decide +kernel
theorem dX7_whose_5 : decode cX7_whose 5 = .ok (.istore_n 2, 1) := by decide +kernel
theorem dX7_whose_6 : decode cX7_whose 6 = .ok (.iload_n 2, 1) := by decide +kernel
theorem dX7_whose_7 : decode cX7_whose 7 = .ok (.ifCond .eq 5, 3) := by decide +kernel
theorem dX7_whose_10 : decode cX7_whose 10 = .ok (.iload_n 2, 1) := by decide +kernel
theorem dX7_whose_11 : decode cX7_whose 11 = .ok (.ireturn, 1) := by decide +kernel
theorem dX7_whose_12 : decode cX7_whose 12 = .ok (.iconst 0, 1) := by decide +kernel
theorem dX7_whose_13 : decode cX7_whose 13 = .ok (.istore_n 3, 1) := by decide +kernel
theorem dX7_whose_14 : decode cX7_whose 14 = .ok (.iconst 0, 1) := by decide +kernel
theorem dX7_whose_15 : decode cX7_whose 15 = .ok (.istore 4, 2) := by decide +kernel
theorem dX7_whose_17 : decode cX7_whose 17 = .ok (.iload 4, 2) := by decide +kernel
theorem dX7_whose_19 : decode cX7_whose 19 = .ok (.iconst 3, 1) := by decide +kernel
theorem dX7_whose_20 : decode cX7_whose 20 = .ok (.if_icmp .ge 31, 3) := by decide +kernel
theorem dX7_whose_23 : decode cX7_whose 23 = .ok (.iload_n 3, 1) := by decide +kernel
theorem dX7_whose_24 : decode cX7_whose 24 = .ok (.aload_n 0, 1) := by decide +kernel
theorem dX7_whose_25 : decode cX7_whose 25 = .ok (.iload_n 1, 1) := by decide +kernel
theorem dX7_whose_26 : decode cX7_whose 26 = .ok (.iload 4, 2) := by decide +kernel
theorem dX7_whose_28 : decode cX7_whose 28 = .ok (.invokevirtual 257, 3) := by decide +kernel
theorem dX7_whose_31 : decode cX7_whose 31 = .ok (.iconst (-1), 1) := by decide +kernel
theorem dX7_whose_32 : decode cX7_whose 32 = .ok (.if_icmp .ne 10, 3) := by decide +kernel
theorem dX7_whose_35 : decode cX7_whose 35 = .ok (.iconst 1, 1) := by decide +kernel
theorem dX7_whose_36 : decode cX7_whose 36 = .ok (.iload 4, 2) := by decide +kernel
theorem dX7_whose_38 : decode cX7_whose 38 = .ok (.ishl, 1) := by decide +kernel
theorem dX7_whose_39 : decode cX7_whose 39 = .ok (.goto 4, 3) := by decide +kernel
theorem dX7_whose_42 : decode cX7_whose 42 = .ok (.iconst 0, 1) := by decide +kernel
theorem dX7_whose_43 : decode cX7_whose 43 = .ok (.ior, 1) := by decide +kernel
theorem dX7_whose_44 : decode cX7_whose 44 = .ok (.istore_n 3, 1) := by decide +kernel
theorem dX7_whose_45 : decode cX7_whose 45 = .ok (.iinc 4 1, 3) := by decide +kernel
theorem dX7_whose_48 : decode cX7_whose 48 = .ok (.goto (-31), 3) := by decide +kernel
theorem dX7_whose_51 : decode cX7_whose 51 = .ok (.iload_n 3, 1) := by decide +kernel
theorem dX7_whose_52 : decode cX7_whose 52 = .ok (.ireturn, 1) := by decide +kernel
theorem dX7_depth_0 : decode cX7_depth 0 = .ok (.aload_n 0, 1) := by decide +kernel
theorem dX7_depth_1 : decode cX7_depth 1 = .ok (.iload_n 1, 1) := by decide +kernel
theorem dX7_depth_2 : decode cX7_depth 2 = .ok (.invokevirtual 254, 3) := by decide +kernel
theorem dX7_depth_5 : decode cX7_depth 5 = .ok (.istore 4, 2) := by decide +kernel
theorem dX7_depth_7 : decode cX7_depth 7 = .ok (.iload 4, 2) := by decide +kernel
theorem dX7_depth_9 : decode cX7_depth 9 = .ok (.ifCond .eq 6, 3) := by decide +kernel
theorem dX7_depth_12 : decode cX7_depth 12 = .ok (.iload 4, 2) := by decide +kernel
theorem dX7_depth_14 : decode cX7_depth 14 = .ok (.ireturn, 1) := by decide +kernel
theorem dX7_depth_15 : decode cX7_depth 15 = .ok (.aload_n 0, 1) := by decide +kernel
theorem dX7_depth_16 : decode cX7_depth 16 = .ok (.iload_n 2, 1) := by decide +kernel
theorem dX7_depth_17 : decode cX7_depth 17 = .ok (.invokevirtual 177, 3) := by decide +kernel
theorem dX7_depth_20 : decode cX7_depth 20 = .ok (.ifCond .eq 13, 3) := by decide +kernel
theorem dX7_depth_23 : decode cX7_depth 23 = .ok (.aload_n 0, 1) := by decide +kernel
theorem dX7_depth_24 : decode cX7_depth 24 = .ok (.getfield 19, 3) := by decide +kernel
theorem dX7_depth_27 : decode cX7_depth 27 = .ok (.iload_n 2, 1) := by decide +kernel
theorem dX7_depth_28 : decode cX7_depth 28 = .ok (.iaload, 1) := by decide +kernel
theorem dX7_depth_29 : decode cX7_depth 29 = .ok (.iconst (-1), 1) := by decide +kernel
theorem dX7_depth_30 : decode cX7_depth 30 = .ok (.if_icmp .ne 6, 3) := by decide +kernel
theorem dX7_depth_33 : decode cX7_depth 33 = .ok (.bipush (-5), 2) := by decide +kernel
theorem dX7_depth_35 : decode cX7_depth 35 = .ok (.ireturn, 1) := by decide +kernel
theorem dX7_depth_36 : decode cX7_depth 36 = .ok (.iload_n 3, 1) := by decide +kernel
theorem dX7_depth_37 : decode cX7_depth 37 = .ok (.iconst 0, 1) := by decide +kernel
theorem dX7_depth_38 : decode cX7_depth 38 = .ok (.iconst 3, 1) := by decide +kernel
theorem dX7_depth_39 : decode cX7_depth 39 = .ok (.invokestatic 90, 3) := by decide +kernel
theorem dX7_depth_42 : decode cX7_depth 42 = .ok (.ifCond .ne 6, 3) := by decide +kernel
theorem dX7_depth_45 : decode cX7_depth 45 = .ok (.bipush (-7), 2) := by decide +kernel
theorem dX7_depth_47 : decode cX7_depth 47 = .ok (.ireturn, 1) := by decide +kernel
theorem dX7_depth_48 : decode cX7_depth 48 = .ok (.aload_n 0, 1) := by decide +kernel
theorem dX7_depth_49 : decode cX7_depth 49 = .ok (.getfield 22, 3) := by decide +kernel
theorem dX7_depth_52 : decode cX7_depth 52 = .ok (.iconst 4, 1) := by decide +kernel
theorem dX7_depth_53 : decode cX7_depth 53 = .ok (.iload_n 2, 1) := by decide +kernel
theorem dX7_depth_54 : decode cX7_depth 54 = .ok (.imul, 1) := by decide +kernel
theorem dX7_depth_55 : decode cX7_depth 55 = .ok (.iload_n 3, 1) := by decide +kernel
theorem dX7_depth_56 : decode cX7_depth 56 = .ok (.iadd, 1) := by decide +kernel
theorem dX7_depth_57 : decode cX7_depth 57 = .ok (.iaload, 1) := by decide +kernel
theorem dX7_depth_58 : decode cX7_depth 58 = .ok (.istore 5, 2) := by decide +kernel
theorem dX7_depth_60 : decode cX7_depth 60 = .ok (.iconst 0, 1) := by decide +kernel
theorem dX7_depth_61 : decode cX7_depth 61 = .ok (.istore 6, 2) := by decide +kernel
theorem dX7_depth_63 : decode cX7_depth 63 = .ok (.iconst 0, 1) := by decide +kernel
theorem dX7_depth_64 : decode cX7_depth 64 = .ok (.istore 7, 2) := by decide +kernel
theorem dX7_depth_66 : decode cX7_depth 66 = .ok (.iload 7, 2) := by decide +kernel
theorem dX7_depth_68 : decode cX7_depth 68 = .ok (.bipush 9, 2) := by decide +kernel
theorem dX7_depth_70 : decode cX7_depth 70 = .ok (.if_icmp .gt 49, 3) := by decide +kernel
theorem dX7_depth_73 : decode cX7_depth 73 = .ok (.aload_n 0, 1) := by decide +kernel
theorem dX7_depth_74 : decode cX7_depth 74 = .ok (.getfield 22, 3) := by decide +kernel
theorem dX7_depth_77 : decode cX7_depth 77 = .ok (.iconst 4, 1) := by decide +kernel
theorem dX7_depth_78 : decode cX7_depth 78 = .ok (.iload_n 2, 1) := by decide +kernel
theorem dX7_depth_79 : decode cX7_depth 79 = .ok (.imul, 1) := by decide +kernel
theorem dX7_depth_80 : decode cX7_depth 80 = .ok (.iload_n 3, 1) := by decide +kernel
theorem dX7_depth_81 : decode cX7_depth 81 = .ok (.iadd, 1) := by decide +kernel
theorem dX7_depth_82 : decode cX7_depth 82 = .ok (.iload 7, 2) := by decide +kernel
theorem dX7_depth_84 : decode cX7_depth 84 = .ok (.iastore, 1) := by decide +kernel
theorem dX7_depth_85 : decode cX7_depth 85 = .ok (.iload 6, 2) := by decide +kernel
theorem dX7_depth_87 : decode cX7_depth 87 = .ok (.aload_n 0, 1) := by decide +kernel
theorem dX7_depth_88 : decode cX7_depth 88 = .ok (.iload_n 1, 1) := by decide +kernel
theorem dX7_depth_89 : decode cX7_depth 89 = .ok (.aload_n 0, 1) := by decide +kernel
theorem dX7_depth_90 : decode cX7_depth 90 = .ok (.getfield 19, 3) := by decide +kernel
theorem dX7_depth_93 : decode cX7_depth 93 = .ok (.iload_n 2, 1) := by decide +kernel
theorem dX7_depth_94 : decode cX7_depth 94 = .ok (.iaload, 1) := by decide +kernel
theorem dX7_depth_95 : decode cX7_depth 95 = .ok (.invokevirtual 257, 3) := by decide +kernel
theorem dX7_depth_98 : decode cX7_depth 98 = .ok (.iconst (-1), 1) := by decide +kernel
theorem dX7_depth_99 : decode cX7_depth 99 = .ok (.if_icmp .ne 10, 3) := by decide +kernel
theorem dX7_depth_102 : decode cX7_depth 102 = .ok (.iconst 1, 1) := by decide +kernel
theorem dX7_depth_103 : decode cX7_depth 103 = .ok (.iload 7, 2) := by decide +kernel
theorem dX7_depth_105 : decode cX7_depth 105 = .ok (.ishl, 1) := by decide +kernel
theorem dX7_depth_106 : decode cX7_depth 106 = .ok (.goto 4, 3) := by decide +kernel
theorem dX7_depth_109 : decode cX7_depth 109 = .ok (.iconst 0, 1) := by decide +kernel
theorem dX7_depth_110 : decode cX7_depth 110 = .ok (.ior, 1) := by decide +kernel
theorem dX7_depth_111 : decode cX7_depth 111 = .ok (.istore 6, 2) := by decide +kernel
theorem dX7_depth_113 : decode cX7_depth 113 = .ok (.iinc 7 1, 3) := by decide +kernel
theorem dX7_depth_116 : decode cX7_depth 116 = .ok (.goto (-50), 3) := by decide +kernel
theorem dX7_depth_119 : decode cX7_depth 119 = .ok (.aload_n 0, 1) := by decide +kernel
theorem dX7_depth_120 : decode cX7_depth 120 = .ok (.getfield 22, 3) := by decide +kernel
theorem dX7_depth_123 : decode cX7_depth 123 = .ok (.iconst 4, 1) := by decide +kernel
theorem dX7_depth_124 : decode cX7_depth 124 = .ok (.iload_n 2, 1) := by decide +kernel
theorem dX7_depth_125 : decode cX7_depth 125 = .ok (.imul, 1) := by decide +kernel
theorem dX7_depth_126 : decode cX7_depth 126 = .ok (.iload_n 3, 1) := by decide +kernel
theorem dX7_depth_127 : decode cX7_depth 127 = .ok (.iadd, 1) := by decide +kernel
theorem dX7_depth_128 : decode cX7_depth 128 = .ok (.iload 5, 2) := by decide +kernel
theorem dX7_depth_130 : decode cX7_depth 130 = .ok (.iastore, 1) := by decide +kernel
theorem dX7_depth_131 : decode cX7_depth 131 = .ok (.iload 6, 2) := by decide +kernel
theorem dX7_depth_133 : decode cX7_depth 133 = .ok (.ireturn, 1) := by decide +kernel
theorem dX7_laws_0 : decode cX7_laws 0 = .ok (.aload_n 0, 1) := by decide +kernel
theorem dX7_laws_1 : decode cX7_laws 1 = .ok (.iload_n 1, 1) := by decide +kernel
theorem dX7_laws_2 : decode cX7_laws 2 = .ok (.invokevirtual 254, 3) := by decide +kernel
theorem dX7_laws_5 : decode cX7_laws 5 = .ok (.istore_n 3, 1) := by decide +kernel
theorem dX7_laws_6 : decode cX7_laws 6 = .ok (.iload_n 3, 1) := by decide +kernel
theorem dX7_laws_7 : decode cX7_laws 7 = .ok (.ifCond .ne 10, 3) := by decide +kernel
theorem dX7_laws_10 : decode cX7_laws 10 = .ok (.iload_n 2, 1) := by decide +kernel
theorem dX7_laws_11 : decode cX7_laws 11 = .ok (.invokestatic 183, 3) := by decide +kernel
theorem dX7_laws_14 : decode cX7_laws 14 = .ok (.ifCond .ne 14, 3) := by decide +kernel
theorem dX7_laws_17 : decode cX7_laws 17 = .ok (.iload_n 3, 1) := by decide +kernel
theorem dX7_laws_18 : decode cX7_laws 18 = .ok (.ifCond .eq 7, 3) := by decide +kernel
theorem dX7_laws_21 : decode cX7_laws 21 = .ok (.iload_n 3, 1) := by decide +kernel
theorem dX7_laws_22 : decode cX7_laws 22 = .ok (.goto 5, 3) := by decide +kernel
theorem dX7_laws_25 : decode cX7_laws 25 = .ok (.bipush (-5), 2) := by decide +kernel
theorem dX7_laws_27 : decode cX7_laws 27 = .ok (.ireturn, 1) := by decide +kernel
theorem dX7_laws_28 : decode cX7_laws 28 = .ok (.aload_n 0, 1) := by decide +kernel
theorem dX7_laws_29 : decode cX7_laws 29 = .ok (.getfield 100, 3) := by decide +kernel
theorem dX7_laws_32 : decode cX7_laws 32 = .ok (.istore 4, 2) := by decide +kernel
theorem dX7_laws_34 : decode cX7_laws 34 = .ok (.iconst 0, 1) := by decide +kernel
theorem dX7_laws_35 : decode cX7_laws 35 = .ok (.istore 5, 2) := by decide +kernel
theorem dX7_laws_37 : decode cX7_laws 37 = .ok (.iconst 0, 1) := by decide +kernel
theorem dX7_laws_38 : decode cX7_laws 38 = .ok (.istore 6, 2) := by decide +kernel
theorem dX7_laws_40 : decode cX7_laws 40 = .ok (.iload 6, 2) := by decide +kernel
theorem dX7_laws_42 : decode cX7_laws 42 = .ok (.aload_n 0, 1) := by decide +kernel
theorem dX7_laws_43 : decode cX7_laws 43 = .ok (.getfield 97, 3) := by decide +kernel
theorem dX7_laws_46 : decode cX7_laws 46 = .ok (.if_icmp .ge 38, 3) := by decide +kernel
theorem dX7_laws_49 : decode cX7_laws 49 = .ok (.aload_n 0, 1) := by decide +kernel
theorem dX7_laws_50 : decode cX7_laws 50 = .ok (.iload 6, 2) := by decide +kernel
theorem dX7_laws_52 : decode cX7_laws 52 = .ok (.putfield 100, 3) := by decide +kernel
theorem dX7_laws_55 : decode cX7_laws 55 = .ok (.iload 5, 2) := by decide +kernel
theorem dX7_laws_57 : decode cX7_laws 57 = .ok (.aload_n 0, 1) := by decide +kernel
theorem dX7_laws_58 : decode cX7_laws 58 = .ok (.iload_n 1, 1) := by decide +kernel
theorem dX7_laws_59 : decode cX7_laws 59 = .ok (.iload_n 2, 1) := by decide +kernel
theorem dX7_laws_60 : decode cX7_laws 60 = .ok (.invokevirtual 257, 3) := by decide +kernel
theorem dX7_laws_63 : decode cX7_laws 63 = .ok (.iconst (-1), 1) := by decide +kernel
theorem dX7_laws_64 : decode cX7_laws 64 = .ok (.if_icmp .ne 10, 3) := by decide +kernel
theorem dX7_laws_67 : decode cX7_laws 67 = .ok (.iconst 1, 1) := by decide +kernel
theorem dX7_laws_68 : decode cX7_laws 68 = .ok (.iload 6, 2) := by decide +kernel
theorem dX7_laws_70 : decode cX7_laws 70 = .ok (.ishl, 1) := by decide +kernel
theorem dX7_laws_71 : decode cX7_laws 71 = .ok (.goto 4, 3) := by decide +kernel
theorem dX7_laws_74 : decode cX7_laws 74 = .ok (.iconst 0, 1) := by decide +kernel
theorem dX7_laws_75 : decode cX7_laws 75 = .ok (.ior, 1) := by decide +kernel
theorem dX7_laws_76 : decode cX7_laws 76 = .ok (.istore 5, 2) := by decide +kernel
theorem dX7_laws_78 : decode cX7_laws 78 = .ok (.iinc 6 1, 3) := by decide +kernel
theorem dX7_laws_81 : decode cX7_laws 81 = .ok (.goto (-41), 3) := by decide +kernel
theorem dX7_laws_84 : decode cX7_laws 84 = .ok (.aload_n 0, 1) := by decide +kernel
theorem dX7_laws_85 : decode cX7_laws 85 = .ok (.iload 4, 2) := by decide +kernel
theorem dX7_laws_87 : decode cX7_laws 87 = .ok (.putfield 100, 3) := by decide +kernel
theorem dX7_laws_90 : decode cX7_laws 90 = .ok (.iload 5, 2) := by decide +kernel
theorem dX7_laws_92 : decode cX7_laws 92 = .ok (.ireturn, 1) := by decide +kernel
theorem dX7_film_0 : decode cX7_film 0 = .ok (.iload_n 1, 1) := by decide +kernel
theorem dX7_film_1 : decode cX7_film 1 = .ok (.iconst 0, 1) := by decide +kernel
theorem dX7_film_2 : decode cX7_film 2 = .ok (.iconst 3, 1) := by decide +kernel
theorem dX7_film_3 : decode cX7_film 3 = .ok (.invokestatic 90, 3) := by decide +kernel
theorem dX7_film_6 : decode cX7_film 6 = .ok (.ifCond .ne 6, 3) := by decide +kernel
theorem dX7_film_9 : decode cX7_film 9 = .ok (.bipush (-2), 2) := by decide +kernel
theorem dX7_film_11 : decode cX7_film 11 = .ok (.ireturn, 1) := by decide +kernel
theorem dX7_film_12 : decode cX7_film 12 = .ok (.iload_n 2, 1) := by decide +kernel
theorem dX7_film_13 : decode cX7_film 13 = .ok (.invokestatic 183, 3) := by decide +kernel
theorem dX7_film_16 : decode cX7_film 16 = .ok (.ifCond .ne 6, 3) := by decide +kernel
theorem dX7_film_19 : decode cX7_film 19 = .ok (.bipush (-5), 2) := by decide +kernel
theorem dX7_film_21 : decode cX7_film 21 = .ok (.ireturn, 1) := by decide +kernel
theorem dX7_film_22 : decode cX7_film 22 = .ok (.aload_n 0, 1) := by decide +kernel
theorem dX7_film_23 : decode cX7_film 23 = .ok (.getfield 52, 3) := by decide +kernel
theorem dX7_film_26 : decode cX7_film 26 = .ok (.iload_n 1, 1) := by decide +kernel
theorem dX7_film_27 : decode cX7_film 27 = .ok (.iconst 2, 1) := by decide +kernel
theorem dX7_film_28 : decode cX7_film 28 = .ok (.iastore, 1) := by decide +kernel
theorem dX7_film_29 : decode cX7_film 29 = .ok (.aload_n 0, 1) := by decide +kernel
theorem dX7_film_30 : decode cX7_film 30 = .ok (.getfield 55, 3) := by decide +kernel
theorem dX7_film_33 : decode cX7_film 33 = .ok (.iload_n 1, 1) := by decide +kernel
theorem dX7_film_34 : decode cX7_film 34 = .ok (.aload_n 0, 1) := by decide +kernel
theorem dX7_film_35 : decode cX7_film 35 = .ok (.getfield 94, 3) := by decide +kernel
theorem dX7_film_38 : decode cX7_film 38 = .ok (.iastore, 1) := by decide +kernel
theorem dX7_film_39 : decode cX7_film 39 = .ok (.iconst 0, 1) := by decide +kernel
theorem dX7_film_40 : decode cX7_film 40 = .ok (.istore_n 3, 1) := by decide +kernel
theorem dX7_film_41 : decode cX7_film 41 = .ok (.iload_n 3, 1) := by decide +kernel
theorem dX7_film_42 : decode cX7_film 42 = .ok (.bipush 40, 2) := by decide +kernel
theorem dX7_film_44 : decode cX7_film 44 = .ok (.if_icmp .ge 42, 3) := by decide +kernel
theorem dX7_film_47 : decode cX7_film 47 = .ok (.aload_n 0, 1) := by decide +kernel
theorem dX7_film_48 : decode cX7_film 48 = .ok (.getfield 58, 3) := by decide +kernel
theorem dX7_film_51 : decode cX7_film 51 = .ok (.bipush 40, 2) := by decide +kernel
theorem dX7_film_53 : decode cX7_film 53 = .ok (.iload_n 1, 1) := by decide +kernel
theorem dX7_film_54 : decode cX7_film 54 = .ok (.imul, 1) := by decide +kernel
theorem dX7_film_55 : decode cX7_film 55 = .ok (.iload_n 3, 1) := by decide +kernel
theorem dX7_film_56 : decode cX7_film 56 = .ok (.iadd, 1) := by decide +kernel
theorem dX7_film_57 : decode cX7_film 57 = .ok (.iload_n 3, 1) := by decide +kernel
theorem dX7_film_58 : decode cX7_film 58 = .ok (.aload_n 0, 1) := by decide +kernel
theorem dX7_film_59 : decode cX7_film 59 = .ok (.getfield 94, 3) := by decide +kernel
theorem dX7_film_62 : decode cX7_film 62 = .ok (.if_icmp .ge 16, 3) := by decide +kernel
theorem dX7_film_65 : decode cX7_film 65 = .ok (.aload_n 0, 1) := by decide +kernel
theorem dX7_film_66 : decode cX7_film 66 = .ok (.iload_n 2, 1) := by decide +kernel
theorem dX7_film_67 : decode cX7_film 67 = .ok (.iload_n 3, 1) := by decide +kernel
theorem dX7_film_68 : decode cX7_film 68 = .ok (.invokevirtual 202, 3) := by decide +kernel
theorem dX7_film_71 : decode cX7_film 71 = .ok (.ifCond .eq 7, 3) := by decide +kernel
theorem dX7_film_74 : decode cX7_film 74 = .ok (.iconst 1, 1) := by decide +kernel
theorem dX7_film_75 : decode cX7_film 75 = .ok (.goto 4, 3) := by decide +kernel
theorem dX7_film_78 : decode cX7_film 78 = .ok (.iconst 0, 1) := by decide +kernel
theorem dX7_film_79 : decode cX7_film 79 = .ok (.iastore, 1) := by decide +kernel
theorem dX7_film_80 : decode cX7_film 80 = .ok (.iinc 3 1, 3) := by decide +kernel
theorem dX7_film_83 : decode cX7_film 83 = .ok (.goto (-42), 3) := by decide +kernel
theorem dX7_film_86 : decode cX7_film 86 = .ok (.aload_n 0, 1) := by decide +kernel
theorem dX7_film_87 : decode cX7_film 87 = .ok (.getfield 94, 3) := by decide +kernel
theorem dX7_film_90 : decode cX7_film 90 = .ok (.ireturn, 1) := by decide +kernel
theorem dX7_winnerBy_0 : decode cX7_winnerBy 0 = .ok (.iload_n 1, 1) := by decide +kernel
theorem dX7_winnerBy_1 : decode cX7_winnerBy 1 = .ok (.i2l, 1) := by decide +kernel
theorem dX7_winnerBy_2 : decode cX7_winnerBy 2 = .ok (.lconst 1, 1) := by decide +kernel
theorem dX7_winnerBy_3 : decode cX7_winnerBy 3 = .ok (.ladd, 1) := by decide +kernel
theorem dX7_winnerBy_4 : decode cX7_winnerBy 4 = .ok (.lstore_n 2, 1) := by decide +kernel
theorem dX7_winnerBy_5 : decode cX7_winnerBy 5 = .ok (.iconst 0, 1) := by decide +kernel
theorem dX7_winnerBy_6 : decode cX7_winnerBy 6 = .ok (.istore 4, 2) := by decide +kernel
theorem dX7_winnerBy_8 : decode cX7_winnerBy 8 = .ok (.iload 4, 2) := by decide +kernel
theorem dX7_winnerBy_10 : decode cX7_winnerBy 10 = .ok (.bipush 28, 2) := by decide +kernel
theorem dX7_winnerBy_12 : decode cX7_winnerBy 12 = .ok (.if_icmp .ge 23, 3) := by decide +kernel
theorem dX7_winnerBy_15 : decode cX7_winnerBy 15 = .ok (.aload_n 0, 1) := by decide +kernel
theorem dX7_winnerBy_16 : decode cX7_winnerBy 16 = .ok (.getfield 76, 3) := by decide +kernel
theorem dX7_winnerBy_19 : decode cX7_winnerBy 19 = .ok (.iload 4, 2) := by decide +kernel
theorem dX7_winnerBy_21 : decode cX7_winnerBy 21 = .ok (.aload_n 0, 1) := by decide +kernel
theorem dX7_winnerBy_22 : decode cX7_winnerBy 22 = .ok (.getfield 22, 3) := by decide +kernel
theorem dX7_winnerBy_25 : decode cX7_winnerBy 25 = .ok (.iload 4, 2) := by decide +kernel
theorem dX7_winnerBy_27 : decode cX7_winnerBy 27 = .ok (.iaload, 1) := by decide +kernel
theorem dX7_winnerBy_28 : decode cX7_winnerBy 28 = .ok (.iastore, 1) := by decide +kernel
theorem dX7_winnerBy_29 : decode cX7_winnerBy 29 = .ok (.iinc 4 1, 3) := by decide +kernel
theorem dX7_winnerBy_32 : decode cX7_winnerBy 32 = .ok (.goto (-24), 3) := by decide +kernel
theorem dX7_winnerBy_35 : decode cX7_winnerBy 35 = .ok (.iconst 0, 1) := by decide +kernel
theorem dX7_winnerBy_36 : decode cX7_winnerBy 36 = .ok (.istore 4, 2) := by decide +kernel
theorem dX7_winnerBy_38 : decode cX7_winnerBy 38 = .ok (.iload 4, 2) := by decide +kernel
theorem dX7_winnerBy_40 : decode cX7_winnerBy 40 = .ok (.iconst 4, 1) := by decide +kernel
theorem dX7_winnerBy_41 : decode cX7_winnerBy 41 = .ok (.aload_n 0, 1) := by decide +kernel
theorem dX7_winnerBy_42 : decode cX7_winnerBy 42 = .ok (.getfield 87, 3) := by decide +kernel
theorem dX7_winnerBy_45 : decode cX7_winnerBy 45 = .ok (.imul, 1) := by decide +kernel
theorem dX7_winnerBy_46 : decode cX7_winnerBy 46 = .ok (.if_icmp .ge 48, 3) := by decide +kernel
theorem dX7_winnerBy_49 : decode cX7_winnerBy 49 = .ok (.lload_n 2, 1) := by decide +kernel
theorem dX7_winnerBy_50 : decode cX7_winnerBy 50 = .ok (.ldc2_w 260, 3) := by decide +kernel
theorem dX7_winnerBy_53 : decode cX7_winnerBy 53 = .ok (.lmul, 1) := by decide +kernel
theorem dX7_winnerBy_54 : decode cX7_winnerBy 54 = .ok (.ldc2_w 262, 3) := by decide +kernel
theorem dX7_winnerBy_57 : decode cX7_winnerBy 57 = .ok (.lrem, 1) := by decide +kernel
theorem dX7_winnerBy_58 : decode cX7_winnerBy 58 = .ok (.lstore_n 2, 1) := by decide +kernel
theorem dX7_winnerBy_59 : decode cX7_winnerBy 59 = .ok (.aload_n 0, 1) := by decide +kernel
theorem dX7_winnerBy_60 : decode cX7_winnerBy 60 = .ok (.getfield 22, 3) := by decide +kernel
theorem dX7_winnerBy_63 : decode cX7_winnerBy 63 = .ok (.iload 4, 2) := by decide +kernel
theorem dX7_winnerBy_65 : decode cX7_winnerBy 65 = .ok (.aload_n 0, 1) := by decide +kernel
theorem dX7_winnerBy_66 : decode cX7_winnerBy 66 = .ok (.getfield 22, 3) := by decide +kernel
theorem dX7_winnerBy_69 : decode cX7_winnerBy 69 = .ok (.iload 4, 2) := by decide +kernel
theorem dX7_winnerBy_71 : decode cX7_winnerBy 71 = .ok (.iaload, 1) := by decide +kernel
theorem dX7_winnerBy_72 : decode cX7_winnerBy 72 = .ok (.lload_n 2, 1) := by decide +kernel
theorem dX7_winnerBy_73 : decode cX7_winnerBy 73 = .ok (.ldc2_w 264, 3) := by decide +kernel
theorem dX7_winnerBy_76 : decode cX7_winnerBy 76 = .ok (.lrem, 1) := by decide +kernel
theorem dX7_winnerBy_77 : decode cX7_winnerBy 77 = .ok (.l2i, 1) := by decide +kernel
theorem dX7_winnerBy_78 : decode cX7_winnerBy 78 = .ok (.iadd, 1) := by decide +kernel
theorem dX7_winnerBy_79 : decode cX7_winnerBy 79 = .ok (.iconst 1, 1) := by decide +kernel
theorem dX7_winnerBy_80 : decode cX7_winnerBy 80 = .ok (.isub, 1) := by decide +kernel
theorem dX7_winnerBy_81 : decode cX7_winnerBy 81 = .ok (.iconst 0, 1) := by decide +kernel
theorem dX7_winnerBy_82 : decode cX7_winnerBy 82 = .ok (.bipush 9, 2) := by decide +kernel
theorem dX7_winnerBy_84 : decode cX7_winnerBy 84 = .ok (.invokestatic 170, 3) := by decide +kernel
theorem dX7_winnerBy_87 : decode cX7_winnerBy 87 = .ok (.iastore, 1) := by decide +kernel
theorem dX7_winnerBy_88 : decode cX7_winnerBy 88 = .ok (.iinc 4 1, 3) := by decide +kernel
theorem dX7_winnerBy_91 : decode cX7_winnerBy 91 = .ok (.goto (-53), 3) := by decide +kernel
theorem dX7_winnerBy_94 : decode cX7_winnerBy 94 = .ok (.aload_n 0, 1) := by decide +kernel
theorem dX7_winnerBy_95 : decode cX7_winnerBy 95 = .ok (.invokevirtual 226, 3) := by decide +kernel
theorem dX7_winnerBy_98 : decode cX7_winnerBy 98 = .ok (.istore 4, 2) := by decide +kernel
theorem dX7_winnerBy_100 : decode cX7_winnerBy 100 = .ok (.iconst 0, 1) := by decide +kernel
theorem dX7_winnerBy_101 : decode cX7_winnerBy 101 = .ok (.istore 5, 2) := by decide +kernel
theorem dX7_winnerBy_103 : decode cX7_winnerBy 103 = .ok (.iload 5, 2) := by decide +kernel
theorem dX7_winnerBy_105 : decode cX7_winnerBy 105 = .ok (.bipush 28, 2) := by decide +kernel
theorem dX7_winnerBy_107 : decode cX7_winnerBy 107 = .ok (.if_icmp .ge 23, 3) := by decide +kernel
theorem dX7_winnerBy_110 : decode cX7_winnerBy 110 = .ok (.aload_n 0, 1) := by decide +kernel
theorem dX7_winnerBy_111 : decode cX7_winnerBy 111 = .ok (.getfield 22, 3) := by decide +kernel
theorem dX7_winnerBy_114 : decode cX7_winnerBy 114 = .ok (.iload 5, 2) := by decide +kernel
theorem dX7_winnerBy_116 : decode cX7_winnerBy 116 = .ok (.aload_n 0, 1) := by decide +kernel
theorem dX7_winnerBy_117 : decode cX7_winnerBy 117 = .ok (.getfield 76, 3) := by decide +kernel
theorem dX7_winnerBy_120 : decode cX7_winnerBy 120 = .ok (.iload 5, 2) := by decide +kernel
theorem dX7_winnerBy_122 : decode cX7_winnerBy 122 = .ok (.iaload, 1) := by decide +kernel
theorem dX7_winnerBy_123 : decode cX7_winnerBy 123 = .ok (.iastore, 1) := by decide +kernel
theorem dX7_winnerBy_124 : decode cX7_winnerBy 124 = .ok (.iinc 5 1, 3) := by decide +kernel
theorem dX7_winnerBy_127 : decode cX7_winnerBy 127 = .ok (.goto (-24), 3) := by decide +kernel
theorem dX7_winnerBy_130 : decode cX7_winnerBy 130 = .ok (.iload 4, 2) := by decide +kernel
theorem dX7_winnerBy_132 : decode cX7_winnerBy 132 = .ok (.ireturn, 1) := by decide +kernel
theorem dX7_drawn_0 : decode cX7_drawn 0 = .ok (.iload_n 1, 1) := by decide +kernel
theorem dX7_drawn_1 : decode cX7_drawn 1 = .ok (.iconst 0, 1) := by decide +kernel
theorem dX7_drawn_2 : decode cX7_drawn 2 = .ok (.ldc_w 266, 3) := by decide +kernel
theorem dX7_drawn_5 : decode cX7_drawn 5 = .ok (.invokestatic 90, 3) := by decide +kernel
theorem dX7_drawn_8 : decode cX7_drawn 8 = .ok (.ifCond .eq 11, 3) := by decide +kernel
theorem dX7_drawn_11 : decode cX7_drawn 11 = .ok (.aload_n 0, 1) := by decide +kernel
theorem dX7_drawn_12 : decode cX7_drawn 12 = .ok (.iload_n 1, 1) := by decide +kernel
theorem dX7_drawn_13 : decode cX7_drawn 13 = .ok (.invokevirtual 267, 3) := by decide +kernel
theorem dX7_drawn_16 : decode cX7_drawn 16 = .ok (.goto 5, 3) := by decide +kernel
theorem dX7_drawn_19 : decode cX7_drawn 19 = .ok (.bipush (-2), 2) := by decide +kernel
theorem dX7_drawn_21 : decode cX7_drawn 21 = .ok (.ireturn, 1) := by decide +kernel
theorem dX7_odds_0 : decode cX7_odds 0 = .ok (.iload_n 1, 1) := by decide +kernel
theorem dX7_odds_1 : decode cX7_odds 1 = .ok (.iconst 0, 1) := by decide +kernel
theorem dX7_odds_2 : decode cX7_odds 2 = .ok (.ldc_w 266, 3) := by decide +kernel
theorem dX7_odds_5 : decode cX7_odds 5 = .ok (.invokestatic 90, 3) := by decide +kernel
theorem dX7_odds_8 : decode cX7_odds 8 = .ok (.ifCond .eq 30, 3) := by decide +kernel
theorem dX7_odds_11 : decode cX7_odds 11 = .ok (.iload_n 2, 1) := by decide +kernel
theorem dX7_odds_12 : decode cX7_odds 12 = .ok (.iconst 1, 1) := by decide +kernel
theorem dX7_odds_13 : decode cX7_odds 13 = .ok (.bipush 30, 2) := by decide +kernel
theorem dX7_odds_15 : decode cX7_odds 15 = .ok (.invokestatic 90, 3) := by decide +kernel
theorem dX7_odds_18 : decode cX7_odds 18 = .ok (.ifCond .eq 20, 3) := by decide +kernel
theorem dX7_odds_21 : decode cX7_odds 21 = .ok (.iload_n 3, 1) := by decide +kernel
theorem dX7_odds_22 : decode cX7_odds 22 = .ok (.invokestatic 183, 3) := by decide +kernel
theorem dX7_odds_25 : decode cX7_odds 25 = .ok (.ifCond .eq 13, 3) := by decide +kernel
theorem dX7_odds_28 : decode cX7_odds 28 = .ok (.iload 4, 2) := by decide +kernel
theorem dX7_odds_30 : decode cX7_odds 30 = .ok (.iconst 0, 1) := by decide +kernel
theorem dX7_odds_31 : decode cX7_odds 31 = .ok (.iconst 1, 1) := by decide +kernel
theorem dX7_odds_32 : decode cX7_odds 32 = .ok (.invokestatic 90, 3) := by decide +kernel
theorem dX7_odds_35 : decode cX7_odds 35 = .ok (.ifCond .ne 7, 3) := by decide +kernel
theorem dX7_odds_38 : decode cX7_odds 38 = .ok (.ldc2_w 245, 3) := by decide +kernel
theorem dX7_odds_41 : decode cX7_odds 41 = .ok (.lreturn, 1) := by decide +kernel
theorem dX7_odds_42 : decode cX7_odds 42 = .ok (.lconst 0, 1) := by decide +kernel
theorem dX7_odds_43 : decode cX7_odds 43 = .ok (.lstore 5, 2) := by decide +kernel
theorem dX7_odds_45 : decode cX7_odds 45 = .ok (.iconst 0, 1) := by decide +kernel
theorem dX7_odds_46 : decode cX7_odds 46 = .ok (.istore 7, 2) := by decide +kernel
theorem dX7_odds_48 : decode cX7_odds 48 = .ok (.iload 7, 2) := by decide +kernel
theorem dX7_odds_50 : decode cX7_odds 50 = .ok (.iload_n 2, 1) := by decide +kernel
theorem dX7_odds_51 : decode cX7_odds 51 = .ok (.if_icmp .ge 31, 3) := by decide +kernel
theorem dX7_odds_54 : decode cX7_odds 54 = .ok (.lload 5, 2) := by decide +kernel
theorem dX7_odds_56 : decode cX7_odds 56 = .ok (.aload_n 0, 1) := by decide +kernel
theorem dX7_odds_57 : decode cX7_odds 57 = .ok (.iload_n 1, 1) := by decide +kernel
theorem dX7_odds_58 : decode cX7_odds 58 = .ok (.iload 7, 2) := by decide +kernel
theorem dX7_odds_60 : decode cX7_odds 60 = .ok (.iadd, 1) := by decide +kernel
theorem dX7_odds_61 : decode cX7_odds 61 = .ok (.invokevirtual 267, 3) := by decide +kernel
theorem dX7_odds_64 : decode cX7_odds 64 = .ok (.iload_n 3, 1) := by decide +kernel
theorem dX7_odds_65 : decode cX7_odds 65 = .ok (.if_icmp .ne 7, 3) := by decide +kernel
theorem dX7_odds_68 : decode cX7_odds 68 = .ok (.lconst 1, 1) := by decide +kernel
theorem dX7_odds_69 : decode cX7_odds 69 = .ok (.goto 4, 3) := by decide +kernel
theorem dX7_odds_72 : decode cX7_odds 72 = .ok (.lconst 0, 1) := by decide +kernel
theorem dX7_odds_73 : decode cX7_odds 73 = .ok (.ladd, 1) := by decide +kernel
theorem dX7_odds_74 : decode cX7_odds 74 = .ok (.lstore 5, 2) := by decide +kernel
theorem dX7_odds_76 : decode cX7_odds 76 = .ok (.iinc 7 1, 3) := by decide +kernel
theorem dX7_odds_79 : decode cX7_odds 79 = .ok (.goto (-31), 3) := by decide +kernel
theorem dX7_odds_82 : decode cX7_odds 82 = .ok (.lload 5, 2) := by decide +kernel
theorem dX7_odds_84 : decode cX7_odds 84 = .ok (.iload_n 2, 1) := by decide +kernel
theorem dX7_odds_85 : decode cX7_odds 85 = .ok (.i2l, 1) := by decide +kernel
theorem dX7_odds_86 : decode cX7_odds 86 = .ok (.iload 4, 2) := by decide +kernel
theorem dX7_odds_88 : decode cX7_odds 88 = .ok (.invokestatic 247, 3) := by decide +kernel
theorem dX7_odds_91 : decode cX7_odds 91 = .ok (.lreturn, 1) := by decide +kernel
theorem dX7_image_0 : decode cX7_image 0 = .ok (.aload_n 0, 1) := by decide +kernel
theorem dX7_image_1 : decode cX7_image 1 = .ok (.iconst 1, 1) := by decide +kernel
theorem dX7_image_2 : decode cX7_image 2 = .ok (.putfield 270, 3) := by decide +kernel
theorem dX7_image_5 : decode cX7_image 5 = .ok (.aload_n 0, 1) := by decide +kernel
theorem dX7_image_6 : decode cX7_image 6 = .ok (.aload_n 0, 1) := by decide +kernel
theorem dX7_image_7 : decode cX7_image 7 = .ok (.getfield 87, 3) := by decide +kernel
theorem dX7_image_10 : decode cX7_image 10 = .ok (.putfield 274, 3) := by decide +kernel
theorem dX7_image_13 : decode cX7_image 13 = .ok (.aload_n 0, 1) := by decide +kernel
theorem dX7_image_14 : decode cX7_image 14 = .ok (.aload_n 0, 1) := by decide +kernel
theorem dX7_image_15 : decode cX7_image 15 = .ok (.getfield 94, 3) := by decide +kernel
theorem dX7_image_18 : decode cX7_image 18 = .ok (.putfield 277, 3) := by decide +kernel
theorem dX7_image_21 : decode cX7_image 21 = .ok (.aload_n 0, 1) := by decide +kernel
theorem dX7_image_22 : decode cX7_image 22 = .ok (.aload_n 0, 1) := by decide +kernel
theorem dX7_image_23 : decode cX7_image 23 = .ok (.getfield 100, 3) := by decide +kernel
theorem dX7_image_26 : decode cX7_image 26 = .ok (.putfield 280, 3) := by decide +kernel
theorem dX7_image_29 : decode cX7_image 29 = .ok (.iconst 0, 1) := by decide +kernel
theorem dX7_image_30 : decode cX7_image 30 = .ok (.istore_n 1, 1) := by decide +kernel
theorem dX7_image_31 : decode cX7_image 31 = .ok (.iload_n 1, 1) := by decide +kernel
theorem dX7_image_32 : decode cX7_image 32 = .ok (.bipush 7, 2) := by decide +kernel
theorem dX7_image_34 : decode cX7_image 34 = .ok (.if_icmp .ge 21, 3) := by decide +kernel
theorem dX7_image_37 : decode cX7_image 37 = .ok (.aload_n 0, 1) := by decide +kernel
theorem dX7_image_38 : decode cX7_image 38 = .ok (.getfield 43, 3) := by decide +kernel
theorem dX7_image_41 : decode cX7_image 41 = .ok (.iload_n 1, 1) := by decide +kernel
theorem dX7_image_42 : decode cX7_image 42 = .ok (.aload_n 0, 1) := by decide +kernel
theorem dX7_image_43 : decode cX7_image 43 = .ok (.getfield 19, 3) := by decide +kernel
theorem dX7_image_46 : decode cX7_image 46 = .ok (.iload_n 1, 1) := by decide +kernel
theorem dX7_image_47 : decode cX7_image 47 = .ok (.iaload, 1) := by decide +kernel
theorem dX7_image_48 : decode cX7_image 48 = .ok (.iastore, 1) := by decide +kernel
theorem dX7_image_49 : decode cX7_image 49 = .ok (.iinc 1 1, 3) := by decide +kernel
theorem dX7_image_52 : decode cX7_image 52 = .ok (.goto (-21), 3) := by decide +kernel
theorem dX7_image_55 : decode cX7_image 55 = .ok (.iconst 0, 1) := by decide +kernel
theorem dX7_image_56 : decode cX7_image 56 = .ok (.istore_n 1, 1) := by decide +kernel
theorem dX7_image_57 : decode cX7_image 57 = .ok (.iload_n 1, 1) := by decide +kernel
theorem dX7_image_58 : decode cX7_image 58 = .ok (.bipush 28, 2) := by decide +kernel
theorem dX7_image_60 : decode cX7_image 60 = .ok (.if_icmp .ge 21, 3) := by decide +kernel
theorem dX7_image_63 : decode cX7_image 63 = .ok (.aload_n 0, 1) := by decide +kernel
theorem dX7_image_64 : decode cX7_image 64 = .ok (.getfield 46, 3) := by decide +kernel
theorem dX7_image_67 : decode cX7_image 67 = .ok (.iload_n 1, 1) := by decide +kernel
theorem dX7_image_68 : decode cX7_image 68 = .ok (.aload_n 0, 1) := by decide +kernel
theorem dX7_image_69 : decode cX7_image 69 = .ok (.getfield 22, 3) := by decide +kernel
theorem dX7_image_72 : decode cX7_image 72 = .ok (.iload_n 1, 1) := by decide +kernel
theorem dX7_image_73 : decode cX7_image 73 = .ok (.iaload, 1) := by decide +kernel
theorem dX7_image_74 : decode cX7_image 74 = .ok (.iastore, 1) := by decide +kernel
theorem dX7_image_75 : decode cX7_image 75 = .ok (.iinc 1 1, 3) := by decide +kernel
theorem dX7_image_78 : decode cX7_image 78 = .ok (.goto (-21), 3) := by decide +kernel
theorem dX7_image_81 : decode cX7_image 81 = .ok (.iconst 0, 1) := by decide +kernel
theorem dX7_image_82 : decode cX7_image 82 = .ok (.istore_n 1, 1) := by decide +kernel
theorem dX7_image_83 : decode cX7_image 83 = .ok (.iload_n 1, 1) := by decide +kernel
theorem dX7_image_84 : decode cX7_image 84 = .ok (.iconst 3, 1) := by decide +kernel
theorem dX7_image_85 : decode cX7_image 85 = .ok (.if_icmp .ge 21, 3) := by decide +kernel
theorem dX7_image_88 : decode cX7_image 88 = .ok (.aload_n 0, 1) := by decide +kernel
theorem dX7_image_89 : decode cX7_image 89 = .ok (.getfield 49, 3) := by decide +kernel
theorem dX7_image_92 : decode cX7_image 92 = .ok (.iload_n 1, 1) := by decide +kernel
theorem dX7_image_93 : decode cX7_image 93 = .ok (.aload_n 0, 1) := by decide +kernel
theorem dX7_image_94 : decode cX7_image 94 = .ok (.getfield 31, 3) := by decide +kernel
theorem dX7_image_97 : decode cX7_image 97 = .ok (.iload_n 1, 1) := by decide +kernel
theorem dX7_image_98 : decode cX7_image 98 = .ok (.iaload, 1) := by decide +kernel
theorem dX7_image_99 : decode cX7_image 99 = .ok (.iastore, 1) := by decide +kernel
theorem dX7_image_100 : decode cX7_image 100 = .ok (.iinc 1 1, 3) := by decide +kernel
theorem dX7_image_103 : decode cX7_image 103 = .ok (.goto (-20), 3) := by decide +kernel
theorem dX7_image_106 : decode cX7_image 106 = .ok (.aload_n 0, 1) := by decide +kernel
theorem dX7_image_107 : decode cX7_image 107 = .ok (.getfield 87, 3) := by decide +kernel
theorem dX7_image_110 : decode cX7_image 110 = .ok (.ireturn, 1) := by decide +kernel
theorem dX7_back_0 : decode cX7_back 0 = .ok (.aload_n 0, 1) := by decide +kernel
theorem dX7_back_1 : decode cX7_back 1 = .ok (.getfield 270, 3) := by decide +kernel
theorem dX7_back_4 : decode cX7_back 4 = .ok (.ifCond .ne 6, 3) := by decide +kernel
theorem dX7_back_7 : decode cX7_back 7 = .ok (.bipush (-3), 2) := by decide +kernel
theorem dX7_back_9 : decode cX7_back 9 = .ok (.ireturn, 1) := by decide +kernel
theorem dX7_back_10 : decode cX7_back 10 = .ok (.aload_n 0, 1) := by decide +kernel
theorem dX7_back_11 : decode cX7_back 11 = .ok (.aload_n 0, 1) := by decide +kernel
theorem dX7_back_12 : decode cX7_back 12 = .ok (.getfield 274, 3) := by decide +kernel
theorem dX7_back_15 : decode cX7_back 15 = .ok (.putfield 87, 3) := by decide +kernel
theorem dX7_back_18 : decode cX7_back 18 = .ok (.aload_n 0, 1) := by decide +kernel
theorem dX7_back_19 : decode cX7_back 19 = .ok (.aload_n 0, 1) := by decide +kernel
theorem dX7_back_20 : decode cX7_back 20 = .ok (.getfield 277, 3) := by decide +kernel
theorem dX7_back_23 : decode cX7_back 23 = .ok (.putfield 94, 3) := by decide +kernel
theorem dX7_back_26 : decode cX7_back 26 = .ok (.aload_n 0, 1) := by decide +kernel
theorem dX7_back_27 : decode cX7_back 27 = .ok (.aload_n 0, 1) := by decide +kernel
theorem dX7_back_28 : decode cX7_back 28 = .ok (.getfield 280, 3) := by decide +kernel
theorem dX7_back_31 : decode cX7_back 31 = .ok (.putfield 100, 3) := by decide +kernel
theorem dX7_back_34 : decode cX7_back 34 = .ok (.iconst 0, 1) := by decide +kernel
theorem dX7_back_35 : decode cX7_back 35 = .ok (.istore_n 1, 1) := by decide +kernel
theorem dX7_back_36 : decode cX7_back 36 = .ok (.iload_n 1, 1) := by decide +kernel
theorem dX7_back_37 : decode cX7_back 37 = .ok (.bipush 7, 2) := by decide +kernel
theorem dX7_back_39 : decode cX7_back 39 = .ok (.if_icmp .ge 21, 3) := by decide +kernel
theorem dX7_back_42 : decode cX7_back 42 = .ok (.aload_n 0, 1) := by decide +kernel
theorem dX7_back_43 : decode cX7_back 43 = .ok (.getfield 19, 3) := by decide +kernel
theorem dX7_back_46 : decode cX7_back 46 = .ok (.iload_n 1, 1) := by decide +kernel
theorem dX7_back_47 : decode cX7_back 47 = .ok (.aload_n 0, 1) := by decide +kernel
theorem dX7_back_48 : decode cX7_back 48 = .ok (.getfield 43, 3) := by decide +kernel
theorem dX7_back_51 : decode cX7_back 51 = .ok (.iload_n 1, 1) := by decide +kernel
theorem dX7_back_52 : decode cX7_back 52 = .ok (.iaload, 1) := by decide +kernel
theorem dX7_back_53 : decode cX7_back 53 = .ok (.iastore, 1) := by decide +kernel
theorem dX7_back_54 : decode cX7_back 54 = .ok (.iinc 1 1, 3) := by decide +kernel
theorem dX7_back_57 : decode cX7_back 57 = .ok (.goto (-21), 3) := by decide +kernel
theorem dX7_back_60 : decode cX7_back 60 = .ok (.iconst 0, 1) := by decide +kernel
theorem dX7_back_61 : decode cX7_back 61 = .ok (.istore_n 1, 1) := by decide +kernel
theorem dX7_back_62 : decode cX7_back 62 = .ok (.iload_n 1, 1) := by decide +kernel
theorem dX7_back_63 : decode cX7_back 63 = .ok (.bipush 28, 2) := by decide +kernel
theorem dX7_back_65 : decode cX7_back 65 = .ok (.if_icmp .ge 21, 3) := by decide +kernel
theorem dX7_back_68 : decode cX7_back 68 = .ok (.aload_n 0, 1) := by decide +kernel
theorem dX7_back_69 : decode cX7_back 69 = .ok (.getfield 22, 3) := by decide +kernel
theorem dX7_back_72 : decode cX7_back 72 = .ok (.iload_n 1, 1) := by decide +kernel
theorem dX7_back_73 : decode cX7_back 73 = .ok (.aload_n 0, 1) := by decide +kernel
theorem dX7_back_74 : decode cX7_back 74 = .ok (.getfield 46, 3) := by decide +kernel
theorem dX7_back_77 : decode cX7_back 77 = .ok (.iload_n 1, 1) := by decide +kernel
theorem dX7_back_78 : decode cX7_back 78 = .ok (.iaload, 1) := by decide +kernel
theorem dX7_back_79 : decode cX7_back 79 = .ok (.iastore, 1) := by decide +kernel
theorem dX7_back_80 : decode cX7_back 80 = .ok (.iinc 1 1, 3) := by decide +kernel
theorem dX7_back_83 : decode cX7_back 83 = .ok (.goto (-21), 3) := by decide +kernel
theorem dX7_back_86 : decode cX7_back 86 = .ok (.iconst 0, 1) := by decide +kernel
theorem dX7_back_87 : decode cX7_back 87 = .ok (.istore_n 1, 1) := by decide +kernel
theorem dX7_back_88 : decode cX7_back 88 = .ok (.iload_n 1, 1) := by decide +kernel
theorem dX7_back_89 : decode cX7_back 89 = .ok (.iconst 3, 1) := by decide +kernel
theorem dX7_back_90 : decode cX7_back 90 = .ok (.if_icmp .ge 21, 3) := by decide +kernel
theorem dX7_back_93 : decode cX7_back 93 = .ok (.aload_n 0, 1) := by decide +kernel
theorem dX7_back_94 : decode cX7_back 94 = .ok (.getfield 31, 3) := by decide +kernel
theorem dX7_back_97 : decode cX7_back 97 = .ok (.iload_n 1, 1) := by decide +kernel
theorem dX7_back_98 : decode cX7_back 98 = .ok (.aload_n 0, 1) := by decide +kernel
theorem dX7_back_99 : decode cX7_back 99 = .ok (.getfield 49, 3) := by decide +kernel
theorem dX7_back_102 : decode cX7_back 102 = .ok (.iload_n 1, 1) := by decide +kernel
theorem dX7_back_103 : decode cX7_back 103 = .ok (.iaload, 1) := by decide +kernel
theorem dX7_back_104 : decode cX7_back 104 = .ok (.iastore, 1) := by decide +kernel
theorem dX7_back_105 : decode cX7_back 105 = .ok (.iinc 1 1, 3) := by decide +kernel
theorem dX7_back_108 : decode cX7_back 108 = .ok (.goto (-20), 3) := by decide +kernel
theorem dX7_back_111 : decode cX7_back 111 = .ok (.aload_n 0, 1) := by decide +kernel
theorem dX7_back_112 : decode cX7_back 112 = .ok (.getfield 87, 3) := by decide +kernel
theorem dX7_back_115 : decode cX7_back 115 = .ok (.ireturn, 1) := by decide +kernel
theorem dX7_sheet_0 : decode cX7_sheet 0 = .ok (.iload_n 1, 1) := by decide +kernel
theorem dX7_sheet_1 : decode cX7_sheet 1 = .ok (.iconst 0, 1) := by decide +kernel
theorem dX7_sheet_2 : decode cX7_sheet 2 = .ok (.iconst 3, 1) := by decide +kernel
theorem dX7_sheet_3 : decode cX7_sheet 3 = .ok (.invokestatic 90, 3) := by decide +kernel
theorem dX7_sheet_6 : decode cX7_sheet 6 = .ok (.ifCond .eq 23, 3) := by decide +kernel
theorem dX7_sheet_9 : decode cX7_sheet 9 = .ok (.iload_n 2, 1) := by decide +kernel
theorem dX7_sheet_10 : decode cX7_sheet 10 = .ok (.iconst (-1), 1) := by decide +kernel
theorem dX7_sheet_11 : decode cX7_sheet 11 = .ok (.iconst 2, 1) := by decide +kernel
theorem dX7_sheet_12 : decode cX7_sheet 12 = .ok (.invokestatic 90, 3) := by decide +kernel
theorem dX7_sheet_15 : decode cX7_sheet 15 = .ok (.ifCond .eq 14, 3) := by decide +kernel
theorem dX7_sheet_18 : decode cX7_sheet 18 = .ok (.iload_n 2, 1) := by decide +kernel
theorem dX7_sheet_19 : decode cX7_sheet 19 = .ok (.iconst (-1), 1) := by decide +kernel
theorem dX7_sheet_20 : decode cX7_sheet 20 = .ok (.if_icmp .eq 12, 3) := by decide +kernel
theorem dX7_sheet_23 : decode cX7_sheet 23 = .ok (.iload_n 3, 1) := by decide +kernel
theorem dX7_sheet_24 : decode cX7_sheet 24 = .ok (.bipush 40, 2) := by decide +kernel
theorem dX7_sheet_26 : decode cX7_sheet 26 = .ok (.if_icmp .le 6, 3) := by decide +kernel
theorem dX7_sheet_29 : decode cX7_sheet 29 = .ok (.bipush (-2), 2) := by decide +kernel
theorem dX7_sheet_31 : decode cX7_sheet 31 = .ok (.ireturn, 1) := by decide +kernel
theorem dX7_sheet_32 : decode cX7_sheet 32 = .ok (.iload_n 2, 1) := by decide +kernel
theorem dX7_sheet_33 : decode cX7_sheet 33 = .ok (.iconst (-1), 1) := by decide +kernel
theorem dX7_sheet_34 : decode cX7_sheet 34 = .ok (.if_icmp .eq 10, 3) := by decide +kernel
theorem dX7_sheet_37 : decode cX7_sheet 37 = .ok (.iload_n 3, 1) := by decide +kernel
theorem dX7_sheet_38 : decode cX7_sheet 38 = .ok (.ifCond .ge 6, 3) := by decide +kernel
theorem dX7_sheet_41 : decode cX7_sheet 41 = .ok (.bipush (-14), 2) := by decide +kernel
theorem dX7_sheet_43 : decode cX7_sheet 43 = .ok (.ireturn, 1) := by decide +kernel
theorem dX7_sheet_44 : decode cX7_sheet 44 = .ok (.aload_n 0, 1) := by decide +kernel
theorem dX7_sheet_45 : decode cX7_sheet 45 = .ok (.getfield 52, 3) := by decide +kernel
theorem dX7_sheet_48 : decode cX7_sheet 48 = .ok (.iload_n 1, 1) := by decide +kernel
theorem dX7_sheet_49 : decode cX7_sheet 49 = .ok (.iload_n 2, 1) := by decide +kernel
theorem dX7_sheet_50 : decode cX7_sheet 50 = .ok (.iastore, 1) := by decide +kernel
theorem dX7_sheet_51 : decode cX7_sheet 51 = .ok (.aload_n 0, 1) := by decide +kernel
theorem dX7_sheet_52 : decode cX7_sheet 52 = .ok (.getfield 55, 3) := by decide +kernel
theorem dX7_sheet_55 : decode cX7_sheet 55 = .ok (.iload_n 1, 1) := by decide +kernel
theorem dX7_sheet_56 : decode cX7_sheet 56 = .ok (.iload_n 2, 1) := by decide +kernel
theorem dX7_sheet_57 : decode cX7_sheet 57 = .ok (.iconst (-1), 1) := by decide +kernel
theorem dX7_sheet_58 : decode cX7_sheet 58 = .ok (.if_icmp .ne 7, 3) := by decide +kernel
theorem dX7_sheet_61 : decode cX7_sheet 61 = .ok (.iconst 0, 1) := by decide +kernel
theorem dX7_sheet_62 : decode cX7_sheet 62 = .ok (.goto 4, 3) := by decide +kernel
theorem dX7_sheet_65 : decode cX7_sheet 65 = .ok (.iload_n 3, 1) := by decide +kernel
theorem dX7_sheet_66 : decode cX7_sheet 66 = .ok (.iastore, 1) := by decide +kernel
theorem dX7_sheet_67 : decode cX7_sheet 67 = .ok (.iconst 0, 1) := by decide +kernel
theorem dX7_sheet_68 : decode cX7_sheet 68 = .ok (.istore 4, 2) := by decide +kernel
theorem dX7_sheet_70 : decode cX7_sheet 70 = .ok (.iload 4, 2) := by decide +kernel
theorem dX7_sheet_72 : decode cX7_sheet 72 = .ok (.bipush 40, 2) := by decide +kernel
theorem dX7_sheet_74 : decode cX7_sheet 74 = .ok (.if_icmp .ge 22, 3) := by decide +kernel
theorem dX7_sheet_77 : decode cX7_sheet 77 = .ok (.aload_n 0, 1) := by decide +kernel
theorem dX7_sheet_78 : decode cX7_sheet 78 = .ok (.getfield 58, 3) := by decide +kernel
theorem dX7_sheet_81 : decode cX7_sheet 81 = .ok (.bipush 40, 2) := by decide +kernel
theorem dX7_sheet_83 : decode cX7_sheet 83 = .ok (.iload_n 1, 1) := by decide +kernel
theorem dX7_sheet_84 : decode cX7_sheet 84 = .ok (.imul, 1) := by decide +kernel
theorem dX7_sheet_85 : decode cX7_sheet 85 = .ok (.iload 4, 2) := by decide +kernel
theorem dX7_sheet_87 : decode cX7_sheet 87 = .ok (.iadd, 1) := by decide +kernel
theorem dX7_sheet_88 : decode cX7_sheet 88 = .ok (.iconst 0, 1) := by decide +kernel
theorem dX7_sheet_89 : decode cX7_sheet 89 = .ok (.iastore, 1) := by decide +kernel
theorem dX7_sheet_90 : decode cX7_sheet 90 = .ok (.iinc 4 1, 3) := by decide +kernel
theorem dX7_sheet_93 : decode cX7_sheet 93 = .ok (.goto (-23), 3) := by decide +kernel
theorem dX7_sheet_96 : decode cX7_sheet 96 = .ok (.iconst 1, 1) := by decide +kernel
theorem dX7_sheet_97 : decode cX7_sheet 97 = .ok (.ireturn, 1) := by decide +kernel
theorem dX7_cell_0 : decode cX7_cell 0 = .ok (.iload_n 1, 1) := by decide +kernel
theorem dX7_cell_1 : decode cX7_cell 1 = .ok (.iconst 0, 1) := by decide +kernel
theorem dX7_cell_2 : decode cX7_cell 2 = .ok (.iconst 3, 1) := by decide +kernel
theorem dX7_cell_3 : decode cX7_cell 3 = .ok (.invokestatic 90, 3) := by decide +kernel
theorem dX7_cell_6 : decode cX7_cell 6 = .ok (.ifCond .ne 6, 3) := by decide +kernel
theorem dX7_cell_9 : decode cX7_cell 9 = .ok (.bipush (-2), 2) := by decide +kernel
theorem dX7_cell_11 : decode cX7_cell 11 = .ok (.ireturn, 1) := by decide +kernel
theorem dX7_cell_12 : decode cX7_cell 12 = .ok (.aload_n 0, 1) := by decide +kernel
theorem dX7_cell_13 : decode cX7_cell 13 = .ok (.getfield 52, 3) := by decide +kernel
theorem dX7_cell_16 : decode cX7_cell 16 = .ok (.iload_n 1, 1) := by decide +kernel
theorem dX7_cell_17 : decode cX7_cell 17 = .ok (.iaload, 1) := by decide +kernel
theorem dX7_cell_18 : decode cX7_cell 18 = .ok (.iconst (-1), 1) := by decide +kernel
theorem dX7_cell_19 : decode cX7_cell 19 = .ok (.if_icmp .ne 6, 3) := by decide +kernel
theorem dX7_cell_22 : decode cX7_cell 22 = .ok (.bipush (-11), 2) := by decide +kernel
theorem dX7_cell_24 : decode cX7_cell 24 = .ok (.ireturn, 1) := by decide +kernel
theorem dX7_cell_25 : decode cX7_cell 25 = .ok (.iload_n 2, 1) := by decide +kernel
theorem dX7_cell_26 : decode cX7_cell 26 = .ok (.iconst 0, 1) := by decide +kernel
theorem dX7_cell_27 : decode cX7_cell 27 = .ok (.aload_n 0, 1) := by decide +kernel
theorem dX7_cell_28 : decode cX7_cell 28 = .ok (.getfield 55, 3) := by decide +kernel
theorem dX7_cell_31 : decode cX7_cell 31 = .ok (.iload_n 1, 1) := by decide +kernel
theorem dX7_cell_32 : decode cX7_cell 32 = .ok (.iaload, 1) := by decide +kernel
theorem dX7_cell_33 : decode cX7_cell 33 = .ok (.iconst 1, 1) := by decide +kernel
theorem dX7_cell_34 : decode cX7_cell 34 = .ok (.isub, 1) := by decide +kernel
theorem dX7_cell_35 : decode cX7_cell 35 = .ok (.invokestatic 90, 3) := by decide +kernel
theorem dX7_cell_38 : decode cX7_cell 38 = .ok (.ifCond .ne 6, 3) := by decide +kernel
theorem dX7_cell_41 : decode cX7_cell 41 = .ok (.bipush (-12), 2) := by decide +kernel
theorem dX7_cell_43 : decode cX7_cell 43 = .ok (.ireturn, 1) := by decide +kernel
theorem dX7_cell_44 : decode cX7_cell 44 = .ok (.aload_n 0, 1) := by decide +kernel
theorem dX7_cell_45 : decode cX7_cell 45 = .ok (.getfield 58, 3) := by decide +kernel
theorem dX7_cell_48 : decode cX7_cell 48 = .ok (.bipush 40, 2) := by decide +kernel
theorem dX7_cell_50 : decode cX7_cell 50 = .ok (.iload_n 1, 1) := by decide +kernel
theorem dX7_cell_51 : decode cX7_cell 51 = .ok (.imul, 1) := by decide +kernel
theorem dX7_cell_52 : decode cX7_cell 52 = .ok (.iload_n 2, 1) := by decide +kernel
theorem dX7_cell_53 : decode cX7_cell 53 = .ok (.iadd, 1) := by decide +kernel
theorem dX7_cell_54 : decode cX7_cell 54 = .ok (.aload_n 0, 1) := by decide +kernel
theorem dX7_cell_55 : decode cX7_cell 55 = .ok (.getfield 52, 3) := by decide +kernel
theorem dX7_cell_58 : decode cX7_cell 58 = .ok (.iload_n 1, 1) := by decide +kernel
theorem dX7_cell_59 : decode cX7_cell 59 = .ok (.iaload, 1) := by decide +kernel
theorem dX7_cell_60 : decode cX7_cell 60 = .ok (.ifCond .ne 8, 3) := by decide +kernel
theorem dX7_cell_63 : decode cX7_cell 63 = .ok (.iload_n 3, 1) := by decide +kernel
theorem dX7_cell_64 : decode cX7_cell 64 = .ok (.i2b, 1) := by decide +kernel
theorem dX7_cell_65 : decode cX7_cell 65 = .ok (.goto 19, 3) := by decide +kernel
theorem dX7_cell_68 : decode cX7_cell 68 = .ok (.aload_n 0, 1) := by decide +kernel
theorem dX7_cell_69 : decode cX7_cell 69 = .ok (.getfield 52, 3) := by decide +kernel
theorem dX7_cell_72 : decode cX7_cell 72 = .ok (.iload_n 1, 1) := by decide +kernel
theorem dX7_cell_73 : decode cX7_cell 73 = .ok (.iaload, 1) := by decide +kernel
theorem dX7_cell_74 : decode cX7_cell 74 = .ok (.iconst 1, 1) := by decide +kernel
theorem dX7_cell_75 : decode cX7_cell 75 = .ok (.if_icmp .ne 8, 3) := by decide +kernel
theorem dX7_cell_78 : decode cX7_cell 78 = .ok (.iload_n 3, 1) := by decide +kernel
theorem dX7_cell_79 : decode cX7_cell 79 = .ok (.i2s, 1) := by decide +kernel
theorem dX7_cell_80 : decode cX7_cell 80 = .ok (.goto 4, 3) := by decide +kernel
theorem dX7_cell_83 : decode cX7_cell 83 = .ok (.iload_n 3, 1) := by decide +kernel
theorem dX7_cell_84 : decode cX7_cell 84 = .ok (.iastore, 1) := by decide +kernel
theorem dX7_cell_85 : decode cX7_cell 85 = .ok (.iconst 1, 1) := by decide +kernel
theorem dX7_cell_86 : decode cX7_cell 86 = .ok (.ireturn, 1) := by decide +kernel
theorem dX7_copy_0 : decode cX7_copy 0 = .ok (.iload_n 1, 1) := by decide +kernel
theorem dX7_copy_1 : decode cX7_copy 1 = .ok (.iconst 0, 1) := by decide +kernel
theorem dX7_copy_2 : decode cX7_copy 2 = .ok (.iconst 3, 1) := by decide +kernel
theorem dX7_copy_3 : decode cX7_copy 3 = .ok (.invokestatic 90, 3) := by decide +kernel
theorem dX7_copy_6 : decode cX7_copy 6 = .ok (.ifCond .eq 12, 3) := by decide +kernel
theorem dX7_copy_9 : decode cX7_copy 9 = .ok (.iload_n 3, 1) := by decide +kernel
theorem dX7_copy_10 : decode cX7_copy 10 = .ok (.iconst 0, 1) := by decide +kernel
theorem dX7_copy_11 : decode cX7_copy 11 = .ok (.iconst 3, 1) := by decide +kernel
theorem dX7_copy_12 : decode cX7_copy 12 = .ok (.invokestatic 90, 3) := by decide +kernel
theorem dX7_copy_15 : decode cX7_copy 15 = .ok (.ifCond .ne 6, 3) := by decide +kernel
theorem dX7_copy_18 : decode cX7_copy 18 = .ok (.bipush (-2), 2) := by decide +kernel
theorem dX7_copy_20 : decode cX7_copy 20 = .ok (.ireturn, 1) := by decide +kernel
theorem dX7_copy_21 : decode cX7_copy 21 = .ok (.aload_n 0, 1) := by decide +kernel
theorem dX7_copy_22 : decode cX7_copy 22 = .ok (.getfield 52, 3) := by decide +kernel
theorem dX7_copy_25 : decode cX7_copy 25 = .ok (.iload_n 1, 1) := by decide +kernel
theorem dX7_copy_26 : decode cX7_copy 26 = .ok (.iaload, 1) := by decide +kernel
theorem dX7_copy_27 : decode cX7_copy 27 = .ok (.iconst (-1), 1) := by decide +kernel
theorem dX7_copy_28 : decode cX7_copy 28 = .ok (.if_icmp .eq 13, 3) := by decide +kernel
theorem dX7_copy_31 : decode cX7_copy 31 = .ok (.aload_n 0, 1) := by decide +kernel
theorem dX7_copy_32 : decode cX7_copy 32 = .ok (.getfield 52, 3) := by decide +kernel
theorem dX7_copy_35 : decode cX7_copy 35 = .ok (.iload_n 3, 1) := by decide +kernel
theorem dX7_copy_36 : decode cX7_copy 36 = .ok (.iaload, 1) := by decide +kernel
theorem dX7_copy_37 : decode cX7_copy 37 = .ok (.iconst (-1), 1) := by decide +kernel
theorem dX7_copy_38 : decode cX7_copy 38 = .ok (.if_icmp .ne 6, 3) := by decide +kernel
theorem dX7_copy_41 : decode cX7_copy 41 = .ok (.bipush (-11), 2) := by decide +kernel
theorem dX7_copy_43 : decode cX7_copy 43 = .ok (.ireturn, 1) := by decide +kernel
theorem dX7_copy_44 : decode cX7_copy 44 = .ok (.aload_n 0, 1) := by decide +kernel
theorem dX7_copy_45 : decode cX7_copy 45 = .ok (.getfield 52, 3) := by decide +kernel
theorem dX7_copy_48 : decode cX7_copy 48 = .ok (.iload_n 1, 1) := by decide +kernel
theorem dX7_copy_49 : decode cX7_copy 49 = .ok (.iaload, 1) := by decide +kernel
theorem dX7_copy_50 : decode cX7_copy 50 = .ok (.aload_n 0, 1) := by decide +kernel
theorem dX7_copy_51 : decode cX7_copy 51 = .ok (.getfield 52, 3) := by decide +kernel
theorem dX7_copy_54 : decode cX7_copy 54 = .ok (.iload_n 3, 1) := by decide +kernel
theorem dX7_copy_55 : decode cX7_copy 55 = .ok (.iaload, 1) := by decide +kernel
theorem dX7_copy_56 : decode cX7_copy 56 = .ok (.if_icmp .eq 6, 3) := by decide +kernel
theorem dX7_copy_59 : decode cX7_copy 59 = .ok (.bipush (-13), 2) := by decide +kernel
theorem dX7_copy_61 : decode cX7_copy 61 = .ok (.ireturn, 1) := by decide +kernel
theorem dX7_copy_62 : decode cX7_copy 62 = .ok (.iload 5, 2) := by decide +kernel
theorem dX7_copy_64 : decode cX7_copy 64 = .ok (.ifCond .lt 60, 3) := by decide +kernel
theorem dX7_copy_67 : decode cX7_copy 67 = .ok (.iload_n 2, 1) := by decide +kernel
theorem dX7_copy_68 : decode cX7_copy 68 = .ok (.ifCond .lt 56, 3) := by decide +kernel
theorem dX7_copy_71 : decode cX7_copy 71 = .ok (.iload 4, 2) := by decide +kernel
theorem dX7_copy_73 : decode cX7_copy 73 = .ok (.ifCond .lt 51, 3) := by decide +kernel
theorem dX7_copy_76 : decode cX7_copy 76 = .ok (.iload_n 2, 1) := by decide +kernel
theorem dX7_copy_77 : decode cX7_copy 77 = .ok (.aload_n 0, 1) := by decide +kernel
theorem dX7_copy_78 : decode cX7_copy 78 = .ok (.getfield 55, 3) := by decide +kernel
theorem dX7_copy_81 : decode cX7_copy 81 = .ok (.iload_n 1, 1) := by decide +kernel
theorem dX7_copy_82 : decode cX7_copy 82 = .ok (.iaload, 1) := by decide +kernel
theorem dX7_copy_83 : decode cX7_copy 83 = .ok (.if_icmp .gt 41, 3) := by decide +kernel
theorem dX7_copy_86 : decode cX7_copy 86 = .ok (.iload 4, 2) := by decide +kernel
theorem dX7_copy_88 : decode cX7_copy 88 = .ok (.aload_n 0, 1) := by decide +kernel
theorem dX7_copy_89 : decode cX7_copy 89 = .ok (.getfield 55, 3) := by decide +kernel
theorem dX7_copy_92 : decode cX7_copy 92 = .ok (.iload_n 3, 1) := by decide +kernel
theorem dX7_copy_93 : decode cX7_copy 93 = .ok (.iaload, 1) := by decide +kernel
theorem dX7_copy_94 : decode cX7_copy 94 = .ok (.if_icmp .gt 30, 3) := by decide +kernel
theorem dX7_copy_97 : decode cX7_copy 97 = .ok (.iload 5, 2) := by decide +kernel
theorem dX7_copy_99 : decode cX7_copy 99 = .ok (.aload_n 0, 1) := by decide +kernel
theorem dX7_copy_100 : decode cX7_copy 100 = .ok (.getfield 55, 3) := by decide +kernel
theorem dX7_copy_103 : decode cX7_copy 103 = .ok (.iload_n 1, 1) := by decide +kernel
theorem dX7_copy_104 : decode cX7_copy 104 = .ok (.iaload, 1) := by decide +kernel
theorem dX7_copy_105 : decode cX7_copy 105 = .ok (.iload_n 2, 1) := by decide +kernel
theorem dX7_copy_106 : decode cX7_copy 106 = .ok (.isub, 1) := by decide +kernel
theorem dX7_copy_107 : decode cX7_copy 107 = .ok (.if_icmp .gt 17, 3) := by decide +kernel
theorem dX7_copy_110 : decode cX7_copy 110 = .ok (.iload 5, 2) := by decide +kernel
theorem dX7_copy_112 : decode cX7_copy 112 = .ok (.aload_n 0, 1) := by decide +kernel
theorem dX7_copy_113 : decode cX7_copy 113 = .ok (.getfield 55, 3) := by decide +kernel
theorem dX7_copy_116 : decode cX7_copy 116 = .ok (.iload_n 3, 1) := by decide +kernel
theorem dX7_copy_117 : decode cX7_copy 117 = .ok (.iaload, 1) := by decide +kernel
theorem dX7_copy_118 : decode cX7_copy 118 = .ok (.iload 4, 2) := by decide +kernel
theorem dX7_copy_120 : decode cX7_copy 120 = .ok (.isub, 1) := by decide +kernel
theorem dX7_copy_121 : decode cX7_copy 121 = .ok (.if_icmp .le 6, 3) := by decide +kernel
theorem dX7_copy_124 : decode cX7_copy 124 = .ok (.bipush (-12), 2) := by decide +kernel
theorem dX7_copy_126 : decode cX7_copy 126 = .ok (.ireturn, 1) := by decide +kernel
theorem dX7_copy_127 : decode cX7_copy 127 = .ok (.bipush 40, 2) := by decide +kernel
theorem dX7_copy_129 : decode cX7_copy 129 = .ok (.iload_n 1, 1) := by decide +kernel
theorem dX7_copy_130 : decode cX7_copy 130 = .ok (.imul, 1) := by decide +kernel
theorem dX7_copy_131 : decode cX7_copy 131 = .ok (.iload_n 2, 1) := by decide +kernel
theorem dX7_copy_132 : decode cX7_copy 132 = .ok (.iadd, 1) := by decide +kernel
theorem dX7_copy_133 : decode cX7_copy 133 = .ok (.istore 6, 2) := by decide +kernel
theorem dX7_copy_135 : decode cX7_copy 135 = .ok (.bipush 40, 2) := by decide +kernel
theorem dX7_copy_137 : decode cX7_copy 137 = .ok (.iload_n 3, 1) := by decide +kernel
theorem dX7_copy_138 : decode cX7_copy 138 = .ok (.imul, 1) := by decide +kernel
theorem dX7_copy_139 : decode cX7_copy 139 = .ok (.iload 4, 2) := by decide +kernel
theorem dX7_copy_141 : decode cX7_copy 141 = .ok (.iadd, 1) := by decide +kernel
theorem dX7_copy_142 : decode cX7_copy 142 = .ok (.istore 7, 2) := by decide +kernel
theorem dX7_copy_144 : decode cX7_copy 144 = .ok (.iconst 0, 1) := by decide +kernel
theorem dX7_copy_145 : decode cX7_copy 145 = .ok (.istore 8, 2) := by decide +kernel
theorem dX7_copy_147 : decode cX7_copy 147 = .ok (.iload 8, 2) := by decide +kernel
theorem dX7_copy_149 : decode cX7_copy 149 = .ok (.iload 5, 2) := by decide +kernel
theorem dX7_copy_151 : decode cX7_copy 151 = .ok (.if_icmp .ge 50, 3) := by decide +kernel
theorem dX7_copy_154 : decode cX7_copy 154 = .ok (.iload 6, 2) := by decide +kernel
theorem dX7_copy_156 : decode cX7_copy 156 = .ok (.iload 7, 2) := by decide +kernel
theorem dX7_copy_158 : decode cX7_copy 158 = .ok (.if_icmp .ge 13, 3) := by decide +kernel
theorem dX7_copy_161 : decode cX7_copy 161 = .ok (.iload 5, 2) := by decide +kernel
theorem dX7_copy_163 : decode cX7_copy 163 = .ok (.iconst 1, 1) := by decide +kernel
theorem dX7_copy_164 : decode cX7_copy 164 = .ok (.isub, 1) := by decide +kernel
theorem dX7_copy_165 : decode cX7_copy 165 = .ok (.iload 8, 2) := by decide +kernel
theorem dX7_copy_167 : decode cX7_copy 167 = .ok (.isub, 1) := by decide +kernel
theorem dX7_copy_168 : decode cX7_copy 168 = .ok (.goto 5, 3) := by decide +kernel
theorem dX7_copy_171 : decode cX7_copy 171 = .ok (.iload 8, 2) := by decide +kernel
theorem dX7_copy_173 : decode cX7_copy 173 = .ok (.istore 9, 2) := by decide +kernel
theorem dX7_copy_175 : decode cX7_copy 175 = .ok (.aload_n 0, 1) := by decide +kernel
theorem dX7_copy_176 : decode cX7_copy 176 = .ok (.getfield 58, 3) := by decide +kernel
theorem dX7_copy_179 : decode cX7_copy 179 = .ok (.iload 7, 2) := by decide +kernel
theorem dX7_copy_181 : decode cX7_copy 181 = .ok (.iload 9, 2) := by decide +kernel
theorem dX7_copy_183 : decode cX7_copy 183 = .ok (.iadd, 1) := by decide +kernel
theorem dX7_copy_184 : decode cX7_copy 184 = .ok (.aload_n 0, 1) := by decide +kernel
theorem dX7_copy_185 : decode cX7_copy 185 = .ok (.getfield 58, 3) := by decide +kernel
theorem dX7_copy_188 : decode cX7_copy 188 = .ok (.iload 6, 2) := by decide +kernel
theorem dX7_copy_190 : decode cX7_copy 190 = .ok (.iload 9, 2) := by decide +kernel
theorem dX7_copy_192 : decode cX7_copy 192 = .ok (.iadd, 1) := by decide +kernel
theorem dX7_copy_193 : decode cX7_copy 193 = .ok (.iaload, 1) := by decide +kernel
theorem dX7_copy_194 : decode cX7_copy 194 = .ok (.iastore, 1) := by decide +kernel
theorem dX7_copy_195 : decode cX7_copy 195 = .ok (.iinc 8 1, 3) := by decide +kernel
theorem dX7_copy_198 : decode cX7_copy 198 = .ok (.goto (-51), 3) := by decide +kernel
theorem dX7_copy_201 : decode cX7_copy 201 = .ok (.iload 5, 2) := by decide +kernel
theorem dX7_copy_203 : decode cX7_copy 203 = .ok (.ireturn, 1) := by decide +kernel
theorem dX7_depthsBy_0 : decode cX7_depthsBy 0 = .ok (.iload_n 1, 1) := by decide +kernel
theorem dX7_depthsBy_1 : decode cX7_depthsBy 1 = .ok (.iconst 0, 1) := by decide +kernel
theorem dX7_depthsBy_2 : decode cX7_depthsBy 2 = .ok (.iconst 3, 1) := by decide +kernel
theorem dX7_depthsBy_3 : decode cX7_depthsBy 3 = .ok (.invokestatic 90, 3) := by decide +kernel
theorem dX7_depthsBy_6 : decode cX7_depthsBy 6 = .ok (.ifCond .eq 23, 3) := by decide +kernel
theorem dX7_depthsBy_9 : decode cX7_depthsBy 9 = .ok (.iload_n 2, 1) := by decide +kernel
theorem dX7_depthsBy_10 : decode cX7_depthsBy 10 = .ok (.iconst 0, 1) := by decide +kernel
theorem dX7_depthsBy_11 : decode cX7_depthsBy 11 = .ok (.iconst 2, 1) := by decide +kernel
theorem dX7_depthsBy_12 : decode cX7_depthsBy 12 = .ok (.invokestatic 90, 3) := by decide +kernel
theorem dX7_depthsBy_15 : decode cX7_depthsBy 15 = .ok (.ifCond .eq 14, 3) := by decide +kernel
theorem dX7_depthsBy_18 : decode cX7_depthsBy 18 = .ok (.iload 4, 2) := by decide +kernel
theorem dX7_depthsBy_20 : decode cX7_depthsBy 20 = .ok (.iconst 0, 1) := by decide +kernel
theorem dX7_depthsBy_21 : decode cX7_depthsBy 21 = .ok (.bipush 12, 2) := by decide +kernel
theorem dX7_depthsBy_23 : decode cX7_depthsBy 23 = .ok (.invokestatic 90, 3) := by decide +kernel
theorem dX7_depthsBy_26 : decode cX7_depthsBy 26 = .ok (.ifCond .ne 6, 3) := by decide +kernel
theorem dX7_depthsBy_29 : decode cX7_depthsBy 29 = .ok (.bipush (-2), 2) := by decide +kernel
theorem dX7_depthsBy_31 : decode cX7_depthsBy 31 = .ok (.ireturn, 1) := by decide +kernel
theorem dX7_depthsBy_32 : decode cX7_depthsBy 32 = .ok (.aload_n 0, 1) := by decide +kernel
theorem dX7_depthsBy_33 : decode cX7_depthsBy 33 = .ok (.getfield 52, 3) := by decide +kernel
theorem dX7_depthsBy_36 : decode cX7_depthsBy 36 = .ok (.iload_n 1, 1) := by decide +kernel
theorem dX7_depthsBy_37 : decode cX7_depthsBy 37 = .ok (.iaload, 1) := by decide +kernel
theorem dX7_depthsBy_38 : decode cX7_depthsBy 38 = .ok (.iconst (-1), 1) := by decide +kernel
theorem dX7_depthsBy_39 : decode cX7_depthsBy 39 = .ok (.if_icmp .ne 6, 3) := by decide +kernel
theorem dX7_depthsBy_42 : decode cX7_depthsBy 42 = .ok (.bipush (-11), 2) := by decide +kernel
theorem dX7_depthsBy_44 : decode cX7_depthsBy 44 = .ok (.ireturn, 1) := by decide +kernel
theorem dX7_depthsBy_45 : decode cX7_depthsBy 45 = .ok (.aload_n 0, 1) := by decide +kernel
theorem dX7_depthsBy_46 : decode cX7_depthsBy 46 = .ok (.getfield 52, 3) := by decide +kernel
theorem dX7_depthsBy_49 : decode cX7_depthsBy 49 = .ok (.iload_n 1, 1) := by decide +kernel
theorem dX7_depthsBy_50 : decode cX7_depthsBy 50 = .ok (.iaload, 1) := by decide +kernel
theorem dX7_depthsBy_51 : decode cX7_depthsBy 51 = .ok (.iload_n 2, 1) := by decide +kernel
theorem dX7_depthsBy_52 : decode cX7_depthsBy 52 = .ok (.if_icmp .eq 6, 3) := by decide +kernel
theorem dX7_depthsBy_55 : decode cX7_depthsBy 55 = .ok (.bipush (-13), 2) := by decide +kernel
theorem dX7_depthsBy_57 : decode cX7_depthsBy 57 = .ok (.ireturn, 1) := by decide +kernel
theorem dX7_depthsBy_58 : decode cX7_depthsBy 58 = .ok (.iconst 0, 1) := by decide +kernel
theorem dX7_depthsBy_59 : decode cX7_depthsBy 59 = .ok (.istore 5, 2) := by decide +kernel
theorem dX7_depthsBy_61 : decode cX7_depthsBy 61 = .ok (.iconst 0, 1) := by decide +kernel
theorem dX7_depthsBy_62 : decode cX7_depthsBy 62 = .ok (.istore 6, 2) := by decide +kernel
theorem dX7_depthsBy_64 : decode cX7_depthsBy 64 = .ok (.iload 6, 2) := by decide +kernel
theorem dX7_depthsBy_66 : decode cX7_depthsBy 66 = .ok (.iload 4, 2) := by decide +kernel
theorem dX7_depthsBy_68 : decode cX7_depthsBy 68 = .ok (.if_icmp .ge 94, 3) := by decide +kernel
theorem dX7_depthsBy_71 : decode cX7_depthsBy 71 = .ok (.iload_n 3, 1) := by decide +kernel
theorem dX7_depthsBy_72 : decode cX7_depthsBy 72 = .ok (.iconst 3, 1) := by decide +kernel
theorem dX7_depthsBy_73 : decode cX7_depthsBy 73 = .ok (.iload 6, 2) := by decide +kernel
theorem dX7_depthsBy_75 : decode cX7_depthsBy 75 = .ok (.imul, 1) := by decide +kernel
theorem dX7_depthsBy_76 : decode cX7_depthsBy 76 = .ok (.iadd, 1) := by decide +kernel
theorem dX7_depthsBy_77 : decode cX7_depthsBy 77 = .ok (.istore 7, 2) := by decide +kernel
theorem dX7_depthsBy_79 : decode cX7_depthsBy 79 = .ok (.iload_n 3, 1) := by decide +kernel
theorem dX7_depthsBy_80 : decode cX7_depthsBy 80 = .ok (.ifCond .lt 22, 3) := by decide +kernel
theorem dX7_depthsBy_83 : decode cX7_depthsBy 83 = .ok (.iload 7, 2) := by decide +kernel
theorem dX7_depthsBy_85 : decode cX7_depthsBy 85 = .ok (.iload_n 3, 1) := by decide +kernel
theorem dX7_depthsBy_86 : decode cX7_depthsBy 86 = .ok (.if_icmp .lt 16, 3) := by decide +kernel
theorem dX7_depthsBy_89 : decode cX7_depthsBy 89 = .ok (.iload 7, 2) := by decide +kernel
theorem dX7_depthsBy_91 : decode cX7_depthsBy 91 = .ok (.aload_n 0, 1) := by decide +kernel
theorem dX7_depthsBy_92 : decode cX7_depthsBy 92 = .ok (.getfield 55, 3) := by decide +kernel
theorem dX7_depthsBy_95 : decode cX7_depthsBy 95 = .ok (.iload_n 1, 1) := by decide +kernel
theorem dX7_depthsBy_96 : decode cX7_depthsBy 96 = .ok (.iaload, 1) := by decide +kernel
theorem dX7_depthsBy_97 : decode cX7_depthsBy 97 = .ok (.iconst 3, 1) := by decide +kernel
theorem dX7_depthsBy_98 : decode cX7_depthsBy 98 = .ok (.isub, 1) := by decide +kernel
theorem dX7_depthsBy_99 : decode cX7_depthsBy 99 = .ok (.if_icmp .le 6, 3) := by decide +kernel
theorem dX7_depthsBy_102 : decode cX7_depthsBy 102 = .ok (.bipush (-12), 2) := by decide +kernel
theorem dX7_depthsBy_104 : decode cX7_depthsBy 104 = .ok (.ireturn, 1) := by decide +kernel
theorem dX7_depthsBy_105 : decode cX7_depthsBy 105 = .ok (.bipush 40, 2) := by decide +kernel
theorem dX7_depthsBy_107 : decode cX7_depthsBy 107 = .ok (.iload_n 1, 1) := by decide +kernel
theorem dX7_depthsBy_108 : decode cX7_depthsBy 108 = .ok (.imul, 1) := by decide +kernel
theorem dX7_depthsBy_109 : decode cX7_depthsBy 109 = .ok (.iload 7, 2) := by decide +kernel
theorem dX7_depthsBy_111 : decode cX7_depthsBy 111 = .ok (.iadd, 1) := by decide +kernel
theorem dX7_depthsBy_112 : decode cX7_depthsBy 112 = .ok (.istore 8, 2) := by decide +kernel
theorem dX7_depthsBy_114 : decode cX7_depthsBy 114 = .ok (.iload 5, 2) := by decide +kernel
theorem dX7_depthsBy_116 : decode cX7_depthsBy 116 = .ok (.aload_n 0, 1) := by decide +kernel
theorem dX7_depthsBy_117 : decode cX7_depthsBy 117 = .ok (.aload_n 0, 1) := by decide +kernel
theorem dX7_depthsBy_118 : decode cX7_depthsBy 118 = .ok (.getfield 58, 3) := by decide +kernel
theorem dX7_depthsBy_121 : decode cX7_depthsBy 121 = .ok (.iload 8, 2) := by decide +kernel
theorem dX7_depthsBy_123 : decode cX7_depthsBy 123 = .ok (.iaload, 1) := by decide +kernel
theorem dX7_depthsBy_124 : decode cX7_depthsBy 124 = .ok (.aload_n 0, 1) := by decide +kernel
theorem dX7_depthsBy_125 : decode cX7_depthsBy 125 = .ok (.getfield 58, 3) := by decide +kernel
theorem dX7_depthsBy_128 : decode cX7_depthsBy 128 = .ok (.iload 8, 2) := by decide +kernel
theorem dX7_depthsBy_130 : decode cX7_depthsBy 130 = .ok (.iconst 1, 1) := by decide +kernel
theorem dX7_depthsBy_131 : decode cX7_depthsBy 131 = .ok (.iadd, 1) := by decide +kernel
theorem dX7_depthsBy_132 : decode cX7_depthsBy 132 = .ok (.iaload, 1) := by decide +kernel
theorem dX7_depthsBy_133 : decode cX7_depthsBy 133 = .ok (.aload_n 0, 1) := by decide +kernel
theorem dX7_depthsBy_134 : decode cX7_depthsBy 134 = .ok (.getfield 58, 3) := by decide +kernel
theorem dX7_depthsBy_137 : decode cX7_depthsBy 137 = .ok (.iload 8, 2) := by decide +kernel
theorem dX7_depthsBy_139 : decode cX7_depthsBy 139 = .ok (.iconst 2, 1) := by decide +kernel
theorem dX7_depthsBy_140 : decode cX7_depthsBy 140 = .ok (.iadd, 1) := by decide +kernel
theorem dX7_depthsBy_141 : decode cX7_depthsBy 141 = .ok (.iaload, 1) := by decide +kernel
theorem dX7_depthsBy_142 : decode cX7_depthsBy 142 = .ok (.invokevirtual 283, 3) := by decide +kernel
theorem dX7_depthsBy_145 : decode cX7_depthsBy 145 = .ok (.ifCond .lt 7, 3) := by decide +kernel
theorem dX7_depthsBy_148 : decode cX7_depthsBy 148 = .ok (.iconst 1, 1) := by decide +kernel
theorem dX7_depthsBy_149 : decode cX7_depthsBy 149 = .ok (.goto 4, 3) := by decide +kernel
theorem dX7_depthsBy_152 : decode cX7_depthsBy 152 = .ok (.iconst 0, 1) := by decide +kernel
theorem dX7_depthsBy_153 : decode cX7_depthsBy 153 = .ok (.iadd, 1) := by decide +kernel
theorem dX7_depthsBy_154 : decode cX7_depthsBy 154 = .ok (.istore 5, 2) := by decide +kernel
theorem dX7_depthsBy_156 : decode cX7_depthsBy 156 = .ok (.iinc 6 1, 3) := by decide +kernel
theorem dX7_depthsBy_159 : decode cX7_depthsBy 159 = .ok (.goto (-95), 3) := by decide +kernel
theorem dX7_depthsBy_162 : decode cX7_depthsBy 162 = .ok (.iload 5, 2) := by decide +kernel
theorem dX7_depthsBy_164 : decode cX7_depthsBy 164 = .ok (.ireturn, 1) := by decide +kernel
theorem dX7_isUnder_0 : decode cX7_isUnder 0 = .ok (.iload_n 1, 1) := by decide +kernel
theorem dX7_isUnder_1 : decode cX7_isUnder 1 = .ok (.ifCond .eq 28, 3) := by decide +kernel
theorem dX7_isUnder_4 : decode cX7_isUnder 4 = .ok (.iload_n 0, 1) := by decide +kernel
theorem dX7_isUnder_5 : decode cX7_isUnder 5 = .ok (.iload_n 1, 1) := by decide +kernel
theorem dX7_isUnder_6 : decode cX7_isUnder 6 = .ok (.if_icmp .eq 23, 3) := by decide +kernel
theorem dX7_isUnder_9 : decode cX7_isUnder 9 = .ok (.iload_n 1, 1) := by decide +kernel
theorem dX7_isUnder_10 : decode cX7_isUnder 10 = .ok (.iconst 1, 1) := by decide +kernel
theorem dX7_isUnder_11 : decode cX7_isUnder 11 = .ok (.if_icmp .ne 8, 3) := by decide +kernel
theorem dX7_isUnder_14 : decode cX7_isUnder 14 = .ok (.iload_n 0, 1) := by decide +kernel
theorem dX7_isUnder_15 : decode cX7_isUnder 15 = .ok (.iconst 3, 1) := by decide +kernel
theorem dX7_isUnder_16 : decode cX7_isUnder 16 = .ok (.if_icmp .eq 13, 3) := by decide +kernel
theorem dX7_isUnder_19 : decode cX7_isUnder 19 = .ok (.iload_n 1, 1) := by decide +kernel
theorem dX7_isUnder_20 : decode cX7_isUnder 20 = .ok (.iconst 2, 1) := by decide +kernel
theorem dX7_isUnder_21 : decode cX7_isUnder 21 = .ok (.if_icmp .ne 12, 3) := by decide +kernel
theorem dX7_isUnder_24 : decode cX7_isUnder 24 = .ok (.iload_n 0, 1) := by decide +kernel
theorem dX7_isUnder_25 : decode cX7_isUnder 25 = .ok (.iconst 4, 1) := by decide +kernel
theorem dX7_isUnder_26 : decode cX7_isUnder 26 = .ok (.if_icmp .ne 7, 3) := by decide +kernel
theorem dX7_isUnder_29 : decode cX7_isUnder 29 = .ok (.iconst 1, 1) := by decide +kernel
theorem dX7_isUnder_30 : decode cX7_isUnder 30 = .ok (.goto 4, 3) := by decide +kernel
theorem dX7_isUnder_33 : decode cX7_isUnder 33 = .ok (.iconst 0, 1) := by decide +kernel
theorem dX7_isUnder_34 : decode cX7_isUnder 34 = .ok (.ireturn, 1) := by decide +kernel
theorem dX7_taken_0 : decode cX7_taken 0 = .ok (.iload_n 2, 1) := by decide +kernel
theorem dX7_taken_1 : decode cX7_taken 1 = .ok (.iconst 0, 1) := by decide +kernel
theorem dX7_taken_2 : decode cX7_taken 2 = .ok (.bipush 6, 2) := by decide +kernel
theorem dX7_taken_4 : decode cX7_taken 4 = .ok (.invokestatic 90, 3) := by decide +kernel
theorem dX7_taken_7 : decode cX7_taken 7 = .ok (.ifCond .ne 6, 3) := by decide +kernel
theorem dX7_taken_10 : decode cX7_taken 10 = .ok (.bipush (-2), 2) := by decide +kernel
theorem dX7_taken_12 : decode cX7_taken 12 = .ok (.ireturn, 1) := by decide +kernel
theorem dX7_taken_13 : decode cX7_taken 13 = .ok (.iload_n 1, 1) := by decide +kernel
theorem dX7_taken_14 : decode cX7_taken 14 = .ok (.iconst 0, 1) := by decide +kernel
theorem dX7_taken_15 : decode cX7_taken 15 = .ok (.bipush 14, 2) := by decide +kernel
theorem dX7_taken_17 : decode cX7_taken 17 = .ok (.invokestatic 90, 3) := by decide +kernel
theorem dX7_taken_20 : decode cX7_taken 20 = .ok (.ifCond .ne 6, 3) := by decide +kernel
theorem dX7_taken_23 : decode cX7_taken 23 = .ok (.bipush (-12), 2) := by decide +kernel
theorem dX7_taken_25 : decode cX7_taken 25 = .ok (.ireturn, 1) := by decide +kernel
theorem dX7_taken_26 : decode cX7_taken 26 = .ok (.iload_n 1, 1) := by decide +kernel
theorem dX7_taken_27 : decode cX7_taken 27 = .ok (.bipush 8, 2) := by decide +kernel
theorem dX7_taken_29 : decode cX7_taken 29 = .ok (.if_icmp .ge 34, 3) := by decide +kernel
theorem dX7_taken_32 : decode cX7_taken 32 = .ok (.iload_n 1, 1) := by decide +kernel
theorem dX7_taken_33 : decode cX7_taken 33 = .ok (.aload_n 0, 1) := by decide +kernel
theorem dX7_taken_34 : decode cX7_taken 34 = .ok (.getfield 94, 3) := by decide +kernel
theorem dX7_taken_37 : decode cX7_taken 37 = .ok (.if_icmp .lt 8, 3) := by decide +kernel
theorem dX7_taken_40 : decode cX7_taken 40 = .ok (.bipush (-11), 2) := by decide +kernel
theorem dX7_taken_42 : decode cX7_taken 42 = .ok (.goto 20, 3) := by decide +kernel
theorem dX7_taken_45 : decode cX7_taken 45 = .ok (.iload_n 2, 1) := by decide +kernel
theorem dX7_taken_46 : decode cX7_taken 46 = .ok (.bipush 6, 2) := by decide +kernel
theorem dX7_taken_48 : decode cX7_taken 48 = .ok (.if_icmp .ne 12, 3) := by decide +kernel
theorem dX7_taken_51 : decode cX7_taken 51 = .ok (.aload_n 0, 1) := by decide +kernel
theorem dX7_taken_52 : decode cX7_taken 52 = .ok (.getfield 28, 3) := by decide +kernel
theorem dX7_taken_55 : decode cX7_taken 55 = .ok (.iload_n 1, 1) := by decide +kernel
theorem dX7_taken_56 : decode cX7_taken 56 = .ok (.iaload, 1) := by decide +kernel
theorem dX7_taken_57 : decode cX7_taken 57 = .ok (.goto 5, 3) := by decide +kernel
theorem dX7_taken_60 : decode cX7_taken 60 = .ok (.bipush (-13), 2) := by decide +kernel
theorem dX7_taken_62 : decode cX7_taken 62 = .ok (.ireturn, 1) := by decide +kernel
theorem dX7_taken_63 : decode cX7_taken 63 = .ok (.iload_n 1, 1) := by decide +kernel
theorem dX7_taken_64 : decode cX7_taken 64 = .ok (.bipush 8, 2) := by decide +kernel
theorem dX7_taken_66 : decode cX7_taken 66 = .ok (.isub, 1) := by decide +kernel
theorem dX7_taken_67 : decode cX7_taken 67 = .ok (.aload_n 0, 1) := by decide +kernel
theorem dX7_taken_68 : decode cX7_taken 68 = .ok (.getfield 87, 3) := by decide +kernel
theorem dX7_taken_71 : decode cX7_taken 71 = .ok (.if_icmp .lt 8, 3) := by decide +kernel
theorem dX7_taken_74 : decode cX7_taken 74 = .ok (.bipush (-11), 2) := by decide +kernel
theorem dX7_taken_76 : decode cX7_taken 76 = .ok (.goto 34, 3) := by decide +kernel
theorem dX7_taken_79 : decode cX7_taken 79 = .ok (.iload_n 2, 1) := by decide +kernel
theorem dX7_taken_80 : decode cX7_taken 80 = .ok (.bipush 6, 2) := by decide +kernel
theorem dX7_taken_82 : decode cX7_taken 82 = .ok (.if_icmp .ge 26, 3) := by decide +kernel
theorem dX7_taken_85 : decode cX7_taken 85 = .ok (.aload_n 0, 1) := by decide +kernel
theorem dX7_taken_86 : decode cX7_taken 86 = .ok (.getfield 7, 3) := by decide +kernel
theorem dX7_taken_89 : decode cX7_taken 89 = .ok (.iload_n 1, 1) := by decide +kernel
theorem dX7_taken_90 : decode cX7_taken 90 = .ok (.bipush 8, 2) := by decide +kernel
theorem dX7_taken_92 : decode cX7_taken 92 = .ok (.isub, 1) := by decide +kernel
theorem dX7_taken_93 : decode cX7_taken 93 = .ok (.iaload, 1) := by decide +kernel
theorem dX7_taken_94 : decode cX7_taken 94 = .ok (.iload_n 2, 1) := by decide +kernel
theorem dX7_taken_95 : decode cX7_taken 95 = .ok (.invokestatic 286, 3) := by decide +kernel
theorem dX7_taken_98 : decode cX7_taken 98 = .ok (.ifCond .eq 10, 3) := by decide +kernel
theorem dX7_taken_101 : decode cX7_taken 101 = .ok (.iload_n 1, 1) := by decide +kernel
theorem dX7_taken_102 : decode cX7_taken 102 = .ok (.bipush 8, 2) := by decide +kernel
theorem dX7_taken_104 : decode cX7_taken 104 = .ok (.isub, 1) := by decide +kernel
theorem dX7_taken_105 : decode cX7_taken 105 = .ok (.goto 5, 3) := by decide +kernel
theorem dX7_taken_108 : decode cX7_taken 108 = .ok (.bipush (-13), 2) := by decide +kernel
theorem dX7_taken_110 : decode cX7_taken 110 = .ok (.ireturn, 1) := by decide +kernel
