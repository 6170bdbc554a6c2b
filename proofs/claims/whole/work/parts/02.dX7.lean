theorem dX7_init_0 : decode cX7_init 0 = .ok (.aload_n 0, 1) := by decide +kernel
theorem dX7_init_1 : decode cX7_init 1 = .ok (.invokespecial 1, 3) := by decide +kernel
theorem dX7_init_4 : decode cX7_init 4 = .ok (.aload_n 0, 1) := by decide +kernel
theorem dX7_init_5 : decode cX7_init 5 = .ok (.bipush 60, 2) := by decide +kernel
theorem dX7_init_7 : decode cX7_init 7 = .ok (.newarray .int, 2) := by decide +kernel
theorem dX7_init_9 : decode cX7_init 9 = .ok (.putfield 7, 3) := by decide +kernel
theorem dX7_init_12 : decode cX7_init 12 = .ok (.aload_n 0, 1) := by decide +kernel
theorem dX7_init_13 : decode cX7_init 13 = .ok (.bipush 60, 2) := by decide +kernel
theorem dX7_init_15 : decode cX7_init 15 = .ok (.newarray .int, 2) := by decide +kernel
theorem dX7_init_17 : decode cX7_init 17 = .ok (.putfield 13, 3) := by decide +kernel
theorem dX7_init_20 : decode cX7_init 20 = .ok (.aload_n 0, 1) := by decide +kernel
theorem dX7_init_21 : decode cX7_init 21 = .ok (.sipush 300, 3) := by decide +kernel
theorem dX7_init_24 : decode cX7_init 24 = .ok (.newarray .byte, 2) := by decide +kernel
theorem dX7_init_26 : decode cX7_init 26 = .ok (.putfield 16, 3) := by decide +kernel
theorem dX7_init_29 : decode cX7_init 29 = .ok (.aload_n 0, 1) := by decide +kernel
theorem dX7_init_30 : decode cX7_init 30 = .ok (.iconst (-1), 1) := by decide +kernel
theorem dX7_init_31 : decode cX7_init 31 = .ok (.putfield 20, 3) := by decide +kernel
theorem dX7_init_34 : decode cX7_init 34 = .ok (.aload_n 0, 1) := by decide +kernel
theorem dX7_init_35 : decode cX7_init 35 = .ok (.bipush 7, 2) := by decide +kernel
theorem dX7_init_37 : decode cX7_init 37 = .ok (.newarray .int, 2) := by decide +kernel
theorem dX7_init_39 : decode cX7_init 39 = .ok (.putfield 24, 3) := by decide +kernel
theorem dX7_init_42 : decode cX7_init 42 = .ok (.aload_n 0, 1) := by decide +kernel
theorem dX7_init_43 : decode cX7_init 43 = .ok (.bipush 49, 2) := by decide +kernel
theorem dX7_init_45 : decode cX7_init 45 = .ok (.newarray .long, 2) := by decide +kernel
theorem dX7_init_47 : decode cX7_init 47 = .ok (.putfield 27, 3) := by decide +kernel
theorem dX7_init_50 : decode cX7_init 50 = .ok (.aload_n 0, 1) := by decide +kernel
theorem dX7_init_51 : decode cX7_init 51 = .ok (.bipush 7, 2) := by decide +kernel
theorem dX7_init_53 : decode cX7_init 53 = .ok (.newarray .long, 2) := by decide +kernel
theorem dX7_init_55 : decode cX7_init 55 = .ok (.putfield 31, 3) := by decide +kernel
theorem dX7_init_58 : decode cX7_init 58 = .ok (.aload_n 0, 1) := by decide +kernel
theorem dX7_init_59 : decode cX7_init 59 = .ok (.bipush 56, 2) := by decide +kernel
theorem dX7_init_61 : decode cX7_init 61 = .ok (.newarray .long, 2) := by decide +kernel
theorem dX7_init_63 : decode cX7_init 63 = .ok (.putfield 34, 3) := by decide +kernel
theorem dX7_init_66 : decode cX7_init 66 = .ok (.aload_n 0, 1) := by decide +kernel
theorem dX7_init_67 : decode cX7_init 67 = .ok (.bipush 7, 2) := by decide +kernel
theorem dX7_init_69 : decode cX7_init 69 = .ok (.newarray .long, 2) := by decide +kernel
theorem dX7_init_71 : decode cX7_init 71 = .ok (.putfield 37, 3) := by decide +kernel
theorem dX7_init_74 : decode cX7_init 74 = .ok (.aload_n 0, 1) := by decide +kernel
theorem dX7_init_75 : decode cX7_init 75 = .ok (.bipush 7, 2) := by decide +kernel
theorem dX7_init_77 : decode cX7_init 77 = .ok (.newarray .int, 2) := by decide +kernel
theorem dX7_init_79 : decode cX7_init 79 = .ok (.putfield 40, 3) := by decide +kernel
theorem dX7_init_82 : decode cX7_init 82 = .ok (.aload_n 0, 1) := by decide +kernel
theorem dX7_init_83 : decode cX7_init 83 = .ok (.getfield 7, 3) := by decide +kernel
theorem dX7_init_86 : decode cX7_init 86 = .ok (.iconst 1, 1) := by decide +kernel
theorem dX7_init_87 : decode cX7_init 87 = .ok (.bipush 10, 2) := by decide +kernel
theorem dX7_init_89 : decode cX7_init 89 = .ok (.iastore, 1) := by decide +kernel
theorem dX7_init_90 : decode cX7_init 90 = .ok (.return_, 1) := by decide +kernel
theorem dX7_thrown_0 : decode cX7_thrown 0 = .ok (.aload_n 0, 1) := by decide +kernel
theorem dX7_thrown_1 : decode cX7_thrown 1 = .ok (.getfield 43, 3) := by decide +kernel
theorem dX7_thrown_4 : decode cX7_thrown 4 = .ok (.ireturn, 1) := by decide +kernel
theorem dX7_isIn_0 : decode cX7_isIn 0 = .ok (.iload_n 0, 1) := by decide +kernel
theorem dX7_isIn_1 : decode cX7_isIn 1 = .ok (.iload_n 1, 1) := by decide +kernel
theorem dX7_isIn_2 : decode cX7_isIn 2 = .ok (.if_icmp .lt 12, 3) := by decide +kernel
theorem dX7_isIn_5 : decode cX7_isIn 5 = .ok (.iload_n 0, 1) := by decide +kernel
theorem dX7_isIn_6 : decode cX7_isIn 6 = .ok (.iload_n 2, 1) := by decide +kernel
theorem dX7_isIn_7 : decode cX7_isIn 7 = .ok (.if_icmp .gt 7, 3) := by decide +kernel
theorem dX7_isIn_10 : decode cX7_isIn 10 = .ok (.iconst 1, 1) := by decide +kernel
theorem dX7_isIn_11 : decode cX7_isIn 11 = .ok (.goto 4, 3) := by decide +kernel
theorem dX7_isIn_14 : decode cX7_isIn 14 = .ok (.iconst 0, 1) := by decide +kernel
theorem dX7_isIn_15 : decode cX7_isIn 15 = .ok (.ireturn, 1) := by decide +kernel
theorem dX7_has_0 : decode cX7_has 0 = .ok (.iload_n 0, 1) := by decide +kernel
theorem dX7_has_1 : decode cX7_has 1 = .ok (.iload_n 1, 1) := by decide +kernel
theorem dX7_has_2 : decode cX7_has 2 = .ok (.ishr, 1) := by decide +kernel
theorem dX7_has_3 : decode cX7_has 3 = .ok (.iconst 1, 1) := by decide +kernel
theorem dX7_has_4 : decode cX7_has 4 = .ok (.iand, 1) := by decide +kernel
theorem dX7_has_5 : decode cX7_has 5 = .ok (.iconst 1, 1) := by decide +kernel
theorem dX7_has_6 : decode cX7_has 6 = .ok (.if_icmp .ne 7, 3) := by decide +kernel
theorem dX7_has_9 : decode cX7_has 9 = .ok (.iconst 1, 1) := by decide +kernel
theorem dX7_has_10 : decode cX7_has 10 = .ok (.goto 4, 3) := by decide +kernel
theorem dX7_has_13 : decode cX7_has 13 = .ok (.iconst 0, 1) := by decide +kernel
theorem dX7_has_14 : decode cX7_has 14 = .ok (.ireturn, 1) := by decide +kernel
theorem dX7_bits_0 : decode cX7_bits 0 = .ok (.iconst 0, 1) := by decide +kernel
theorem dX7_bits_1 : decode cX7_bits 1 = .ok (.istore_n 1, 1) := by decide +kernel
theorem dX7_bits_2 : decode cX7_bits 2 = .ok (.iload_n 0, 1) := by decide +kernel
theorem dX7_bits_3 : decode cX7_bits 3 = .ok (.istore_n 2, 1) := by decide +kernel
theorem dX7_bits_4 : decode cX7_bits 4 = .ok (.iload_n 2, 1) := by decide +kernel
theorem dX7_bits_5 : decode cX7_bits 5 = .ok (.ifCond .le 16, 3) := by decide +kernel
theorem dX7_bits_8 : decode cX7_bits 8 = .ok (.iload_n 1, 1) := by decide +kernel
theorem dX7_bits_9 : decode cX7_bits 9 = .ok (.iload_n 2, 1) := by decide +kernel
theorem dX7_bits_10 : decode cX7_bits 10 = .ok (.iconst 2, 1) := by decide +kernel
theorem dX7_bits_11 : decode cX7_bits 11 = .ok (.irem, 1) := by decide +kernel
theorem dX7_bits_12 : decode cX7_bits 12 = .ok (.iadd, 1) := by decide +kernel
theorem dX7_bits_13 : decode cX7_bits 13 = .ok (.istore_n 1, 1) := by decide +kernel
theorem dX7_bits_14 : decode cX7_bits 14 = .ok (.iload_n 2, 1) := by decide +kernel
theorem dX7_bits_15 : decode cX7_bits 15 = .ok (.iconst 2, 1) := by decide +kernel
theorem dX7_bits_16 : decode cX7_bits 16 = .ok (.idiv, 1) := by decide +kernel
theorem dX7_bits_17 : decode cX7_bits 17 = .ok (.istore_n 2, 1) := by decide +kernel
theorem dX7_bits_18 : decode cX7_bits 18 = .ok (.goto (-14), 3) := by decide +kernel
theorem dX7_bits_21 : decode cX7_bits 21 = .ok (.iload_n 1, 1) := by decide +kernel
theorem dX7_bits_22 : decode cX7_bits 22 = .ok (.ireturn, 1) := by decide +kernel
theorem dX7_size_0 : decode cX7_size 0 = .ok (.lload_n 0, 1) := by decide +kernel
theorem dX7_size_1 : decode cX7_size 1 = .ok (.lconst 0, 1) := by decide +kernel
theorem dX7_size_2 : decode cX7_size 2 = .ok (.lcmp, 1) := by decide +kernel
theorem dX7_size_3 : decode cX7_size 3 = .ok (.ifCond .ge 8, 3) := by decide +kernel
theorem dX7_size_6 : decode cX7_size 6 = .ok (.lload_n 0, 1) := by decide +kernel
theorem dX7_size_7 : decode cX7_size 7 = .ok (.lneg, 1) := by decide +kernel
theorem dX7_size_8 : decode cX7_size 8 = .ok (.goto 4, 3) := by decide +kernel
theorem dX7_size_11 : decode cX7_size 11 = .ok (.lload_n 0, 1) := by decide +kernel
theorem dX7_size_12 : decode cX7_size 12 = .ok (.lreturn, 1) := by decide +kernel
theorem dX7_n_0 : decode cX7_n 0 = .ok (.aload_n 0, 1) := by decide +kernel
theorem dX7_n_1 : decode cX7_n 1 = .ok (.getfield 7, 3) := by decide +kernel
theorem dX7_n_4 : decode cX7_n 4 = .ok (.iconst 0, 1) := by decide +kernel
theorem dX7_n_5 : decode cX7_n 5 = .ok (.iaload, 1) := by decide +kernel
theorem dX7_n_6 : decode cX7_n 6 = .ok (.ireturn, 1) := by decide +kernel
theorem dX7_races_0 : decode cX7_races 0 = .ok (.aload_n 0, 1) := by decide +kernel
theorem dX7_races_1 : decode cX7_races 1 = .ok (.getfield 7, 3) := by decide +kernel
theorem dX7_races_4 : decode cX7_races 4 = .ok (.iconst 2, 1) := by decide +kernel
theorem dX7_races_5 : decode cX7_races 5 = .ok (.iaload, 1) := by decide +kernel
theorem dX7_races_6 : decode cX7_races 6 = .ok (.ireturn, 1) := by decide +kernel
theorem dX7_of_0 : decode cX7_of 0 = .ok (.aload_n 0, 1) := by decide +kernel
theorem dX7_of_1 : decode cX7_of 1 = .ok (.getfield 7, 3) := by decide +kernel
theorem dX7_of_4 : decode cX7_of 4 = .ok (.iconst 3, 1) := by decide +kernel
theorem dX7_of_5 : decode cX7_of 5 = .ok (.iconst 4, 1) := by decide +kernel
theorem dX7_of_6 : decode cX7_of 6 = .ok (.iload_n 1, 1) := by decide +kernel
theorem dX7_of_7 : decode cX7_of 7 = .ok (.imul, 1) := by decide +kernel
theorem dX7_of_8 : decode cX7_of 8 = .ok (.iadd, 1) := by decide +kernel
theorem dX7_of_9 : decode cX7_of 9 = .ok (.iload_n 2, 1) := by decide +kernel
theorem dX7_of_10 : decode cX7_of 10 = .ok (.iadd, 1) := by decide +kernel
theorem dX7_of_11 : decode cX7_of 11 = .ok (.iaload, 1) := by decide +kernel
theorem dX7_of_12 : decode cX7_of 12 = .ok (.ireturn, 1) := by decide +kernel
theorem dX7_isRower_0 : decode cX7_isRower 0 = .ok (.iload_n 1, 1) := by decide +kernel
theorem dX7_isRower_1 : decode cX7_isRower 1 = .ok (.iconst 0, 1) := by decide +kernel
theorem dX7_isRower_2 : decode cX7_isRower 2 = .ok (.aload_n 0, 1) := by decide +kernel
theorem dX7_isRower_3 : decode cX7_isRower 3 = .ok (.invokevirtual 46, 3) := by decide +kernel
theorem dX7_isRower_6 : decode cX7_isRower 6 = .ok (.iconst 1, 1) := by decide +kernel
theorem dX7_isRower_7 : decode cX7_isRower 7 = .ok (.isub, 1) := by decide +kernel
theorem dX7_isRower_8 : decode cX7_isRower 8 = .ok (.invokestatic 50, 3) := by decide +kernel
theorem dX7_isRower_11 : decode cX7_isRower 11 = .ok (.ireturn, 1) := by decide +kernel
theorem dX7_areCrews_0 : decode cX7_areCrews 0 = .ok (.iload_n 1, 1) := by decide +kernel
theorem dX7_areCrews_1 : decode cX7_areCrews 1 = .ok (.ifCond .le 56, 3) := by decide +kernel
theorem dX7_areCrews_4 : decode cX7_areCrews 4 = .ok (.iload_n 2, 1) := by decide +kernel
theorem dX7_areCrews_5 : decode cX7_areCrews 5 = .ok (.ifCond .le 52, 3) := by decide +kernel
theorem dX7_areCrews_8 : decode cX7_areCrews 8 = .ok (.iload_n 1, 1) := by decide +kernel
theorem dX7_areCrews_9 : decode cX7_areCrews 9 = .ok (.iconst 1, 1) := by decide +kernel
theorem dX7_areCrews_10 : decode cX7_areCrews 10 = .ok (.aload_n 0, 1) := by decide +kernel
theorem dX7_areCrews_11 : decode cX7_areCrews 11 = .ok (.invokevirtual 46, 3) := by decide +kernel
theorem dX7_areCrews_14 : decode cX7_areCrews 14 = .ok (.ishl, 1) := by decide +kernel
theorem dX7_areCrews_15 : decode cX7_areCrews 15 = .ok (.if_icmp .ge 42, 3) := by decide +kernel
theorem dX7_areCrews_18 : decode cX7_areCrews 18 = .ok (.iload_n 2, 1) := by decide +kernel
theorem dX7_areCrews_19 : decode cX7_areCrews 19 = .ok (.iconst 1, 1) := by decide +kernel
theorem dX7_areCrews_20 : decode cX7_areCrews 20 = .ok (.aload_n 0, 1) := by decide +kernel
theorem dX7_areCrews_21 : decode cX7_areCrews 21 = .ok (.invokevirtual 46, 3) := by decide +kernel
theorem dX7_areCrews_24 : decode cX7_areCrews 24 = .ok (.ishl, 1) := by decide +kernel
theorem dX7_areCrews_25 : decode cX7_areCrews 25 = .ok (.if_icmp .ge 32, 3) := by decide +kernel
theorem dX7_areCrews_28 : decode cX7_areCrews 28 = .ok (.iload_n 1, 1) := by decide +kernel
theorem dX7_areCrews_29 : decode cX7_areCrews 29 = .ok (.iload_n 2, 1) := by decide +kernel
theorem dX7_areCrews_30 : decode cX7_areCrews 30 = .ok (.iand, 1) := by decide +kernel
theorem dX7_areCrews_31 : decode cX7_areCrews 31 = .ok (.ifCond .ne 26, 3) := by decide +kernel
theorem dX7_areCrews_34 : decode cX7_areCrews 34 = .ok (.iload_n 1, 1) := by decide +kernel
theorem dX7_areCrews_35 : decode cX7_areCrews 35 = .ok (.invokestatic 54, 3) := by decide +kernel
theorem dX7_areCrews_38 : decode cX7_areCrews 38 = .ok (.iload_n 2, 1) := by decide +kernel
theorem dX7_areCrews_39 : decode cX7_areCrews 39 = .ok (.invokestatic 54, 3) := by decide +kernel
theorem dX7_areCrews_42 : decode cX7_areCrews 42 = .ok (.if_icmp .ne 15, 3) := by decide +kernel
theorem dX7_areCrews_45 : decode cX7_areCrews 45 = .ok (.iload_n 1, 1) := by decide +kernel
theorem dX7_areCrews_46 : decode cX7_areCrews 46 = .ok (.invokestatic 54, 3) := by decide +kernel
theorem dX7_areCrews_49 : decode cX7_areCrews 49 = .ok (.iconst 3, 1) := by decide +kernel
theorem dX7_areCrews_50 : decode cX7_areCrews 50 = .ok (.if_icmp .gt 7, 3) := by decide +kernel
theorem dX7_areCrews_53 : decode cX7_areCrews 53 = .ok (.iconst 1, 1) := by decide +kernel
theorem dX7_areCrews_54 : decode cX7_areCrews 54 = .ok (.goto 4, 3) := by decide +kernel
theorem dX7_areCrews_57 : decode cX7_areCrews 57 = .ok (.iconst 0, 1) := by decide +kernel
theorem dX7_areCrews_58 : decode cX7_areCrews 58 = .ok (.ireturn, 1) := by decide +kernel
theorem dX7_more_0 : decode cX7_more 0 = .ok (.iconst 3, 1) := by decide +kernel
theorem dX7_more_1 : decode cX7_more 1 = .ok (.iconst 4, 1) := by decide +kernel
theorem dX7_more_2 : decode cX7_more 2 = .ok (.aload_n 0, 1) := by decide +kernel
theorem dX7_more_3 : decode cX7_more 3 = .ok (.invokevirtual 58, 3) := by decide +kernel
theorem dX7_more_6 : decode cX7_more 6 = .ok (.imul, 1) := by decide +kernel
theorem dX7_more_7 : decode cX7_more 7 = .ok (.iadd, 1) := by decide +kernel
theorem dX7_more_8 : decode cX7_more 8 = .ok (.istore 5, 2) := by decide +kernel
theorem dX7_more_10 : decode cX7_more 10 = .ok (.aload_n 0, 1) := by decide +kernel
theorem dX7_more_11 : decode cX7_more 11 = .ok (.getfield 7, 3) := by decide +kernel
theorem dX7_more_14 : decode cX7_more 14 = .ok (.iload 5, 2) := by decide +kernel
theorem dX7_more_16 : decode cX7_more 16 = .ok (.iload_n 1, 1) := by decide +kernel
theorem dX7_more_17 : decode cX7_more 17 = .ok (.iastore, 1) := by decide +kernel
theorem dX7_more_18 : decode cX7_more 18 = .ok (.aload_n 0, 1) := by decide +kernel
theorem dX7_more_19 : decode cX7_more 19 = .ok (.getfield 7, 3) := by decide +kernel
theorem dX7_more_22 : decode cX7_more 22 = .ok (.iload 5, 2) := by decide +kernel
theorem dX7_more_24 : decode cX7_more 24 = .ok (.iconst 1, 1) := by decide +kernel
theorem dX7_more_25 : decode cX7_more 25 = .ok (.iadd, 1) := by decide +kernel
theorem dX7_more_26 : decode cX7_more 26 = .ok (.iload_n 2, 1) := by decide +kernel
theorem dX7_more_27 : decode cX7_more 27 = .ok (.iastore, 1) := by decide +kernel
theorem dX7_more_28 : decode cX7_more 28 = .ok (.aload_n 0, 1) := by decide +kernel
theorem dX7_more_29 : decode cX7_more 29 = .ok (.getfield 7, 3) := by decide +kernel
theorem dX7_more_32 : decode cX7_more 32 = .ok (.iload 5, 2) := by decide +kernel
theorem dX7_more_34 : decode cX7_more 34 = .ok (.iconst 2, 1) := by decide +kernel
theorem dX7_more_35 : decode cX7_more 35 = .ok (.iadd, 1) := by decide +kernel
theorem dX7_more_36 : decode cX7_more 36 = .ok (.iload_n 3, 1) := by decide +kernel
theorem dX7_more_37 : decode cX7_more 37 = .ok (.iastore, 1) := by decide +kernel
theorem dX7_more_38 : decode cX7_more 38 = .ok (.aload_n 0, 1) := by decide +kernel
theorem dX7_more_39 : decode cX7_more 39 = .ok (.getfield 7, 3) := by decide +kernel
theorem dX7_more_42 : decode cX7_more 42 = .ok (.iload 5, 2) := by decide +kernel
theorem dX7_more_44 : decode cX7_more 44 = .ok (.iconst 3, 1) := by decide +kernel
theorem dX7_more_45 : decode cX7_more 45 = .ok (.iadd, 1) := by decide +kernel
theorem dX7_more_46 : decode cX7_more 46 = .ok (.iload 4, 2) := by decide +kernel
theorem dX7_more_48 : decode cX7_more 48 = .ok (.iastore, 1) := by decide +kernel
theorem dX7_more_49 : decode cX7_more 49 = .ok (.aload_n 0, 1) := by decide +kernel
theorem dX7_more_50 : decode cX7_more 50 = .ok (.getfield 7, 3) := by decide +kernel
theorem dX7_more_53 : decode cX7_more 53 = .ok (.iconst 2, 1) := by decide +kernel
theorem dX7_more_54 : decode cX7_more 54 = .ok (.dup2, 1) := by decide +kernel
theorem dX7_more_55 : decode cX7_more 55 = .ok (.iaload, 1) := by decide +kernel
theorem dX7_more_56 : decode cX7_more 56 = .ok (.iconst 1, 1) := by decide +kernel
theorem dX7_more_57 : decode cX7_more 57 = .ok (.iadd, 1) := by decide +kernel
theorem dX7_more_58 : decode cX7_more 58 = .ok (.iastore, 1) := by decide +kernel
theorem dX7_more_59 : decode cX7_more 59 = .ok (.return_, 1) := by decide +kernel
theorem dX7_crew_0 : decode cX7_crew 0 = .ok (.aload_n 0, 1) := by decide +kernel
theorem dX7_crew_1 : decode cX7_crew 1 = .ok (.iconst 0, 1) := by decide +kernel
theorem dX7_crew_2 : decode cX7_crew 2 = .ok (.putfield 43, 3) := by decide +kernel
theorem dX7_crew_5 : decode cX7_crew 5 = .ok (.iload_n 1, 1) := by decide +kernel
theorem dX7_crew_6 : decode cX7_crew 6 = .ok (.iconst 0, 1) := by decide +kernel
theorem dX7_crew_7 : decode cX7_crew 7 = .ok (.bipush 6, 2) := by decide +kernel
theorem dX7_crew_9 : decode cX7_crew 9 = .ok (.invokestatic 50, 3) := by decide +kernel
theorem dX7_crew_12 : decode cX7_crew 12 = .ok (.ifCond .ne 5, 3) := by decide +kernel
theorem dX7_crew_15 : decode cX7_crew 15 = .ok (.iconst 0, 1) := by decide +kernel
theorem dX7_crew_16 : decode cX7_crew 16 = .ok (.ireturn, 1) := by decide +kernel
theorem dX7_crew_17 : decode cX7_crew 17 = .ok (.aload_n 0, 1) := by decide +kernel
theorem dX7_crew_18 : decode cX7_crew 18 = .ok (.getfield 7, 3) := by decide +kernel
theorem dX7_crew_21 : decode cX7_crew 21 = .ok (.iconst 0, 1) := by decide +kernel
theorem dX7_crew_22 : decode cX7_crew 22 = .ok (.iload_n 1, 1) := by decide +kernel
theorem dX7_crew_23 : decode cX7_crew 23 = .ok (.iastore, 1) := by decide +kernel
theorem dX7_crew_24 : decode cX7_crew 24 = .ok (.aload_n 0, 1) := by decide +kernel
theorem dX7_crew_25 : decode cX7_crew 25 = .ok (.getfield 7, 3) := by decide +kernel
theorem dX7_crew_28 : decode cX7_crew 28 = .ok (.iconst 2, 1) := by decide +kernel
theorem dX7_crew_29 : decode cX7_crew 29 = .ok (.iconst 0, 1) := by decide +kernel
theorem dX7_crew_30 : decode cX7_crew 30 = .ok (.iastore, 1) := by decide +kernel
theorem dX7_crew_31 : decode cX7_crew 31 = .ok (.iconst 1, 1) := by decide +kernel
theorem dX7_crew_32 : decode cX7_crew 32 = .ok (.ireturn, 1) := by decide +kernel
theorem dX7_limit_0 : decode cX7_limit 0 = .ok (.aload_n 0, 1) := by decide +kernel
theorem dX7_limit_1 : decode cX7_limit 1 = .ok (.iconst 0, 1) := by decide +kernel
theorem dX7_limit_2 : decode cX7_limit 2 = .ok (.putfield 43, 3) := by decide +kernel
theorem dX7_limit_5 : decode cX7_limit 5 = .ok (.iload_n 1, 1) := by decide +kernel
theorem dX7_limit_6 : decode cX7_limit 6 = .ok (.iconst 1, 1) := by decide +kernel
theorem dX7_limit_7 : decode cX7_limit 7 = .ok (.bipush 99, 2) := by decide +kernel
theorem dX7_limit_9 : decode cX7_limit 9 = .ok (.invokestatic 50, 3) := by decide +kernel
theorem dX7_limit_12 : decode cX7_limit 12 = .ok (.ifCond .eq 13, 3) := by decide +kernel
theorem dX7_limit_15 : decode cX7_limit 15 = .ok (.iload_n 1, 1) := by decide +kernel
theorem dX7_limit_16 : decode cX7_limit 16 = .ok (.aload_n 0, 1) := by decide +kernel
theorem dX7_limit_17 : decode cX7_limit 17 = .ok (.getfield 7, 3) := by decide +kernel
theorem dX7_limit_20 : decode cX7_limit 20 = .ok (.iconst 1, 1) := by decide +kernel
theorem dX7_limit_21 : decode cX7_limit 21 = .ok (.iaload, 1) := by decide +kernel
theorem dX7_limit_22 : decode cX7_limit 22 = .ok (.if_icmp .ne 5, 3) := by decide +kernel
theorem dX7_limit_25 : decode cX7_limit 25 = .ok (.iconst 0, 1) := by decide +kernel
theorem dX7_limit_26 : decode cX7_limit 26 = .ok (.ireturn, 1) := by decide +kernel
theorem dX7_limit_27 : decode cX7_limit 27 = .ok (.aload_n 0, 1) := by decide +kernel
theorem dX7_limit_28 : decode cX7_limit 28 = .ok (.getfield 7, 3) := by decide +kernel
theorem dX7_limit_31 : decode cX7_limit 31 = .ok (.iconst 1, 1) := by decide +kernel
theorem dX7_limit_32 : decode cX7_limit 32 = .ok (.iload_n 1, 1) := by decide +kernel
theorem dX7_limit_33 : decode cX7_limit 33 = .ok (.iastore, 1) := by decide +kernel
theorem dX7_limit_34 : decode cX7_limit 34 = .ok (.iconst 1, 1) := by decide +kernel
theorem dX7_limit_35 : decode cX7_limit 35 = .ok (.ireturn, 1) := by decide +kernel
theorem dX7_race_0 : decode cX7_race 0 = .ok (.aload_n 0, 1) := by decide +kernel
theorem dX7_race_1 : decode cX7_race 1 = .ok (.iconst 0, 1) := by decide +kernel
theorem dX7_race_2 : decode cX7_race 2 = .ok (.putfield 43, 3) := by decide +kernel
theorem dX7_race_5 : decode cX7_race 5 = .ok (.aload_n 0, 1) := by decide +kernel
theorem dX7_race_6 : decode cX7_race 6 = .ok (.iload_n 1, 1) := by decide +kernel
theorem dX7_race_7 : decode cX7_race 7 = .ok (.iload_n 2, 1) := by decide +kernel
theorem dX7_race_8 : decode cX7_race 8 = .ok (.invokevirtual 61, 3) := by decide +kernel
theorem dX7_race_11 : decode cX7_race 11 = .ok (.ifCond .eq 26, 3) := by decide +kernel
theorem dX7_race_14 : decode cX7_race 14 = .ok (.iload_n 3, 1) := by decide +kernel
theorem dX7_race_15 : decode cX7_race 15 = .ok (.sipush (-999), 3) := by decide +kernel
theorem dX7_race_18 : decode cX7_race 18 = .ok (.sipush 999, 3) := by decide +kernel
theorem dX7_race_21 : decode cX7_race 21 = .ok (.invokestatic 50, 3) := by decide +kernel
theorem dX7_race_24 : decode cX7_race 24 = .ok (.ifCond .eq 13, 3) := by decide +kernel
theorem dX7_race_27 : decode cX7_race 27 = .ok (.iload 4, 2) := by decide +kernel
theorem dX7_race_29 : decode cX7_race 29 = .ok (.iconst (-1), 1) := by decide +kernel
theorem dX7_race_30 : decode cX7_race 30 = .ok (.iconst 1, 1) := by decide +kernel
theorem dX7_race_31 : decode cX7_race 31 = .ok (.invokestatic 50, 3) := by decide +kernel
theorem dX7_race_34 : decode cX7_race 34 = .ok (.ifCond .ne 5, 3) := by decide +kernel
theorem dX7_race_37 : decode cX7_race 37 = .ok (.iconst (-1), 1) := by decide +kernel
theorem dX7_race_38 : decode cX7_race 38 = .ok (.ireturn, 1) := by decide +kernel
theorem dX7_race_39 : decode cX7_race 39 = .ok (.aload_n 0, 1) := by decide +kernel
theorem dX7_race_40 : decode cX7_race 40 = .ok (.invokevirtual 58, 3) := by decide +kernel
theorem dX7_race_43 : decode cX7_race 43 = .ok (.bipush 12, 2) := by decide +kernel
theorem dX7_race_45 : decode cX7_race 45 = .ok (.if_icmp .ne 6, 3) := by decide +kernel
theorem dX7_race_48 : decode cX7_race 48 = .ok (.bipush (-2), 2) := by decide +kernel
theorem dX7_race_50 : decode cX7_race 50 = .ok (.ireturn, 1) := by decide +kernel
theorem dX7_race_51 : decode cX7_race 51 = .ok (.aload_n 0, 1) := by decide +kernel
theorem dX7_race_52 : decode cX7_race 52 = .ok (.iload_n 1, 1) := by decide +kernel
theorem dX7_race_53 : decode cX7_race 53 = .ok (.iload_n 2, 1) := by decide +kernel
theorem dX7_race_54 : decode cX7_race 54 = .ok (.iload_n 3, 1) := by decide +kernel
theorem dX7_race_55 : decode cX7_race 55 = .ok (.iload 4, 2) := by decide +kernel
theorem dX7_race_57 : decode cX7_race 57 = .ok (.invokevirtual 65, 3) := by decide +kernel
theorem dX7_race_60 : decode cX7_race 60 = .ok (.aload_n 0, 1) := by decide +kernel
theorem dX7_race_61 : decode cX7_race 61 = .ok (.invokevirtual 58, 3) := by decide +kernel
theorem dX7_race_64 : decode cX7_race 64 = .ok (.iconst 1, 1) := by decide +kernel
theorem dX7_race_65 : decode cX7_race 65 = .ok (.isub, 1) := by decide +kernel
theorem dX7_race_66 : decode cX7_race 66 = .ok (.ireturn, 1) := by decide +kernel
theorem dX7_goes_0 : decode cX7_goes 0 = .ok (.iconst 3, 1) := by decide +kernel
theorem dX7_goes_1 : decode cX7_goes 1 = .ok (.iconst 4, 1) := by decide +kernel
theorem dX7_goes_2 : decode cX7_goes 2 = .ok (.iload_n 1, 1) := by decide +kernel
theorem dX7_goes_3 : decode cX7_goes 3 = .ok (.imul, 1) := by decide +kernel
theorem dX7_goes_4 : decode cX7_goes 4 = .ok (.iadd, 1) := by decide +kernel
theorem dX7_goes_5 : decode cX7_goes 5 = .ok (.istore_n 2, 1) := by decide +kernel
theorem dX7_goes_6 : decode cX7_goes 6 = .ok (.iload_n 2, 1) := by decide +kernel
theorem dX7_goes_7 : decode cX7_goes 7 = .ok (.iconst 3, 1) := by decide +kernel
theorem dX7_goes_8 : decode cX7_goes 8 = .ok (.iconst 4, 1) := by decide +kernel
theorem dX7_goes_9 : decode cX7_goes 9 = .ok (.aload_n 0, 1) := by decide +kernel
theorem dX7_goes_10 : decode cX7_goes 10 = .ok (.invokevirtual 58, 3) := by decide +kernel
theorem dX7_goes_13 : decode cX7_goes 13 = .ok (.iconst 1, 1) := by decide +kernel
theorem dX7_goes_14 : decode cX7_goes 14 = .ok (.isub, 1) := by decide +kernel
theorem dX7_goes_15 : decode cX7_goes 15 = .ok (.imul, 1) := by decide +kernel
theorem dX7_goes_16 : decode cX7_goes 16 = .ok (.iadd, 1) := by decide +kernel
theorem dX7_goes_17 : decode cX7_goes 17 = .ok (.if_icmp .ge 23, 3) := by decide +kernel
theorem dX7_goes_20 : decode cX7_goes 20 = .ok (.aload_n 0, 1) := by decide +kernel
theorem dX7_goes_21 : decode cX7_goes 21 = .ok (.getfield 7, 3) := by decide +kernel
theorem dX7_goes_24 : decode cX7_goes 24 = .ok (.iload_n 2, 1) := by decide +kernel
theorem dX7_goes_25 : decode cX7_goes 25 = .ok (.aload_n 0, 1) := by decide +kernel
theorem dX7_goes_26 : decode cX7_goes 26 = .ok (.getfield 7, 3) := by decide +kernel
theorem dX7_goes_29 : decode cX7_goes 29 = .ok (.iload_n 2, 1) := by decide +kernel
theorem dX7_goes_30 : decode cX7_goes 30 = .ok (.iconst 4, 1) := by decide +kernel
theorem dX7_goes_31 : decode cX7_goes 31 = .ok (.iadd, 1) := by decide +kernel
theorem dX7_goes_32 : decode cX7_goes 32 = .ok (.iaload, 1) := by decide +kernel
theorem dX7_goes_33 : decode cX7_goes 33 = .ok (.iastore, 1) := by decide +kernel
theorem dX7_goes_34 : decode cX7_goes 34 = .ok (.iinc 2 1, 3) := by decide +kernel
theorem dX7_goes_37 : decode cX7_goes 37 = .ok (.goto (-31), 3) := by decide +kernel
theorem dX7_goes_40 : decode cX7_goes 40 = .ok (.aload_n 0, 1) := by decide +kernel
theorem dX7_goes_41 : decode cX7_goes 41 = .ok (.getfield 7, 3) := by decide +kernel
theorem dX7_goes_44 : decode cX7_goes 44 = .ok (.iconst 2, 1) := by decide +kernel
theorem dX7_goes_45 : decode cX7_goes 45 = .ok (.dup2, 1) := by decide +kernel
theorem dX7_goes_46 : decode cX7_goes 46 = .ok (.iaload, 1) := by decide +kernel
theorem dX7_goes_47 : decode cX7_goes 47 = .ok (.iconst 1, 1) := by decide +kernel
theorem dX7_goes_48 : decode cX7_goes 48 = .ok (.isub, 1) := by decide +kernel
theorem dX7_goes_49 : decode cX7_goes 49 = .ok (.iastore, 1) := by decide +kernel
theorem dX7_goes_50 : decode cX7_goes 50 = .ok (.return_, 1) := by decide +kernel
theorem dX7_strike_0 : decode cX7_strike 0 = .ok (.aload_n 0, 1) := by decide +kernel
theorem dX7_strike_1 : decode cX7_strike 1 = .ok (.iconst 0, 1) := by decide +kernel
theorem dX7_strike_2 : decode cX7_strike 2 = .ok (.putfield 43, 3) := by decide +kernel
theorem dX7_strike_5 : decode cX7_strike 5 = .ok (.iload_n 1, 1) := by decide +kernel
theorem dX7_strike_6 : decode cX7_strike 6 = .ok (.iconst 0, 1) := by decide +kernel
theorem dX7_strike_7 : decode cX7_strike 7 = .ok (.aload_n 0, 1) := by decide +kernel
theorem dX7_strike_8 : decode cX7_strike 8 = .ok (.invokevirtual 58, 3) := by decide +kernel
theorem dX7_strike_11 : decode cX7_strike 11 = .ok (.iconst 1, 1) := by decide +kernel
theorem dX7_strike_12 : decode cX7_strike 12 = .ok (.isub, 1) := by decide +kernel
theorem dX7_strike_13 : decode cX7_strike 13 = .ok (.invokestatic 50, 3) := by decide +kernel
theorem dX7_strike_16 : decode cX7_strike 16 = .ok (.ifCond .ne 5, 3) := by decide +kernel
theorem dX7_strike_19 : decode cX7_strike 19 = .ok (.iconst (-1), 1) := by decide +kernel
theorem dX7_strike_20 : decode cX7_strike 20 = .ok (.ireturn, 1) := by decide +kernel
theorem dX7_strike_21 : decode cX7_strike 21 = .ok (.aload_n 0, 1) := by decide +kernel
theorem dX7_strike_22 : decode cX7_strike 22 = .ok (.iload_n 1, 1) := by decide +kernel
theorem dX7_strike_23 : decode cX7_strike 23 = .ok (.invokevirtual 69, 3) := by decide +kernel
theorem dX7_strike_26 : decode cX7_strike 26 = .ok (.aload_n 0, 1) := by decide +kernel
theorem dX7_strike_27 : decode cX7_strike 27 = .ok (.invokevirtual 58, 3) := by decide +kernel
theorem dX7_strike_30 : decode cX7_strike 30 = .ok (.ireturn, 1) := by decide +kernel
theorem dX7_raced_0 : decode cX7_raced 0 = .ok (.aload_n 0, 1) := by decide +kernel
theorem dX7_raced_1 : decode cX7_raced 1 = .ok (.iload_n 1, 1) := by decide +kernel
theorem dX7_raced_2 : decode cX7_raced 2 = .ok (.iconst 0, 1) := by decide +kernel
theorem dX7_raced_3 : decode cX7_raced 3 = .ok (.aload_n 0, 1) := by decide +kernel
theorem dX7_raced_4 : decode cX7_raced 4 = .ok (.invokevirtual 58, 3) := by decide +kernel
theorem dX7_raced_7 : decode cX7_raced 7 = .ok (.iconst 1, 1) := by decide +kernel
theorem dX7_raced_8 : decode cX7_raced 8 = .ok (.isub, 1) := by decide +kernel
theorem dX7_raced_9 : decode cX7_raced 9 = .ok (.invokestatic 50, 3) := by decide +kernel
theorem dX7_raced_12 : decode cX7_raced 12 = .ok (.ifCond .eq 16, 3) := by decide +kernel
theorem dX7_raced_15 : decode cX7_raced 15 = .ok (.iload_n 2, 1) := by decide +kernel
theorem dX7_raced_16 : decode cX7_raced 16 = .ok (.iconst 0, 1) := by decide +kernel
theorem dX7_raced_17 : decode cX7_raced 17 = .ok (.iconst 3, 1) := by decide +kernel
theorem dX7_raced_18 : decode cX7_raced 18 = .ok (.invokestatic 50, 3) := by decide +kernel
theorem dX7_raced_21 : decode cX7_raced 21 = .ok (.ifCond .eq 7, 3) := by decide +kernel
theorem dX7_raced_24 : decode cX7_raced 24 = .ok (.iconst 0, 1) := by decide +kernel
theorem dX7_raced_25 : decode cX7_raced 25 = .ok (.goto 4, 3) := by decide +kernel
theorem dX7_raced_28 : decode cX7_raced 28 = .ok (.iconst 1, 1) := by decide +kernel
theorem dX7_raced_29 : decode cX7_raced 29 = .ok (.putfield 43, 3) := by decide +kernel
theorem dX7_raced_32 : decode cX7_raced 32 = .ok (.aload_n 0, 1) := by decide +kernel
theorem dX7_raced_33 : decode cX7_raced 33 = .ok (.getfield 43, 3) := by decide +kernel
theorem dX7_raced_36 : decode cX7_raced 36 = .ok (.iconst 1, 1) := by decide +kernel
theorem dX7_raced_37 : decode cX7_raced 37 = .ok (.if_icmp .ne 7, 3) := by decide +kernel
theorem dX7_raced_40 : decode cX7_raced 40 = .ok (.iconst 0, 1) := by decide +kernel
theorem dX7_raced_41 : decode cX7_raced 41 = .ok (.goto 9, 3) := by decide +kernel
theorem dX7_raced_44 : decode cX7_raced 44 = .ok (.aload_n 0, 1) := by decide +kernel
theorem dX7_raced_45 : decode cX7_raced 45 = .ok (.iload_n 1, 1) := by decide +kernel
theorem dX7_raced_46 : decode cX7_raced 46 = .ok (.iload_n 2, 1) := by decide +kernel
theorem dX7_raced_47 : decode cX7_raced 47 = .ok (.invokevirtual 73, 3) := by decide +kernel
theorem dX7_raced_50 : decode cX7_raced 50 = .ok (.ireturn, 1) := by decide +kernel
theorem dX7_put_0 : decode cX7_put 0 = .ok (.bipush 24, 2) := by decide +kernel
theorem dX7_put_2 : decode cX7_put 2 = .ok (.istore_n 2, 1) := by decide +kernel
theorem dX7_put_3 : decode cX7_put 3 = .ok (.iload_n 2, 1) := by decide +kernel
theorem dX7_put_4 : decode cX7_put 4 = .ok (.ifCond .lt 32, 3) := by decide +kernel
theorem dX7_put_7 : decode cX7_put 7 = .ok (.aload_n 0, 1) := by decide +kernel
theorem dX7_put_8 : decode cX7_put 8 = .ok (.getfield 16, 3) := by decide +kernel
theorem dX7_put_11 : decode cX7_put 11 = .ok (.aload_n 0, 1) := by decide +kernel
theorem dX7_put_12 : decode cX7_put 12 = .ok (.getfield 77, 3) := by decide +kernel
theorem dX7_put_15 : decode cX7_put 15 = .ok (.iload_n 1, 1) := by decide +kernel
theorem dX7_put_16 : decode cX7_put 16 = .ok (.iload_n 2, 1) := by decide +kernel
theorem dX7_put_17 : decode cX7_put 17 = .ok (.ishr, 1) := by decide +kernel
theorem dX7_put_18 : decode cX7_put 18 = .ok (.i2b, 1) := by decide +kernel
theorem dX7_put_19 : decode cX7_put 19 = .ok (.bastore, 1) := by decide +kernel
theorem dX7_put_20 : decode cX7_put 20 = .ok (.aload_n 0, 1) := by decide +kernel
theorem dX7_put_21 : decode cX7_put 21 = .ok (.dup, 1) := by decide +kernel
theorem dX7_put_22 : decode cX7_put 22 = .ok (.getfield 77, 3) := by decide +kernel
theorem dX7_put_25 : decode cX7_put 25 = .ok (.iconst 1, 1) := by decide +kernel
theorem dX7_put_26 : decode cX7_put 26 = .ok (.iadd, 1) := by decide +kernel
theorem dX7_put_27 : decode cX7_put 27 = .ok (.putfield 77, 3) := by decide +kernel
theorem dX7_put_30 : decode cX7_put 30 = .ok (.iinc 2 (-8), 3) := by decide +kernel
theorem dX7_put_33 : decode cX7_put 33 = .ok (.goto (-30), 3) := by decide +kernel
theorem dX7_put_36 : decode cX7_put 36 = .ok (.return_, 1) := by decide +kernel
theorem dX7_feed_0 : decode cX7_feed 0 = .ok (.aload_n 0, 1) := by decide +kernel
theorem dX7_feed_1 : decode cX7_feed 1 = .ok (.iconst 0, 1) := by decide +kernel
theorem dX7_feed_2 : decode cX7_feed 2 = .ok (.putfield 43, 3) := by decide +kernel
theorem dX7_feed_5 : decode cX7_feed 5 = .ok (.aload_n 0, 1) := by decide +kernel
theorem dX7_feed_6 : decode cX7_feed 6 = .ok (.getfield 77, 3) := by decide +kernel
theorem dX7_feed_9 : decode cX7_feed 9 = .ok (.bipush 20, 2) := by decide +kernel
theorem dX7_feed_11 : decode cX7_feed 11 = .ok (.iadd, 1) := by decide +kernel
theorem dX7_feed_12 : decode cX7_feed 12 = .ok (.sipush 300, 3) := by decide +kernel
theorem dX7_feed_15 : decode cX7_feed 15 = .ok (.if_icmp .le 5, 3) := by decide +kernel
theorem dX7_feed_18 : decode cX7_feed 18 = .ok (.iconst (-1), 1) := by decide +kernel
theorem dX7_feed_19 : decode cX7_feed 19 = .ok (.ireturn, 1) := by decide +kernel
theorem dX7_feed_20 : decode cX7_feed 20 = .ok (.aload_n 0, 1) := by decide +kernel
theorem dX7_feed_21 : decode cX7_feed 21 = .ok (.iload_n 1, 1) := by decide +kernel
theorem dX7_feed_22 : decode cX7_feed 22 = .ok (.invokevirtual 80, 3) := by decide +kernel
theorem dX7_feed_25 : decode cX7_feed 25 = .ok (.aload_n 0, 1) := by decide +kernel
theorem dX7_feed_26 : decode cX7_feed 26 = .ok (.iload_n 2, 1) := by decide +kernel
theorem dX7_feed_27 : decode cX7_feed 27 = .ok (.invokevirtual 80, 3) := by decide +kernel
theorem dX7_feed_30 : decode cX7_feed 30 = .ok (.aload_n 0, 1) := by decide +kernel
theorem dX7_feed_31 : decode cX7_feed 31 = .ok (.iload_n 3, 1) := by decide +kernel
theorem dX7_feed_32 : decode cX7_feed 32 = .ok (.invokevirtual 80, 3) := by decide +kernel
theorem dX7_feed_35 : decode cX7_feed 35 = .ok (.aload_n 0, 1) := by decide +kernel
theorem dX7_feed_36 : decode cX7_feed 36 = .ok (.iload 4, 2) := by decide +kernel
theorem dX7_feed_38 : decode cX7_feed 38 = .ok (.invokevirtual 80, 3) := by decide +kernel
theorem dX7_feed_41 : decode cX7_feed 41 = .ok (.aload_n 0, 1) := by decide +kernel
theorem dX7_feed_42 : decode cX7_feed 42 = .ok (.iload 5, 2) := by decide +kernel
theorem dX7_feed_44 : decode cX7_feed 44 = .ok (.invokevirtual 80, 3) := by decide +kernel
theorem dX7_feed_47 : decode cX7_feed 47 = .ok (.aload_n 0, 1) := by decide +kernel
theorem dX7_feed_48 : decode cX7_feed 48 = .ok (.getfield 77, 3) := by decide +kernel
theorem dX7_feed_51 : decode cX7_feed 51 = .ok (.ireturn, 1) := by decide +kernel
theorem dX7_end_0 : decode cX7_end 0 = .ok (.aload_n 0, 1) := by decide +kernel
theorem dX7_end_1 : decode cX7_end 1 = .ok (.iconst 0, 1) := by decide +kernel
theorem dX7_end_2 : decode cX7_end 2 = .ok (.putfield 43, 3) := by decide +kernel
theorem dX7_end_5 : decode cX7_end 5 = .ok (.iload_n 1, 1) := by decide +kernel
theorem dX7_end_6 : decode cX7_end 6 = .ok (.iconst 0, 1) := by decide +kernel
theorem dX7_end_7 : decode cX7_end 7 = .ok (.aload_n 0, 1) := by decide +kernel
theorem dX7_end_8 : decode cX7_end 8 = .ok (.getfield 77, 3) := by decide +kernel
theorem dX7_end_11 : decode cX7_end 11 = .ok (.invokestatic 50, 3) := by decide +kernel
theorem dX7_end_14 : decode cX7_end 14 = .ok (.ifCond .ne 5, 3) := by decide +kernel
theorem dX7_end_17 : decode cX7_end 17 = .ok (.iconst 0, 1) := by decide +kernel
theorem dX7_end_18 : decode cX7_end 18 = .ok (.ireturn, 1) := by decide +kernel
theorem dX7_end_19 : decode cX7_end 19 = .ok (.aload_n 0, 1) := by decide +kernel
theorem dX7_end_20 : decode cX7_end 20 = .ok (.iload_n 1, 1) := by decide +kernel
theorem dX7_end_21 : decode cX7_end 21 = .ok (.putfield 77, 3) := by decide +kernel
theorem dX7_end_24 : decode cX7_end 24 = .ok (.iconst 1, 1) := by decide +kernel
theorem dX7_end_25 : decode cX7_end 25 = .ok (.ireturn, 1) := by decide +kernel
theorem dX7_here_0 : decode cX7_here 0 = .ok (.aload_n 0, 1) := by decide +kernel
theorem dX7_here_1 : decode cX7_here 1 = .ok (.getfield 83, 3) := by decide +kernel
theorem dX7_here_4 : decode cX7_here 4 = .ok (.aload_n 0, 1) := by decide +kernel
theorem dX7_here_5 : decode cX7_here 5 = .ok (.getfield 86, 3) := by decide +kernel
theorem dX7_here_8 : decode cX7_here 8 = .ok (.if_icmp .ge 44, 3) := by decide +kernel
theorem dX7_here_11 : decode cX7_here 11 = .ok (.aload_n 0, 1) := by decide +kernel
theorem dX7_here_12 : decode cX7_here 12 = .ok (.getfield 16, 3) := by decide +kernel
theorem dX7_here_15 : decode cX7_here 15 = .ok (.aload_n 0, 1) := by decide +kernel
theorem dX7_here_16 : decode cX7_here 16 = .ok (.getfield 83, 3) := by decide +kernel
theorem dX7_here_19 : decode cX7_here 19 = .ok (.baload, 1) := by decide +kernel
theorem dX7_here_20 : decode cX7_here 20 = .ok (.bipush 32, 2) := by decide +kernel
theorem dX7_here_22 : decode cX7_here 22 = .ok (.if_icmp .eq 17, 3) := by decide +kernel
theorem dX7_here_25 : decode cX7_here 25 = .ok (.aload_n 0, 1) := by decide +kernel
theorem dX7_here_26 : decode cX7_here 26 = .ok (.getfield 16, 3) := by decide +kernel
theorem dX7_here_29 : decode cX7_here 29 = .ok (.aload_n 0, 1) := by decide +kernel
theorem dX7_here_30 : decode cX7_here 30 = .ok (.getfield 83, 3) := by decide +kernel
theorem dX7_here_33 : decode cX7_here 33 = .ok (.baload, 1) := by decide +kernel
theorem dX7_here_34 : decode cX7_here 34 = .ok (.bipush 10, 2) := by decide +kernel
theorem dX7_here_36 : decode cX7_here 36 = .ok (.if_icmp .ne 16, 3) := by decide +kernel
theorem dX7_here_39 : decode cX7_here 39 = .ok (.aload_n 0, 1) := by decide +kernel
theorem dX7_here_40 : decode cX7_here 40 = .ok (.dup, 1) := by decide +kernel
theorem dX7_here_41 : decode cX7_here 41 = .ok (.getfield 83, 3) := by decide +kernel
theorem dX7_here_44 : decode cX7_here 44 = .ok (.iconst 1, 1) := by decide +kernel
theorem dX7_here_45 : decode cX7_here 45 = .ok (.iadd, 1) := by decide +kernel
theorem dX7_here_46 : decode cX7_here 46 = .ok (.putfield 83, 3) := by decide +kernel
theorem dX7_here_49 : decode cX7_here 49 = .ok (.goto (-49), 3) := by decide +kernel
theorem dX7_here_52 : decode cX7_here 52 = .ok (.aload_n 0, 1) := by decide +kernel
theorem dX7_here_53 : decode cX7_here 53 = .ok (.getfield 83, 3) := by decide +kernel
theorem dX7_here_56 : decode cX7_here 56 = .ok (.aload_n 0, 1) := by decide +kernel
theorem dX7_here_57 : decode cX7_here 57 = .ok (.getfield 86, 3) := by decide +kernel
theorem dX7_here_60 : decode cX7_here 60 = .ok (.if_icmp .ge 19, 3) := by decide +kernel
theorem dX7_here_63 : decode cX7_here 63 = .ok (.aload_n 0, 1) := by decide +kernel
theorem dX7_here_64 : decode cX7_here 64 = .ok (.getfield 16, 3) := by decide +kernel
theorem dX7_here_67 : decode cX7_here 67 = .ok (.aload_n 0, 1) := by decide +kernel
theorem dX7_here_68 : decode cX7_here 68 = .ok (.getfield 83, 3) := by decide +kernel
theorem dX7_here_71 : decode cX7_here 71 = .ok (.baload, 1) := by decide +kernel
theorem dX7_here_72 : decode cX7_here 72 = .ok (.sipush 255, 3) := by decide +kernel
theorem dX7_here_75 : decode cX7_here 75 = .ok (.iand, 1) := by decide +kernel
theorem dX7_here_76 : decode cX7_here 76 = .ok (.goto 4, 3) := by decide +kernel
theorem dX7_here_79 : decode cX7_here 79 = .ok (.iconst (-1), 1) := by decide +kernel
theorem dX7_here_80 : decode cX7_here 80 = .ok (.ireturn, 1) := by decide +kernel
theorem dX7_fails_0 : decode cX7_fails 0 = .ok (.aload_n 0, 1) := by decide +kernel
theorem dX7_fails_1 : decode cX7_fails 1 = .ok (.getfield 89, 3) := by decide +kernel
theorem dX7_fails_4 : decode cX7_fails 4 = .ok (.ifCond .ne 13, 3) := by decide +kernel
theorem dX7_fails_7 : decode cX7_fails 7 = .ok (.aload_n 0, 1) := by decide +kernel
theorem dX7_fails_8 : decode cX7_fails 8 = .ok (.iload_n 1, 1) := by decide +kernel
theorem dX7_fails_9 : decode cX7_fails 9 = .ok (.bipush 8, 2) := by decide +kernel
theorem dX7_fails_11 : decode cX7_fails 11 = .ok (.iload_n 2, 1) := by decide +kernel
theorem dX7_fails_12 : decode cX7_fails 12 = .ok (.imul, 1) := by decide +kernel
theorem dX7_fails_13 : decode cX7_fails 13 = .ok (.iadd, 1) := by decide +kernel
theorem dX7_fails_14 : decode cX7_fails 14 = .ok (.putfield 89, 3) := by decide +kernel
theorem dX7_fails_17 : decode cX7_fails 17 = .ok (.return_, 1) := by decide +kernel
theorem dX7_isDigitAt_0 : decode cX7_isDigitAt 0 = .ok (.iload_n 1, 1) := by decide +kernel
theorem dX7_isDigitAt_1 : decode cX7_isDigitAt 1 = .ok (.aload_n 0, 1) := by decide +kernel
theorem dX7_isDigitAt_2 : decode cX7_isDigitAt 2 = .ok (.getfield 86, 3) := by decide +kernel
theorem dX7_isDigitAt_5 : decode cX7_isDigitAt 5 = .ok (.if_icmp .ge 23, 3) := by decide +kernel
theorem dX7_isDigitAt_8 : decode cX7_isDigitAt 8 = .ok (.aload_n 0, 1) := by decide +kernel
theorem dX7_isDigitAt_9 : decode cX7_isDigitAt 9 = .ok (.getfield 16, 3) := by decide +kernel
theorem dX7_isDigitAt_12 : decode cX7_isDigitAt 12 = .ok (.iload_n 1, 1) := by decide +kernel
theorem dX7_isDigitAt_13 : decode cX7_isDigitAt 13 = .ok (.baload, 1) := by decide +kernel
theorem dX7_isDigitAt_14 : decode cX7_isDigitAt 14 = .ok (.bipush 48, 2) := by decide +kernel
theorem dX7_isDigitAt_16 : decode cX7_isDigitAt 16 = .ok (.bipush 57, 2) := by decide +kernel
theorem dX7_isDigitAt_18 : decode cX7_isDigitAt 18 = .ok (.invokestatic 50, 3) := by decide +kernel
theorem dX7_isDigitAt_21 : decode cX7_isDigitAt 21 = .ok (.ifCond .eq 7, 3) := by decide +kernel
theorem dX7_isDigitAt_24 : decode cX7_isDigitAt 24 = .ok (.iconst 1, 1) := by decide +kernel
theorem dX7_isDigitAt_25 : decode cX7_isDigitAt 25 = .ok (.goto 4, 3) := by decide +kernel
theorem dX7_isDigitAt_28 : decode cX7_isDigitAt 28 = .ok (.iconst 0, 1) := by decide +kernel
theorem dX7_isDigitAt_29 : decode cX7_isDigitAt 29 = .ok (.ireturn, 1) := by decide +kernel
theorem dX7_isNumber_0 : decode cX7_isNumber 0 = .ok (.aload_n 0, 1) := by decide +kernel
theorem dX7_isNumber_1 : decode cX7_isNumber 1 = .ok (.invokevirtual 92, 3) := by decide +kernel
theorem dX7_isNumber_4 : decode cX7_isNumber 4 = .ok (.istore_n 1, 1) := by decide +kernel
theorem dX7_isNumber_5 : decode cX7_isNumber 5 = .ok (.aload_n 0, 1) := by decide +kernel
theorem dX7_isNumber_6 : decode cX7_isNumber 6 = .ok (.iload_n 1, 1) := by decide +kernel
theorem dX7_isNumber_7 : decode cX7_isNumber 7 = .ok (.bipush 45, 2) := by decide +kernel
theorem dX7_isNumber_9 : decode cX7_isNumber 9 = .ok (.if_icmp .ne 12, 3) := by decide +kernel
theorem dX7_isNumber_12 : decode cX7_isNumber 12 = .ok (.aload_n 0, 1) := by decide +kernel
theorem dX7_isNumber_13 : decode cX7_isNumber 13 = .ok (.getfield 83, 3) := by decide +kernel
theorem dX7_isNumber_16 : decode cX7_isNumber 16 = .ok (.iconst 1, 1) := by decide +kernel
theorem dX7_isNumber_17 : decode cX7_isNumber 17 = .ok (.iadd, 1) := by decide +kernel
theorem dX7_isNumber_18 : decode cX7_isNumber 18 = .ok (.goto 7, 3) := by decide +kernel
theorem dX7_isNumber_21 : decode cX7_isNumber 21 = .ok (.aload_n 0, 1) := by decide +kernel
theorem dX7_isNumber_22 : decode cX7_isNumber 22 = .ok (.getfield 83, 3) := by decide +kernel
theorem dX7_isNumber_25 : decode cX7_isNumber 25 = .ok (.invokevirtual 95, 3) := by decide +kernel
theorem dX7_isNumber_28 : decode cX7_isNumber 28 = .ok (.ireturn, 1) := by decide +kernel
theorem dX7_number_0 : decode cX7_number 0 = .ok (.aload_n 0, 1) := by decide +kernel
theorem dX7_number_1 : decode cX7_number 1 = .ok (.getfield 89, 3) := by decide +kernel
theorem dX7_number_4 : decode cX7_number 4 = .ok (.ifCond .eq 5, 3) := by decide +kernel
theorem dX7_number_7 : decode cX7_number 7 = .ok (.iconst 0, 1) := by decide +kernel
theorem dX7_number_8 : decode cX7_number 8 = .ok (.ireturn, 1) := by decide +kernel
theorem dX7_number_9 : decode cX7_number 9 = .ok (.aload_n 0, 1) := by decide +kernel
theorem dX7_number_10 : decode cX7_number 10 = .ok (.invokevirtual 99, 3) := by decide +kernel
theorem dX7_number_13 : decode cX7_number 13 = .ok (.istore_n 1, 1) := by decide +kernel
theorem dX7_number_14 : decode cX7_number 14 = .ok (.aload_n 0, 1) := by decide +kernel
theorem dX7_number_15 : decode cX7_number 15 = .ok (.aload_n 0, 1) := by decide +kernel
theorem dX7_number_16 : decode cX7_number 16 = .ok (.getfield 83, 3) := by decide +kernel
theorem dX7_number_19 : decode cX7_number 19 = .ok (.putfield 103, 3) := by decide +kernel
theorem dX7_number_22 : decode cX7_number 22 = .ok (.iload_n 1, 1) := by decide +kernel
theorem dX7_number_23 : decode cX7_number 23 = .ok (.ifCond .ne 14, 3) := by decide +kernel
theorem dX7_number_26 : decode cX7_number 26 = .ok (.aload_n 0, 1) := by decide +kernel
theorem dX7_number_27 : decode cX7_number 27 = .ok (.iconst 1, 1) := by decide +kernel
theorem dX7_number_28 : decode cX7_number 28 = .ok (.aload_n 0, 1) := by decide +kernel
theorem dX7_number_29 : decode cX7_number 29 = .ok (.getfield 103, 3) := by decide +kernel
theorem dX7_number_32 : decode cX7_number 32 = .ok (.invokevirtual 106, 3) := by decide +kernel
theorem dX7_number_35 : decode cX7_number 35 = .ok (.iconst 0, 1) := by decide +kernel
theorem dX7_number_36 : decode cX7_number 36 = .ok (.ireturn, 1) := by decide +kernel
theorem dX7_number_37 : decode cX7_number 37 = .ok (.aload_n 0, 1) := by decide +kernel
theorem dX7_number_38 : decode cX7_number 38 = .ok (.getfield 16, 3) := by decide +kernel
theorem dX7_number_41 : decode cX7_number 41 = .ok (.aload_n 0, 1) := by decide +kernel
theorem dX7_number_42 : decode cX7_number 42 = .ok (.getfield 83, 3) := by decide +kernel
theorem dX7_number_45 : decode cX7_number 45 = .ok (.baload, 1) := by decide +kernel
theorem dX7_number_46 : decode cX7_number 46 = .ok (.bipush 45, 2) := by decide +kernel
theorem dX7_number_48 : decode cX7_number 48 = .ok (.if_icmp .ne 7, 3) := by decide +kernel
theorem dX7_number_51 : decode cX7_number 51 = .ok (.iconst 1, 1) := by decide +kernel
theorem dX7_number_52 : decode cX7_number 52 = .ok (.goto 4, 3) := by decide +kernel
theorem dX7_number_55 : decode cX7_number 55 = .ok (.iconst 0, 1) := by decide +kernel
theorem dX7_number_56 : decode cX7_number 56 = .ok (.istore_n 2, 1) := by decide +kernel
theorem dX7_number_57 : decode cX7_number 57 = .ok (.aload_n 0, 1) := by decide +kernel
theorem dX7_number_58 : decode cX7_number 58 = .ok (.dup, 1) := by decide +kernel
theorem dX7_number_59 : decode cX7_number 59 = .ok (.getfield 83, 3) := by decide +kernel
theorem dX7_number_62 : decode cX7_number 62 = .ok (.iload_n 2, 1) := by decide +kernel
theorem dX7_number_63 : decode cX7_number 63 = .ok (.ifCond .eq 7, 3) := by decide +kernel
theorem dX7_number_66 : decode cX7_number 66 = .ok (.iconst 1, 1) := by decide +kernel
theorem dX7_number_67 : decode cX7_number 67 = .ok (.goto 4, 3) := by decide +kernel
theorem dX7_number_70 : decode cX7_number 70 = .ok (.iconst 0, 1) := by decide +kernel
theorem dX7_number_71 : decode cX7_number 71 = .ok (.iadd, 1) := by decide +kernel
theorem dX7_number_72 : decode cX7_number 72 = .ok (.putfield 83, 3) := by decide +kernel
theorem dX7_number_75 : decode cX7_number 75 = .ok (.aload_n 0, 1) := by decide +kernel
theorem dX7_number_76 : decode cX7_number 76 = .ok (.getfield 83, 3) := by decide +kernel
theorem dX7_number_79 : decode cX7_number 79 = .ok (.istore_n 3, 1) := by decide +kernel
theorem dX7_number_80 : decode cX7_number 80 = .ok (.iconst 0, 1) := by decide +kernel
theorem dX7_number_81 : decode cX7_number 81 = .ok (.istore 4, 2) := by decide +kernel
theorem dX7_number_83 : decode cX7_number 83 = .ok (.aload_n 0, 1) := by decide +kernel
theorem dX7_number_84 : decode cX7_number 84 = .ok (.aload_n 0, 1) := by decide +kernel
theorem dX7_number_85 : decode cX7_number 85 = .ok (.getfield 83, 3) := by decide +kernel
theorem dX7_number_88 : decode cX7_number 88 = .ok (.invokevirtual 95, 3) := by decide +kernel
theorem dX7_number_91 : decode cX7_number 91 = .ok (.ifCond .eq 51, 3) := by decide +kernel
theorem dX7_number_94 : decode cX7_number 94 = .ok (.aload_n 0, 1) := by decide +kernel
theorem dX7_number_95 : decode cX7_number 95 = .ok (.getfield 83, 3) := by decide +kernel
theorem dX7_number_98 : decode cX7_number 98 = .ok (.iload_n 3, 1) := by decide +kernel
theorem dX7_number_99 : decode cX7_number 99 = .ok (.isub, 1) := by decide +kernel
theorem dX7_number_100 : decode cX7_number 100 = .ok (.iconst 3, 1) := by decide +kernel
theorem dX7_number_101 : decode cX7_number 101 = .ok (.if_icmp .ge 24, 3) := by decide +kernel
theorem dX7_number_104 : decode cX7_number 104 = .ok (.bipush 10, 2) := by decide +kernel
theorem dX7_number_106 : decode cX7_number 106 = .ok (.iload 4, 2) := by decide +kernel
theorem dX7_number_108 : decode cX7_number 108 = .ok (.imul, 1) := by decide +kernel
theorem dX7_number_109 : decode cX7_number 109 = .ok (.aload_n 0, 1) := by decide +kernel
theorem dX7_number_110 : decode cX7_number 110 = .ok (.getfield 16, 3) := by decide +kernel
theorem dX7_number_113 : decode cX7_number 113 = .ok (.aload_n 0, 1) := by decide +kernel
theorem dX7_number_114 : decode cX7_number 114 = .ok (.getfield 83, 3) := by decide +kernel
theorem dX7_number_117 : decode cX7_number 117 = .ok (.baload, 1) := by decide +kernel
theorem dX7_number_118 : decode cX7_number 118 = .ok (.iadd, 1) := by decide +kernel
theorem dX7_number_119 : decode cX7_number 119 = .ok (.bipush 48, 2) := by decide +kernel
theorem dX7_number_121 : decode cX7_number 121 = .ok (.isub, 1) := by decide +kernel
theorem dX7_number_122 : decode cX7_number 122 = .ok (.goto 5, 3) := by decide +kernel
theorem dX7_number_125 : decode cX7_number 125 = .ok (.iload 4, 2) := by decide +kernel
theorem dX7_number_127 : decode cX7_number 127 = .ok (.istore 4, 2) := by decide +kernel
theorem dX7_number_129 : decode cX7_number 129 = .ok (.aload_n 0, 1) := by decide +kernel
theorem dX7_number_130 : decode cX7_number 130 = .ok (.dup, 1) := by decide +kernel
theorem dX7_number_131 : decode cX7_number 131 = .ok (.getfield 83, 3) := by decide +kernel
theorem dX7_number_134 : decode cX7_number 134 = .ok (.iconst 1, 1) := by decide +kernel
theorem dX7_number_135 : decode cX7_number 135 = .ok (.iadd, 1) := by decide +kernel
theorem dX7_number_136 : decode cX7_number 136 = .ok (.putfield 83, 3) := by decide +kernel
theorem dX7_number_139 : decode cX7_number 139 = .ok (.goto (-56), 3) := by decide +kernel
theorem dX7_number_142 : decode cX7_number 142 = .ok (.aload_n 0, 1) := by decide +kernel
theorem dX7_number_143 : decode cX7_number 143 = .ok (.getfield 83, 3) := by decide +kernel
theorem dX7_number_146 : decode cX7_number 146 = .ok (.iload_n 3, 1) := by decide +kernel
theorem dX7_number_147 : decode cX7_number 147 = .ok (.isub, 1) := by decide +kernel
theorem dX7_number_148 : decode cX7_number 148 = .ok (.iconst 3, 1) := by decide +kernel
theorem dX7_number_149 : decode cX7_number 149 = .ok (.if_icmp .le 12, 3) := by decide +kernel
theorem dX7_number_152 : decode cX7_number 152 = .ok (.aload_n 0, 1) := by decide +kernel
theorem dX7_number_153 : decode cX7_number 153 = .ok (.iconst 1, 1) := by decide +kernel
theorem dX7_number_154 : decode cX7_number 154 = .ok (.aload_n 0, 1) := by decide +kernel
theorem dX7_number_155 : decode cX7_number 155 = .ok (.getfield 103, 3) := by decide +kernel
theorem dX7_number_158 : decode cX7_number 158 = .ok (.invokevirtual 106, 3) := by decide +kernel
theorem dX7_number_161 : decode cX7_number 161 = .ok (.iload_n 2, 1) := by decide +kernel
theorem dX7_number_162 : decode cX7_number 162 = .ok (.ifCond .eq 9, 3) := by decide +kernel
theorem dX7_number_165 : decode cX7_number 165 = .ok (.iload 4, 2) := by decide +kernel
theorem dX7_number_167 : decode cX7_number 167 = .ok (.ineg, 1) := by decide +kernel
theorem dX7_number_168 : decode cX7_number 168 = .ok (.goto 5, 3) := by decide +kernel
theorem dX7_number_171 : decode cX7_number 171 = .ok (.iload 4, 2) := by decide +kernel
theorem dX7_number_173 : decode cX7_number 173 = .ok (.ireturn, 1) := by decide +kernel
theorem dX7_numberIn_0 : decode cX7_numberIn 0 = .ok (.aload_n 0, 1) := by decide +kernel
theorem dX7_numberIn_1 : decode cX7_numberIn 1 = .ok (.invokevirtual 110, 3) := by decide +kernel
theorem dX7_numberIn_4 : decode cX7_numberIn 4 = .ok (.istore_n 3, 1) := by decide +kernel
theorem dX7_numberIn_5 : decode cX7_numberIn 5 = .ok (.aload_n 0, 1) := by decide +kernel
theorem dX7_numberIn_6 : decode cX7_numberIn 6 = .ok (.getfield 89, 3) := by decide +kernel
theorem dX7_numberIn_9 : decode cX7_numberIn 9 = .ok (.ifCond .ne 21, 3) := by decide +kernel
theorem dX7_numberIn_12 : decode cX7_numberIn 12 = .ok (.iload_n 3, 1) := by decide +kernel
theorem dX7_numberIn_13 : decode cX7_numberIn 13 = .ok (.iload_n 1, 1) := by decide +kernel
theorem dX7_numberIn_14 : decode cX7_numberIn 14 = .ok (.iload_n 2, 1) := by decide +kernel
theorem dX7_numberIn_15 : decode cX7_numberIn 15 = .ok (.invokestatic 50, 3) := by decide +kernel
theorem dX7_numberIn_18 : decode cX7_numberIn 18 = .ok (.ifCond .ne 12, 3) := by decide +kernel
theorem dX7_numberIn_21 : decode cX7_numberIn 21 = .ok (.aload_n 0, 1) := by decide +kernel
theorem dX7_numberIn_22 : decode cX7_numberIn 22 = .ok (.iconst 2, 1) := by decide +kernel
theorem dX7_numberIn_23 : decode cX7_numberIn 23 = .ok (.aload_n 0, 1) := by decide +kernel
theorem dX7_numberIn_24 : decode cX7_numberIn 24 = .ok (.getfield 103, 3) := by decide +kernel
theorem dX7_numberIn_27 : decode cX7_numberIn 27 = .ok (.invokevirtual 106, 3) := by decide +kernel
theorem dX7_numberIn_30 : decode cX7_numberIn 30 = .ok (.iload_n 3, 1) := by decide +kernel
theorem dX7_numberIn_31 : decode cX7_numberIn 31 = .ok (.ireturn, 1) := by decide +kernel
theorem dX7_word_0 : decode cX7_word 0 = .ok (.aload_n 0, 1) := by decide +kernel
theorem dX7_word_1 : decode cX7_word 1 = .ok (.invokevirtual 92, 3) := by decide +kernel
theorem dX7_word_4 : decode cX7_word 4 = .ok (.pop, 1) := by decide +kernel
theorem dX7_word_5 : decode cX7_word 5 = .ok (.aload_n 0, 1) := by decide +kernel
theorem dX7_word_6 : decode cX7_word 6 = .ok (.aload_n 0, 1) := by decide +kernel
theorem dX7_word_7 : decode cX7_word 7 = .ok (.getfield 83, 3) := by decide +kernel
theorem dX7_word_10 : decode cX7_word 10 = .ok (.putfield 103, 3) := by decide +kernel
theorem dX7_word_13 : decode cX7_word 13 = .ok (.iconst 0, 1) := by decide +kernel
theorem dX7_word_14 : decode cX7_word 14 = .ok (.istore_n 1, 1) := by decide +kernel
theorem dX7_word_15 : decode cX7_word 15 = .ok (.aload_n 0, 1) := by decide +kernel
theorem dX7_word_16 : decode cX7_word 16 = .ok (.getfield 83, 3) := by decide +kernel
theorem dX7_word_19 : decode cX7_word 19 = .ok (.aload_n 0, 1) := by decide +kernel
theorem dX7_word_20 : decode cX7_word 20 = .ok (.getfield 86, 3) := by decide +kernel
theorem dX7_word_23 : decode cX7_word 23 = .ok (.if_icmp .ge 70, 3) := by decide +kernel
theorem dX7_word_26 : decode cX7_word 26 = .ok (.aload_n 0, 1) := by decide +kernel
theorem dX7_word_27 : decode cX7_word 27 = .ok (.getfield 16, 3) := by decide +kernel
theorem dX7_word_30 : decode cX7_word 30 = .ok (.aload_n 0, 1) := by decide +kernel
theorem dX7_word_31 : decode cX7_word 31 = .ok (.getfield 83, 3) := by decide +kernel
theorem dX7_word_34 : decode cX7_word 34 = .ok (.baload, 1) := by decide +kernel
theorem dX7_word_35 : decode cX7_word 35 = .ok (.bipush 97, 2) := by decide +kernel
theorem dX7_word_37 : decode cX7_word 37 = .ok (.bipush 122, 2) := by decide +kernel
theorem dX7_word_39 : decode cX7_word 39 = .ok (.invokestatic 50, 3) := by decide +kernel
theorem dX7_word_42 : decode cX7_word 42 = .ok (.ifCond .eq 51, 3) := by decide +kernel
theorem dX7_word_45 : decode cX7_word 45 = .ok (.aload_n 0, 1) := by decide +kernel
theorem dX7_word_46 : decode cX7_word 46 = .ok (.getfield 83, 3) := by decide +kernel
theorem dX7_word_49 : decode cX7_word 49 = .ok (.aload_n 0, 1) := by decide +kernel
theorem dX7_word_50 : decode cX7_word 50 = .ok (.getfield 103, 3) := by decide +kernel
theorem dX7_word_53 : decode cX7_word 53 = .ok (.isub, 1) := by decide +kernel
theorem dX7_word_54 : decode cX7_word 54 = .ok (.iconst 5, 1) := by decide +kernel
theorem dX7_word_55 : decode cX7_word 55 = .ok (.if_icmp .ge 23, 3) := by decide +kernel
theorem dX7_word_58 : decode cX7_word 58 = .ok (.bipush 32, 2) := by decide +kernel
theorem dX7_word_60 : decode cX7_word 60 = .ok (.iload_n 1, 1) := by decide +kernel
theorem dX7_word_61 : decode cX7_word 61 = .ok (.imul, 1) := by decide +kernel
theorem dX7_word_62 : decode cX7_word 62 = .ok (.aload_n 0, 1) := by decide +kernel
theorem dX7_word_63 : decode cX7_word 63 = .ok (.getfield 16, 3) := by decide +kernel
theorem dX7_word_66 : decode cX7_word 66 = .ok (.aload_n 0, 1) := by decide +kernel
theorem dX7_word_67 : decode cX7_word 67 = .ok (.getfield 83, 3) := by decide +kernel
theorem dX7_word_70 : decode cX7_word 70 = .ok (.baload, 1) := by decide +kernel
theorem dX7_word_71 : decode cX7_word 71 = .ok (.iadd, 1) := by decide +kernel
theorem dX7_word_72 : decode cX7_word 72 = .ok (.bipush 96, 2) := by decide +kernel
theorem dX7_word_74 : decode cX7_word 74 = .ok (.isub, 1) := by decide +kernel
theorem dX7_word_75 : decode cX7_word 75 = .ok (.goto 4, 3) := by decide +kernel
theorem dX7_word_78 : decode cX7_word 78 = .ok (.iconst 0, 1) := by decide +kernel
theorem dX7_word_79 : decode cX7_word 79 = .ok (.istore_n 1, 1) := by decide +kernel
theorem dX7_word_80 : decode cX7_word 80 = .ok (.aload_n 0, 1) := by decide +kernel
theorem dX7_word_81 : decode cX7_word 81 = .ok (.dup, 1) := by decide +kernel
theorem dX7_word_82 : decode cX7_word 82 = .ok (.getfield 83, 3) := by decide +kernel
theorem dX7_word_85 : decode cX7_word 85 = .ok (.iconst 1, 1) := by decide +kernel
theorem dX7_word_86 : decode cX7_word 86 = .ok (.iadd, 1) := by decide +kernel
theorem dX7_word_87 : decode cX7_word 87 = .ok (.putfield 83, 3) := by decide +kernel
theorem dX7_word_90 : decode cX7_word 90 = .ok (.goto (-75), 3) := by decide +kernel
theorem dX7_word_93 : decode cX7_word 93 = .ok (.iload_n 1, 1) := by decide +kernel
theorem dX7_word_94 : decode cX7_word 94 = .ok (.ireturn, 1) := by decide +kernel
theorem dX7_letters_0 : decode cX7_letters 0 = .ok (.iload_n 0, 1) := by decide +kernel
theorem dX7_letters_1 : decode cX7_letters 1 = .ok (.bipush 32, 2) := by decide +kernel
theorem dX7_letters_3 : decode cX7_letters 3 = .ok (.imul, 1) := by decide +kernel
theorem dX7_letters_4 : decode cX7_letters 4 = .ok (.iload_n 1, 1) := by decide +kernel
theorem dX7_letters_5 : decode cX7_letters 5 = .ok (.iadd, 1) := by decide +kernel
theorem dX7_letters_6 : decode cX7_letters 6 = .ok (.bipush 32, 2) := by decide +kernel
theorem dX7_letters_8 : decode cX7_letters 8 = .ok (.imul, 1) := by decide +kernel
theorem dX7_letters_9 : decode cX7_letters 9 = .ok (.iload_n 2, 1) := by decide +kernel
theorem dX7_letters_10 : decode cX7_letters 10 = .ok (.iadd, 1) := by decide +kernel
theorem dX7_letters_11 : decode cX7_letters 11 = .ok (.bipush 32, 2) := by decide +kernel
theorem dX7_letters_13 : decode cX7_letters 13 = .ok (.imul, 1) := by decide +kernel
theorem dX7_letters_14 : decode cX7_letters 14 = .ok (.iload_n 3, 1) := by decide +kernel
theorem dX7_letters_15 : decode cX7_letters 15 = .ok (.iadd, 1) := by decide +kernel
theorem dX7_letters_16 : decode cX7_letters 16 = .ok (.bipush 32, 2) := by decide +kernel
theorem dX7_letters_18 : decode cX7_letters 18 = .ok (.imul, 1) := by decide +kernel
theorem dX7_letters_19 : decode cX7_letters 19 = .ok (.iload 4, 2) := by decide +kernel
theorem dX7_letters_21 : decode cX7_letters 21 = .ok (.iadd, 1) := by decide +kernel
theorem dX7_letters_22 : decode cX7_letters 22 = .ok (.ireturn, 1) := by decide +kernel
theorem dX7_rower_0 : decode cX7_rower 0 = .ok (.aload_n 0, 1) := by decide +kernel
theorem dX7_rower_1 : decode cX7_rower 1 = .ok (.invokevirtual 110, 3) := by decide +kernel
theorem dX7_rower_4 : decode cX7_rower 4 = .ok (.istore 4, 2) := by decide +kernel
theorem dX7_rower_6 : decode cX7_rower 6 = .ok (.aload_n 0, 1) := by decide +kernel
theorem dX7_rower_7 : decode cX7_rower 7 = .ok (.getfield 89, 3) := by decide +kernel
theorem dX7_rower_10 : decode cX7_rower 10 = .ok (.ifCond .eq 5, 3) := by decide +kernel
theorem dX7_rower_13 : decode cX7_rower 13 = .ok (.iload_n 1, 1) := by decide +kernel
theorem dX7_rower_14 : decode cX7_rower 14 = .ok (.ireturn, 1) := by decide +kernel
theorem dX7_rower_15 : decode cX7_rower 15 = .ok (.aload_n 0, 1) := by decide +kernel
theorem dX7_rower_16 : decode cX7_rower 16 = .ok (.iload 4, 2) := by decide +kernel
theorem dX7_rower_18 : decode cX7_rower 18 = .ok (.invokevirtual 113, 3) := by decide +kernel
theorem dX7_rower_21 : decode cX7_rower 21 = .ok (.ifCond .ne 15, 3) := by decide +kernel
theorem dX7_rower_24 : decode cX7_rower 24 = .ok (.aload_n 0, 1) := by decide +kernel
theorem dX7_rower_25 : decode cX7_rower 25 = .ok (.iconst 2, 1) := by decide +kernel
theorem dX7_rower_26 : decode cX7_rower 26 = .ok (.aload_n 0, 1) := by decide +kernel
theorem dX7_rower_27 : decode cX7_rower 27 = .ok (.getfield 103, 3) := by decide +kernel
theorem dX7_rower_30 : decode cX7_rower 30 = .ok (.invokevirtual 106, 3) := by decide +kernel
theorem dX7_rower_33 : decode cX7_rower 33 = .ok (.goto 54, 3) := by decide +kernel
theorem dX7_rower_36 : decode cX7_rower 36 = .ok (.iload_n 1, 1) := by decide +kernel
theorem dX7_rower_37 : decode cX7_rower 37 = .ok (.iload_n 2, 1) := by decide +kernel
theorem dX7_rower_38 : decode cX7_rower 38 = .ok (.ior, 1) := by decide +kernel
theorem dX7_rower_39 : decode cX7_rower 39 = .ok (.iload 4, 2) := by decide +kernel
theorem dX7_rower_41 : decode cX7_rower 41 = .ok (.invokestatic 116, 3) := by decide +kernel
theorem dX7_rower_44 : decode cX7_rower 44 = .ok (.ifCond .eq 15, 3) := by decide +kernel
theorem dX7_rower_47 : decode cX7_rower 47 = .ok (.aload_n 0, 1) := by decide +kernel
theorem dX7_rower_48 : decode cX7_rower 48 = .ok (.iconst 3, 1) := by decide +kernel
theorem dX7_rower_49 : decode cX7_rower 49 = .ok (.aload_n 0, 1) := by decide +kernel
theorem dX7_rower_50 : decode cX7_rower 50 = .ok (.getfield 103, 3) := by decide +kernel
theorem dX7_rower_53 : decode cX7_rower 53 = .ok (.invokevirtual 106, 3) := by decide +kernel
theorem dX7_rower_56 : decode cX7_rower 56 = .ok (.goto 31, 3) := by decide +kernel
theorem dX7_rower_59 : decode cX7_rower 59 = .ok (.iload_n 1, 1) := by decide +kernel
theorem dX7_rower_60 : decode cX7_rower 60 = .ok (.invokestatic 54, 3) := by decide +kernel
theorem dX7_rower_63 : decode cX7_rower 63 = .ok (.iload_n 3, 1) := by decide +kernel
theorem dX7_rower_64 : decode cX7_rower 64 = .ok (.ifCond .eq 10, 3) := by decide +kernel
theorem dX7_rower_67 : decode cX7_rower 67 = .ok (.iload_n 2, 1) := by decide +kernel
theorem dX7_rower_68 : decode cX7_rower 68 = .ok (.invokestatic 54, 3) := by decide +kernel
theorem dX7_rower_71 : decode cX7_rower 71 = .ok (.goto 4, 3) := by decide +kernel
theorem dX7_rower_74 : decode cX7_rower 74 = .ok (.iconst 3, 1) := by decide +kernel
theorem dX7_rower_75 : decode cX7_rower 75 = .ok (.if_icmp .ne 12, 3) := by decide +kernel
theorem dX7_rower_78 : decode cX7_rower 78 = .ok (.aload_n 0, 1) := by decide +kernel
theorem dX7_rower_79 : decode cX7_rower 79 = .ok (.iconst 4, 1) := by decide +kernel
theorem dX7_rower_80 : decode cX7_rower 80 = .ok (.aload_n 0, 1) := by decide +kernel
theorem dX7_rower_81 : decode cX7_rower 81 = .ok (.getfield 103, 3) := by decide +kernel
theorem dX7_rower_84 : decode cX7_rower 84 = .ok (.invokevirtual 106, 3) := by decide +kernel
theorem dX7_rower_87 : decode cX7_rower 87 = .ok (.aload_n 0, 1) := by decide +kernel
theorem dX7_rower_88 : decode cX7_rower 88 = .ok (.getfield 89, 3) := by decide +kernel
theorem dX7_rower_91 : decode cX7_rower 91 = .ok (.ifCond .ne 12, 3) := by decide +kernel
theorem dX7_rower_94 : decode cX7_rower 94 = .ok (.iload_n 1, 1) := by decide +kernel
theorem dX7_rower_95 : decode cX7_rower 95 = .ok (.iconst 1, 1) := by decide +kernel
theorem dX7_rower_96 : decode cX7_rower 96 = .ok (.iload 4, 2) := by decide +kernel
theorem dX7_rower_98 : decode cX7_rower 98 = .ok (.ishl, 1) := by decide +kernel
theorem dX7_rower_99 : decode cX7_rower 99 = .ok (.ior, 1) := by decide +kernel
theorem dX7_rower_100 : decode cX7_rower 100 = .ok (.goto 4, 3) := by decide +kernel
theorem dX7_rower_103 : decode cX7_rower 103 = .ok (.iload_n 1, 1) := by decide +kernel
theorem dX7_rower_104 : decode cX7_rower 104 = .ok (.ireturn, 1) := by decide +kernel
theorem dX7_crewTold_0 : decode cX7_crewTold 0 = .ok (.aload_n 0, 1) := by decide +kernel
theorem dX7_crewTold_1 : decode cX7_crewTold 1 = .ok (.iconst 0, 1) := by decide +kernel
theorem dX7_crewTold_2 : decode cX7_crewTold 2 = .ok (.iload_n 1, 1) := by decide +kernel
theorem dX7_crewTold_3 : decode cX7_crewTold 3 = .ok (.iload_n 2, 1) := by decide +kernel
theorem dX7_crewTold_4 : decode cX7_crewTold 4 = .ok (.invokevirtual 119, 3) := by decide +kernel
theorem dX7_crewTold_7 : decode cX7_crewTold 7 = .ok (.istore_n 3, 1) := by decide +kernel
theorem dX7_crewTold_8 : decode cX7_crewTold 8 = .ok (.aload_n 0, 1) := by decide +kernel
theorem dX7_crewTold_9 : decode cX7_crewTold 9 = .ok (.getfield 89, 3) := by decide +kernel
theorem dX7_crewTold_12 : decode cX7_crewTold 12 = .ok (.ifCond .ne 21, 3) := by decide +kernel
theorem dX7_crewTold_15 : decode cX7_crewTold 15 = .ok (.aload_n 0, 1) := by decide +kernel
theorem dX7_crewTold_16 : decode cX7_crewTold 16 = .ok (.invokevirtual 99, 3) := by decide +kernel
theorem dX7_crewTold_19 : decode cX7_crewTold 19 = .ok (.ifCond .eq 14, 3) := by decide +kernel
theorem dX7_crewTold_22 : decode cX7_crewTold 22 = .ok (.aload_n 0, 1) := by decide +kernel
theorem dX7_crewTold_23 : decode cX7_crewTold 23 = .ok (.iload_n 3, 1) := by decide +kernel
theorem dX7_crewTold_24 : decode cX7_crewTold 24 = .ok (.iload_n 1, 1) := by decide +kernel
theorem dX7_crewTold_25 : decode cX7_crewTold 25 = .ok (.iload_n 2, 1) := by decide +kernel
theorem dX7_crewTold_26 : decode cX7_crewTold 26 = .ok (.invokevirtual 119, 3) := by decide +kernel
theorem dX7_crewTold_29 : decode cX7_crewTold 29 = .ok (.istore_n 3, 1) := by decide +kernel
theorem dX7_crewTold_30 : decode cX7_crewTold 30 = .ok (.goto (-22), 3) := by decide +kernel
theorem dX7_crewTold_33 : decode cX7_crewTold 33 = .ok (.iload_n 3, 1) := by decide +kernel
theorem dX7_crewTold_34 : decode cX7_crewTold 34 = .ok (.ireturn, 1) := by decide +kernel
theorem dX7_raceTold_0 : decode cX7_raceTold 0 = .ok (.aload_n 0, 1) := by decide +kernel
theorem dX7_raceTold_1 : decode cX7_raceTold 1 = .ok (.invokevirtual 58, 3) := by decide +kernel
theorem dX7_raceTold_4 : decode cX7_raceTold 4 = .ok (.bipush 12, 2) := by decide +kernel
theorem dX7_raceTold_6 : decode cX7_raceTold 6 = .ok (.if_icmp .ne 12, 3) := by decide +kernel
theorem dX7_raceTold_9 : decode cX7_raceTold 9 = .ok (.aload_n 0, 1) := by decide +kernel
theorem dX7_raceTold_10 : decode cX7_raceTold 10 = .ok (.iconst 4, 1) := by decide +kernel
theorem dX7_raceTold_11 : decode cX7_raceTold 11 = .ok (.aload_n 0, 1) := by decide +kernel
theorem dX7_raceTold_12 : decode cX7_raceTold 12 = .ok (.getfield 103, 3) := by decide +kernel
theorem dX7_raceTold_15 : decode cX7_raceTold 15 = .ok (.invokevirtual 106, 3) := by decide +kernel
theorem dX7_raceTold_18 : decode cX7_raceTold 18 = .ok (.aload_n 0, 1) := by decide +kernel
theorem dX7_raceTold_19 : decode cX7_raceTold 19 = .ok (.iconst 0, 1) := by decide +kernel
theorem dX7_raceTold_20 : decode cX7_raceTold 20 = .ok (.iconst 0, 1) := by decide +kernel
theorem dX7_raceTold_21 : decode cX7_raceTold 21 = .ok (.invokevirtual 123, 3) := by decide +kernel
theorem dX7_raceTold_24 : decode cX7_raceTold 24 = .ok (.istore_n 1, 1) := by decide +kernel
theorem dX7_raceTold_25 : decode cX7_raceTold 25 = .ok (.aload_n 0, 1) := by decide +kernel
theorem dX7_raceTold_26 : decode cX7_raceTold 26 = .ok (.getfield 89, 3) := by decide +kernel
theorem dX7_raceTold_29 : decode cX7_raceTold 29 = .ok (.ifCond .ne 21, 3) := by decide +kernel
theorem dX7_raceTold_32 : decode cX7_raceTold 32 = .ok (.aload_n 0, 1) := by decide +kernel
theorem dX7_raceTold_33 : decode cX7_raceTold 33 = .ok (.invokevirtual 92, 3) := by decide +kernel
theorem dX7_raceTold_36 : decode cX7_raceTold 36 = .ok (.bipush 58, 2) := by decide +kernel
theorem dX7_raceTold_38 : decode cX7_raceTold 38 = .ok (.if_icmp .eq 12, 3) := by decide +kernel
theorem dX7_raceTold_41 : decode cX7_raceTold 41 = .ok (.aload_n 0, 1) := by decide +kernel
theorem dX7_raceTold_42 : decode cX7_raceTold 42 = .ok (.iconst 1, 1) := by decide +kernel
theorem dX7_raceTold_43 : decode cX7_raceTold 43 = .ok (.aload_n 0, 1) := by decide +kernel
theorem dX7_raceTold_44 : decode cX7_raceTold 44 = .ok (.getfield 83, 3) := by decide +kernel
theorem dX7_raceTold_47 : decode cX7_raceTold 47 = .ok (.invokevirtual 106, 3) := by decide +kernel
theorem dX7_raceTold_50 : decode cX7_raceTold 50 = .ok (.aload_n 0, 1) := by decide +kernel
theorem dX7_raceTold_51 : decode cX7_raceTold 51 = .ok (.dup, 1) := by decide +kernel
theorem dX7_raceTold_52 : decode cX7_raceTold 52 = .ok (.getfield 83, 3) := by decide +kernel
theorem dX7_raceTold_55 : decode cX7_raceTold 55 = .ok (.iconst 1, 1) := by decide +kernel
theorem dX7_raceTold_56 : decode cX7_raceTold 56 = .ok (.iadd, 1) := by decide +kernel
theorem dX7_raceTold_57 : decode cX7_raceTold 57 = .ok (.putfield 83, 3) := by decide +kernel
theorem dX7_raceTold_60 : decode cX7_raceTold 60 = .ok (.aload_n 0, 1) := by decide +kernel
theorem dX7_raceTold_61 : decode cX7_raceTold 61 = .ok (.getfield 89, 3) := by decide +kernel
theorem dX7_raceTold_64 : decode cX7_raceTold 64 = .ok (.ifCond .ne 12, 3) := by decide +kernel
theorem dX7_raceTold_67 : decode cX7_raceTold 67 = .ok (.aload_n 0, 1) := by decide +kernel
theorem dX7_raceTold_68 : decode cX7_raceTold 68 = .ok (.iload_n 1, 1) := by decide +kernel
theorem dX7_raceTold_69 : decode cX7_raceTold 69 = .ok (.iconst 1, 1) := by decide +kernel
theorem dX7_raceTold_70 : decode cX7_raceTold 70 = .ok (.invokevirtual 123, 3) := by decide +kernel
theorem dX7_raceTold_73 : decode cX7_raceTold 73 = .ok (.goto 4, 3) := by decide +kernel
theorem dX7_raceTold_76 : decode cX7_raceTold 76 = .ok (.iconst 0, 1) := by decide +kernel
theorem dX7_raceTold_77 : decode cX7_raceTold 77 = .ok (.istore_n 2, 1) := by decide +kernel
theorem dX7_raceTold_78 : decode cX7_raceTold 78 = .ok (.aload_n 0, 1) := by decide +kernel
theorem dX7_raceTold_79 : decode cX7_raceTold 79 = .ok (.getfield 89, 3) := by decide +kernel
theorem dX7_raceTold_82 : decode cX7_raceTold 82 = .ok (.ifCond .ne 28, 3) := by decide +kernel
theorem dX7_raceTold_85 : decode cX7_raceTold 85 = .ok (.aload_n 0, 1) := by decide +kernel
theorem dX7_raceTold_86 : decode cX7_raceTold 86 = .ok (.invokevirtual 127, 3) := by decide +kernel
theorem dX7_raceTold_89 : decode cX7_raceTold 89 = .ok (.iconst 0, 1) := by decide +kernel
theorem dX7_raceTold_90 : decode cX7_raceTold 90 = .ok (.iconst 0, 1) := by decide +kernel
theorem dX7_raceTold_91 : decode cX7_raceTold 91 = .ok (.iconst 0, 1) := by decide +kernel
theorem dX7_raceTold_92 : decode cX7_raceTold 92 = .ok (.iconst 2, 1) := by decide +kernel
theorem dX7_raceTold_93 : decode cX7_raceTold 93 = .ok (.bipush 25, 2) := by decide +kernel
theorem dX7_raceTold_95 : decode cX7_raceTold 95 = .ok (.invokestatic 130, 3) := by decide +kernel
theorem dX7_raceTold_98 : decode cX7_raceTold 98 = .ok (.if_icmp .eq 12, 3) := by decide +kernel
theorem dX7_raceTold_101 : decode cX7_raceTold 101 = .ok (.aload_n 0, 1) := by decide +kernel
theorem dX7_raceTold_102 : decode cX7_raceTold 102 = .ok (.iconst 1, 1) := by decide +kernel
theorem dX7_raceTold_103 : decode cX7_raceTold 103 = .ok (.aload_n 0, 1) := by decide +kernel
theorem dX7_raceTold_104 : decode cX7_raceTold 104 = .ok (.getfield 103, 3) := by decide +kernel
theorem dX7_raceTold_107 : decode cX7_raceTold 107 = .ok (.invokevirtual 106, 3) := by decide +kernel
theorem dX7_raceTold_110 : decode cX7_raceTold 110 = .ok (.aload_n 0, 1) := by decide +kernel
theorem dX7_raceTold_111 : decode cX7_raceTold 111 = .ok (.getfield 89, 3) := by decide +kernel
theorem dX7_raceTold_114 : decode cX7_raceTold 114 = .ok (.ifCond .ne 23, 3) := by decide +kernel
theorem dX7_raceTold_117 : decode cX7_raceTold 117 = .ok (.iload_n 2, 1) := by decide +kernel
theorem dX7_raceTold_118 : decode cX7_raceTold 118 = .ok (.invokestatic 54, 3) := by decide +kernel
theorem dX7_raceTold_121 : decode cX7_raceTold 121 = .ok (.iload_n 1, 1) := by decide +kernel
theorem dX7_raceTold_122 : decode cX7_raceTold 122 = .ok (.invokestatic 54, 3) := by decide +kernel
theorem dX7_raceTold_125 : decode cX7_raceTold 125 = .ok (.if_icmp .ge 12, 3) := by decide +kernel
theorem dX7_raceTold_128 : decode cX7_raceTold 128 = .ok (.aload_n 0, 1) := by decide +kernel
theorem dX7_raceTold_129 : decode cX7_raceTold 129 = .ok (.iconst 4, 1) := by decide +kernel
theorem dX7_raceTold_130 : decode cX7_raceTold 130 = .ok (.aload_n 0, 1) := by decide +kernel
theorem dX7_raceTold_131 : decode cX7_raceTold 131 = .ok (.getfield 103, 3) := by decide +kernel
theorem dX7_raceTold_134 : decode cX7_raceTold 134 = .ok (.invokevirtual 106, 3) := by decide +kernel
theorem dX7_raceTold_137 : decode cX7_raceTold 137 = .ok (.aload_n 0, 1) := by decide +kernel
theorem dX7_raceTold_138 : decode cX7_raceTold 138 = .ok (.invokevirtual 110, 3) := by decide +kernel
theorem dX7_raceTold_141 : decode cX7_raceTold 141 = .ok (.istore_n 3, 1) := by decide +kernel
theorem dX7_raceTold_142 : decode cX7_raceTold 142 = .ok (.iconst 0, 1) := by decide +kernel
theorem dX7_raceTold_143 : decode cX7_raceTold 143 = .ok (.istore 4, 2) := by decide +kernel
theorem dX7_raceTold_145 : decode cX7_raceTold 145 = .ok (.aload_n 0, 1) := by decide +kernel
theorem dX7_raceTold_146 : decode cX7_raceTold 146 = .ok (.getfield 89, 3) := by decide +kernel
theorem dX7_raceTold_149 : decode cX7_raceTold 149 = .ok (.ifCond .ne 75, 3) := by decide +kernel
theorem dX7_raceTold_152 : decode cX7_raceTold 152 = .ok (.aload_n 0, 1) := by decide +kernel
theorem dX7_raceTold_153 : decode cX7_raceTold 153 = .ok (.invokevirtual 92, 3) := by decide +kernel
theorem dX7_raceTold_156 : decode cX7_raceTold 156 = .ok (.bipush 97, 2) := by decide +kernel
theorem dX7_raceTold_158 : decode cX7_raceTold 158 = .ok (.bipush 122, 2) := by decide +kernel
theorem dX7_raceTold_160 : decode cX7_raceTold 160 = .ok (.invokestatic 50, 3) := by decide +kernel
theorem dX7_raceTold_163 : decode cX7_raceTold 163 = .ok (.ifCond .eq 61, 3) := by decide +kernel
theorem dX7_raceTold_166 : decode cX7_raceTold 166 = .ok (.aload_n 0, 1) := by decide +kernel
theorem dX7_raceTold_167 : decode cX7_raceTold 167 = .ok (.invokevirtual 127, 3) := by decide +kernel
theorem dX7_raceTold_170 : decode cX7_raceTold 170 = .ok (.istore 5, 2) := by decide +kernel
theorem dX7_raceTold_172 : decode cX7_raceTold 172 = .ok (.iload 5, 2) := by decide +kernel
theorem dX7_raceTold_174 : decode cX7_raceTold 174 = .ok (.iconst 0, 1) := by decide +kernel
theorem dX7_raceTold_175 : decode cX7_raceTold 175 = .ok (.iconst 0, 1) := by decide +kernel
theorem dX7_raceTold_176 : decode cX7_raceTold 176 = .ok (.iconst 0, 1) := by decide +kernel
theorem dX7_raceTold_177 : decode cX7_raceTold 177 = .ok (.bipush 21, 2) := by decide +kernel
theorem dX7_raceTold_179 : decode cX7_raceTold 179 = .ok (.bipush 16, 2) := by decide +kernel
theorem dX7_raceTold_181 : decode cX7_raceTold 181 = .ok (.invokestatic 130, 3) := by decide +kernel
theorem dX7_raceTold_184 : decode cX7_raceTold 184 = .ok (.if_icmp .ne 9, 3) := by decide +kernel
theorem dX7_raceTold_187 : decode cX7_raceTold 187 = .ok (.iconst 1, 1) := by decide +kernel
theorem dX7_raceTold_188 : decode cX7_raceTold 188 = .ok (.istore 4, 2) := by decide +kernel
theorem dX7_raceTold_190 : decode cX7_raceTold 190 = .ok (.goto 34, 3) := by decide +kernel
theorem dX7_raceTold_193 : decode cX7_raceTold 193 = .ok (.iload 5, 2) := by decide +kernel
theorem dX7_raceTold_195 : decode cX7_raceTold 195 = .ok (.iconst 0, 1) := by decide +kernel
theorem dX7_raceTold_196 : decode cX7_raceTold 196 = .ok (.iconst 4, 1) := by decide +kernel
theorem dX7_raceTold_197 : decode cX7_raceTold 197 = .ok (.bipush 15, 2) := by decide +kernel
theorem dX7_raceTold_199 : decode cX7_raceTold 199 = .ok (.bipush 23, 2) := by decide +kernel
theorem dX7_raceTold_201 : decode cX7_raceTold 201 = .ok (.bipush 14, 2) := by decide +kernel
theorem dX7_raceTold_203 : decode cX7_raceTold 203 = .ok (.invokestatic 130, 3) := by decide +kernel
theorem dX7_raceTold_206 : decode cX7_raceTold 206 = .ok (.if_icmp .ne 9, 3) := by decide +kernel
theorem dX7_raceTold_209 : decode cX7_raceTold 209 = .ok (.iconst (-1), 1) := by decide +kernel
theorem dX7_raceTold_210 : decode cX7_raceTold 210 = .ok (.istore 4, 2) := by decide +kernel
theorem dX7_raceTold_212 : decode cX7_raceTold 212 = .ok (.goto 12, 3) := by decide +kernel
theorem dX7_raceTold_215 : decode cX7_raceTold 215 = .ok (.aload_n 0, 1) := by decide +kernel
theorem dX7_raceTold_216 : decode cX7_raceTold 216 = .ok (.iconst 1, 1) := by decide +kernel
theorem dX7_raceTold_217 : decode cX7_raceTold 217 = .ok (.aload_n 0, 1) := by decide +kernel
theorem dX7_raceTold_218 : decode cX7_raceTold 218 = .ok (.getfield 103, 3) := by decide +kernel
theorem dX7_raceTold_221 : decode cX7_raceTold 221 = .ok (.invokevirtual 106, 3) := by decide +kernel
theorem dX7_raceTold_224 : decode cX7_raceTold 224 = .ok (.aload_n 0, 1) := by decide +kernel
theorem dX7_raceTold_225 : decode cX7_raceTold 225 = .ok (.getfield 89, 3) := by decide +kernel
theorem dX7_raceTold_228 : decode cX7_raceTold 228 = .ok (.ifCond .ne 12, 3) := by decide +kernel
theorem dX7_raceTold_231 : decode cX7_raceTold 231 = .ok (.aload_n 0, 1) := by decide +kernel
theorem dX7_raceTold_232 : decode cX7_raceTold 232 = .ok (.iload_n 1, 1) := by decide +kernel
theorem dX7_raceTold_233 : decode cX7_raceTold 233 = .ok (.iload_n 2, 1) := by decide +kernel
theorem dX7_raceTold_234 : decode cX7_raceTold 234 = .ok (.iload_n 3, 1) := by decide +kernel
theorem dX7_raceTold_235 : decode cX7_raceTold 235 = .ok (.iload 4, 2) := by decide +kernel
theorem dX7_raceTold_237 : decode cX7_raceTold 237 = .ok (.invokevirtual 65, 3) := by decide +kernel
theorem dX7_raceTold_240 : decode cX7_raceTold 240 = .ok (.return_, 1) := by decide +kernel
theorem dX7_told_0 : decode cX7_told 0 = .ok (.aload_n 0, 1) := by decide +kernel
theorem dX7_told_1 : decode cX7_told 1 = .ok (.invokevirtual 127, 3) := by decide +kernel
theorem dX7_told_4 : decode cX7_told 4 = .ok (.istore_n 1, 1) := by decide +kernel
theorem dX7_told_5 : decode cX7_told 5 = .ok (.iload_n 1, 1) := by decide +kernel
theorem dX7_told_6 : decode cX7_told 6 = .ok (.iconst 0, 1) := by decide +kernel
theorem dX7_told_7 : decode cX7_told 7 = .ok (.iconst 3, 1) := by decide +kernel
theorem dX7_told_8 : decode cX7_told 8 = .ok (.bipush 18, 2) := by decide +kernel
theorem dX7_told_10 : decode cX7_told 10 = .ok (.iconst 5, 1) := by decide +kernel
theorem dX7_told_11 : decode cX7_told 11 = .ok (.bipush 23, 2) := by decide +kernel
theorem dX7_told_13 : decode cX7_told 13 = .ok (.invokestatic 130, 3) := by decide +kernel
theorem dX7_told_16 : decode cX7_told 16 = .ok (.if_icmp .ne 36, 3) := by decide +kernel
theorem dX7_told_19 : decode cX7_told 19 = .ok (.aload_n 0, 1) := by decide +kernel
theorem dX7_told_20 : decode cX7_told 20 = .ok (.iconst 0, 1) := by decide +kernel
theorem dX7_told_21 : decode cX7_told 21 = .ok (.bipush 6, 2) := by decide +kernel
theorem dX7_told_23 : decode cX7_told 23 = .ok (.invokevirtual 134, 3) := by decide +kernel
theorem dX7_told_26 : decode cX7_told 26 = .ok (.istore_n 2, 1) := by decide +kernel
theorem dX7_told_27 : decode cX7_told 27 = .ok (.aload_n 0, 1) := by decide +kernel
theorem dX7_told_28 : decode cX7_told 28 = .ok (.getfield 89, 3) := by decide +kernel
theorem dX7_told_31 : decode cX7_told 31 = .ok (.ifCond .eq 4, 3) := by decide +kernel
theorem dX7_told_34 : decode cX7_told 34 = .ok (.return_, 1) := by decide +kernel
theorem dX7_told_35 : decode cX7_told 35 = .ok (.aload_n 0, 1) := by decide +kernel
theorem dX7_told_36 : decode cX7_told 36 = .ok (.getfield 7, 3) := by decide +kernel
theorem dX7_told_39 : decode cX7_told 39 = .ok (.iconst 0, 1) := by decide +kernel
theorem dX7_told_40 : decode cX7_told 40 = .ok (.iload_n 2, 1) := by decide +kernel
theorem dX7_told_41 : decode cX7_told 41 = .ok (.iastore, 1) := by decide +kernel
theorem dX7_told_42 : decode cX7_told 42 = .ok (.aload_n 0, 1) := by decide +kernel
theorem dX7_told_43 : decode cX7_told 43 = .ok (.getfield 7, 3) := by decide +kernel
theorem dX7_told_46 : decode cX7_told 46 = .ok (.iconst 2, 1) := by decide +kernel
theorem dX7_told_47 : decode cX7_told 47 = .ok (.iconst 0, 1) := by decide +kernel
theorem dX7_told_48 : decode cX7_told 48 = .ok (.iastore, 1) := by decide +kernel
theorem dX7_told_49 : decode cX7_told 49 = .ok (.goto 74, 3) := by decide +kernel
theorem dX7_told_52 : decode cX7_told 52 = .ok (.iload_n 1, 1) := by decide +kernel
theorem dX7_told_53 : decode cX7_told 53 = .ok (.bipush 12, 2) := by decide +kernel
theorem dX7_told_55 : decode cX7_told 55 = .ok (.bipush 9, 2) := by decide +kernel
theorem dX7_told_57 : decode cX7_told 57 = .ok (.bipush 13, 2) := by decide +kernel
theorem dX7_told_59 : decode cX7_told 59 = .ok (.bipush 9, 2) := by decide +kernel
theorem dX7_told_61 : decode cX7_told 61 = .ok (.bipush 20, 2) := by decide +kernel
theorem dX7_told_63 : decode cX7_told 63 = .ok (.invokestatic 130, 3) := by decide +kernel
theorem dX7_told_66 : decode cX7_told 66 = .ok (.if_icmp .ne 28, 3) := by decide +kernel
theorem dX7_told_69 : decode cX7_told 69 = .ok (.aload_n 0, 1) := by decide +kernel
theorem dX7_told_70 : decode cX7_told 70 = .ok (.iconst 1, 1) := by decide +kernel
theorem dX7_told_71 : decode cX7_told 71 = .ok (.bipush 99, 2) := by decide +kernel
theorem dX7_told_73 : decode cX7_told 73 = .ok (.invokevirtual 134, 3) := by decide +kernel
theorem dX7_told_76 : decode cX7_told 76 = .ok (.istore_n 2, 1) := by decide +kernel
theorem dX7_told_77 : decode cX7_told 77 = .ok (.aload_n 0, 1) := by decide +kernel
theorem dX7_told_78 : decode cX7_told 78 = .ok (.getfield 89, 3) := by decide +kernel
theorem dX7_told_81 : decode cX7_told 81 = .ok (.ifCond .ne 10, 3) := by decide +kernel
theorem dX7_told_84 : decode cX7_told 84 = .ok (.aload_n 0, 1) := by decide +kernel
theorem dX7_told_85 : decode cX7_told 85 = .ok (.getfield 7, 3) := by decide +kernel
theorem dX7_told_88 : decode cX7_told 88 = .ok (.iconst 1, 1) := by decide +kernel
theorem dX7_told_89 : decode cX7_told 89 = .ok (.iload_n 2, 1) := by decide +kernel
theorem dX7_told_90 : decode cX7_told 90 = .ok (.iastore, 1) := by decide +kernel
theorem dX7_told_91 : decode cX7_told 91 = .ok (.goto 32, 3) := by decide +kernel
theorem dX7_told_94 : decode cX7_told 94 = .ok (.iload_n 1, 1) := by decide +kernel
theorem dX7_told_95 : decode cX7_told 95 = .ok (.iconst 0, 1) := by decide +kernel
theorem dX7_told_96 : decode cX7_told 96 = .ok (.bipush 18, 2) := by decide +kernel
theorem dX7_told_98 : decode cX7_told 98 = .ok (.iconst 1, 1) := by decide +kernel
theorem dX7_told_99 : decode cX7_told 99 = .ok (.iconst 3, 1) := by decide +kernel
theorem dX7_told_100 : decode cX7_told 100 = .ok (.iconst 5, 1) := by decide +kernel
theorem dX7_told_101 : decode cX7_told 101 = .ok (.invokestatic 130, 3) := by decide +kernel
theorem dX7_told_104 : decode cX7_told 104 = .ok (.if_icmp .ne 10, 3) := by decide +kernel
theorem dX7_told_107 : decode cX7_told 107 = .ok (.aload_n 0, 1) := by decide +kernel
theorem dX7_told_108 : decode cX7_told 108 = .ok (.invokevirtual 137, 3) := by decide +kernel
theorem dX7_told_111 : decode cX7_told 111 = .ok (.goto 12, 3) := by decide +kernel
theorem dX7_told_114 : decode cX7_told 114 = .ok (.aload_n 0, 1) := by decide +kernel
theorem dX7_told_115 : decode cX7_told 115 = .ok (.iconst 1, 1) := by decide +kernel
theorem dX7_told_116 : decode cX7_told 116 = .ok (.aload_n 0, 1) := by decide +kernel
theorem dX7_told_117 : decode cX7_told 117 = .ok (.getfield 103, 3) := by decide +kernel
theorem dX7_told_120 : decode cX7_told 120 = .ok (.invokevirtual 106, 3) := by decide +kernel
theorem dX7_told_123 : decode cX7_told 123 = .ok (.return_, 1) := by decide +kernel
theorem dX7_tell_0 : decode cX7_tell 0 = .ok (.aload_n 0, 1) := by decide +kernel
theorem dX7_tell_1 : decode cX7_tell 1 = .ok (.iconst 0, 1) := by decide +kernel
theorem dX7_tell_2 : decode cX7_tell 2 = .ok (.putfield 43, 3) := by decide +kernel
theorem dX7_tell_5 : decode cX7_tell 5 = .ok (.aload_n 0, 1) := by decide +kernel
theorem dX7_tell_6 : decode cX7_tell 6 = .ok (.aload_n 0, 1) := by decide +kernel
theorem dX7_tell_7 : decode cX7_tell 7 = .ok (.getfield 77, 3) := by decide +kernel
theorem dX7_tell_10 : decode cX7_tell 10 = .ok (.putfield 86, 3) := by decide +kernel
theorem dX7_tell_13 : decode cX7_tell 13 = .ok (.aload_n 0, 1) := by decide +kernel
theorem dX7_tell_14 : decode cX7_tell 14 = .ok (.iconst 0, 1) := by decide +kernel
theorem dX7_tell_15 : decode cX7_tell 15 = .ok (.putfield 77, 3) := by decide +kernel
theorem dX7_tell_18 : decode cX7_tell 18 = .ok (.aload_n 0, 1) := by decide +kernel
theorem dX7_tell_19 : decode cX7_tell 19 = .ok (.iconst 0, 1) := by decide +kernel
theorem dX7_tell_20 : decode cX7_tell 20 = .ok (.putfield 89, 3) := by decide +kernel
theorem dX7_tell_23 : decode cX7_tell 23 = .ok (.aload_n 0, 1) := by decide +kernel
theorem dX7_tell_24 : decode cX7_tell 24 = .ok (.iconst (-1), 1) := by decide +kernel
theorem dX7_tell_25 : decode cX7_tell 25 = .ok (.putfield 20, 3) := by decide +kernel
theorem dX7_tell_28 : decode cX7_tell 28 = .ok (.aload_n 0, 1) := by decide +kernel
theorem dX7_tell_29 : decode cX7_tell 29 = .ok (.iconst 0, 1) := by decide +kernel
theorem dX7_tell_30 : decode cX7_tell 30 = .ok (.putfield 83, 3) := by decide +kernel
theorem dX7_tell_33 : decode cX7_tell 33 = .ok (.iconst 0, 1) := by decide +kernel
theorem dX7_tell_34 : decode cX7_tell 34 = .ok (.istore_n 1, 1) := by decide +kernel
theorem dX7_tell_35 : decode cX7_tell 35 = .ok (.iload_n 1, 1) := by decide +kernel
theorem dX7_tell_36 : decode cX7_tell 36 = .ok (.bipush 60, 2) := by decide +kernel
theorem dX7_tell_38 : decode cX7_tell 38 = .ok (.if_icmp .ge 21, 3) := by decide +kernel
theorem dX7_tell_41 : decode cX7_tell 41 = .ok (.aload_n 0, 1) := by decide +kernel
theorem dX7_tell_42 : decode cX7_tell 42 = .ok (.getfield 13, 3) := by decide +kernel
theorem dX7_tell_45 : decode cX7_tell 45 = .ok (.iload_n 1, 1) := by decide +kernel
theorem dX7_tell_46 : decode cX7_tell 46 = .ok (.aload_n 0, 1) := by decide +kernel
theorem dX7_tell_47 : decode cX7_tell 47 = .ok (.getfield 7, 3) := by decide +kernel
theorem dX7_tell_50 : decode cX7_tell 50 = .ok (.iload_n 1, 1) := by decide +kernel
theorem dX7_tell_51 : decode cX7_tell 51 = .ok (.iaload, 1) := by decide +kernel
theorem dX7_tell_52 : decode cX7_tell 52 = .ok (.iastore, 1) := by decide +kernel
theorem dX7_tell_53 : decode cX7_tell 53 = .ok (.iinc 1 1, 3) := by decide +kernel
theorem dX7_tell_56 : decode cX7_tell 56 = .ok (.goto (-21), 3) := by decide +kernel
theorem dX7_tell_59 : decode cX7_tell 59 = .ok (.iconst 0, 1) := by decide +kernel
theorem dX7_tell_60 : decode cX7_tell 60 = .ok (.istore_n 1, 1) := by decide +kernel
theorem dX7_tell_61 : decode cX7_tell 61 = .ok (.aload_n 0, 1) := by decide +kernel
theorem dX7_tell_62 : decode cX7_tell 62 = .ok (.getfield 89, 3) := by decide +kernel
theorem dX7_tell_65 : decode cX7_tell 65 = .ok (.ifCond .ne 63, 3) := by decide +kernel
theorem dX7_tell_68 : decode cX7_tell 68 = .ok (.aload_n 0, 1) := by decide +kernel
theorem dX7_tell_69 : decode cX7_tell 69 = .ok (.invokevirtual 92, 3) := by decide +kernel
theorem dX7_tell_72 : decode cX7_tell 72 = .ok (.iconst (-1), 1) := by decide +kernel
theorem dX7_tell_73 : decode cX7_tell 73 = .ok (.if_icmp .eq 55, 3) := by decide +kernel
theorem dX7_tell_76 : decode cX7_tell 76 = .ok (.aload_n 0, 1) := by decide +kernel
theorem dX7_tell_77 : decode cX7_tell 77 = .ok (.invokevirtual 140, 3) := by decide +kernel
theorem dX7_tell_80 : decode cX7_tell 80 = .ok (.aload_n 0, 1) := by decide +kernel
theorem dX7_tell_81 : decode cX7_tell 81 = .ok (.getfield 89, 3) := by decide +kernel
theorem dX7_tell_84 : decode cX7_tell 84 = .ok (.ifCond .ne 21, 3) := by decide +kernel
theorem dX7_tell_87 : decode cX7_tell 87 = .ok (.aload_n 0, 1) := by decide +kernel
theorem dX7_tell_88 : decode cX7_tell 88 = .ok (.invokevirtual 92, 3) := by decide +kernel
theorem dX7_tell_91 : decode cX7_tell 91 = .ok (.bipush 59, 2) := by decide +kernel
theorem dX7_tell_93 : decode cX7_tell 93 = .ok (.if_icmp .eq 12, 3) := by decide +kernel
theorem dX7_tell_96 : decode cX7_tell 96 = .ok (.aload_n 0, 1) := by decide +kernel
theorem dX7_tell_97 : decode cX7_tell 97 = .ok (.iconst 1, 1) := by decide +kernel
theorem dX7_tell_98 : decode cX7_tell 98 = .ok (.aload_n 0, 1) := by decide +kernel
theorem dX7_tell_99 : decode cX7_tell 99 = .ok (.getfield 83, 3) := by decide +kernel
theorem dX7_tell_102 : decode cX7_tell 102 = .ok (.invokevirtual 106, 3) := by decide +kernel
theorem dX7_tell_105 : decode cX7_tell 105 = .ok (.aload_n 0, 1) := by decide +kernel
theorem dX7_tell_106 : decode cX7_tell 106 = .ok (.dup, 1) := by decide +kernel
theorem dX7_tell_107 : decode cX7_tell 107 = .ok (.getfield 83, 3) := by decide +kernel
theorem dX7_tell_110 : decode cX7_tell 110 = .ok (.iconst 1, 1) := by decide +kernel
theorem dX7_tell_111 : decode cX7_tell 111 = .ok (.iadd, 1) := by decide +kernel
theorem dX7_tell_112 : decode cX7_tell 112 = .ok (.putfield 83, 3) := by decide +kernel
theorem dX7_tell_115 : decode cX7_tell 115 = .ok (.aload_n 0, 1) := by decide +kernel
theorem dX7_tell_116 : decode cX7_tell 116 = .ok (.getfield 89, 3) := by decide +kernel
theorem dX7_tell_119 : decode cX7_tell 119 = .ok (.ifCond .ne (-58), 3) := by decide +kernel
theorem dX7_tell_122 : decode cX7_tell 122 = .ok (.iinc 1 1, 3) := by decide +kernel
theorem dX7_tell_125 : decode cX7_tell 125 = .ok (.goto (-64), 3) := by decide +kernel
theorem dX7_tell_128 : decode cX7_tell 128 = .ok (.aload_n 0, 1) := by decide +kernel
theorem dX7_tell_129 : decode cX7_tell 129 = .ok (.getfield 89, 3) := by decide +kernel
theorem dX7_tell_132 : decode cX7_tell 132 = .ok (.ifCond .ne 5, 3) := by decide +kernel
theorem dX7_tell_135 : decode cX7_tell 135 = .ok (.iload_n 1, 1) := by decide +kernel
theorem dX7_tell_136 : decode cX7_tell 136 = .ok (.ireturn, 1) := by decide +kernel
theorem dX7_tell_137 : decode cX7_tell 137 = .ok (.aload_n 0, 1) := by decide +kernel
theorem dX7_tell_138 : decode cX7_tell 138 = .ok (.iload_n 1, 1) := by decide +kernel
theorem dX7_tell_139 : decode cX7_tell 139 = .ok (.putfield 20, 3) := by decide +kernel
theorem dX7_tell_142 : decode cX7_tell 142 = .ok (.iconst 0, 1) := by decide +kernel
theorem dX7_tell_143 : decode cX7_tell 143 = .ok (.istore_n 2, 1) := by decide +kernel
theorem dX7_tell_144 : decode cX7_tell 144 = .ok (.iload_n 2, 1) := by decide +kernel
theorem dX7_tell_145 : decode cX7_tell 145 = .ok (.bipush 60, 2) := by decide +kernel
theorem dX7_tell_147 : decode cX7_tell 147 = .ok (.if_icmp .ge 21, 3) := by decide +kernel
theorem dX7_tell_150 : decode cX7_tell 150 = .ok (.aload_n 0, 1) := by decide +kernel
theorem dX7_tell_151 : decode cX7_tell 151 = .ok (.getfield 7, 3) := by decide +kernel
theorem dX7_tell_154 : decode cX7_tell 154 = .ok (.iload_n 2, 1) := by decide +kernel
theorem dX7_tell_155 : decode cX7_tell 155 = .ok (.aload_n 0, 1) := by decide +kernel
theorem dX7_tell_156 : decode cX7_tell 156 = .ok (.getfield 13, 3) := by decide +kernel
theorem dX7_tell_159 : decode cX7_tell 159 = .ok (.iload_n 2, 1) := by decide +kernel
theorem dX7_tell_160 : decode cX7_tell 160 = .ok (.iaload, 1) := by decide +kernel
theorem dX7_tell_161 : decode cX7_tell 161 = .ok (.iastore, 1) := by decide +kernel
theorem dX7_tell_162 : decode cX7_tell 162 = .ok (.iinc 2 1, 3) := by decide +kernel
theorem dX7_tell_165 : decode cX7_tell 165 = .ok (.goto (-21), 3) := by decide +kernel
theorem dX7_tell_168 : decode cX7_tell 168 = .ok (.iconst (-1), 1) := by decide +kernel
theorem dX7_tell_169 : decode cX7_tell 169 = .ok (.ireturn, 1) := by decide +kernel
theorem dX7_fault_0 : decode cX7_fault 0 = .ok (.aload_n 0, 1) := by decide +kernel
theorem dX7_fault_1 : decode cX7_fault 1 = .ok (.iconst 0, 1) := by decide +kernel
theorem dX7_fault_2 : decode cX7_fault 2 = .ok (.putfield 43, 3) := by decide +kernel
theorem dX7_fault_5 : decode cX7_fault 5 = .ok (.iload_n 1, 1) := by decide +kernel
theorem dX7_fault_6 : decode cX7_fault 6 = .ok (.ifCond .ne 10, 3) := by decide +kernel
theorem dX7_fault_9 : decode cX7_fault 9 = .ok (.aload_n 0, 1) := by decide +kernel
theorem dX7_fault_10 : decode cX7_fault 10 = .ok (.getfield 89, 3) := by decide +kernel
theorem dX7_fault_13 : decode cX7_fault 13 = .ok (.goto 16, 3) := by decide +kernel
theorem dX7_fault_16 : decode cX7_fault 16 = .ok (.iload_n 1, 1) := by decide +kernel
theorem dX7_fault_17 : decode cX7_fault 17 = .ok (.iconst 1, 1) := by decide +kernel
theorem dX7_fault_18 : decode cX7_fault 18 = .ok (.if_icmp .ne 10, 3) := by decide +kernel
theorem dX7_fault_21 : decode cX7_fault 21 = .ok (.aload_n 0, 1) := by decide +kernel
theorem dX7_fault_22 : decode cX7_fault 22 = .ok (.getfield 20, 3) := by decide +kernel
theorem dX7_fault_25 : decode cX7_fault 25 = .ok (.goto 4, 3) := by decide +kernel
theorem dX7_fault_28 : decode cX7_fault 28 = .ok (.iconst (-1), 1) := by decide +kernel
theorem dX7_fault_29 : decode cX7_fault 29 = .ok (.ireturn, 1) := by decide +kernel
theorem dX7_clearsForm_0 : decode cX7_clearsForm 0 = .ok (.iconst 0, 1) := by decide +kernel
theorem dX7_clearsForm_1 : decode cX7_clearsForm 1 = .ok (.istore_n 1, 1) := by decide +kernel
theorem dX7_clearsForm_2 : decode cX7_clearsForm 2 = .ok (.iload_n 1, 1) := by decide +kernel
theorem dX7_clearsForm_3 : decode cX7_clearsForm 3 = .ok (.bipush 7, 2) := by decide +kernel
theorem dX7_clearsForm_5 : decode cX7_clearsForm 5 = .ok (.if_icmp .ge 16, 3) := by decide +kernel
theorem dX7_clearsForm_8 : decode cX7_clearsForm 8 = .ok (.aload_n 0, 1) := by decide +kernel
theorem dX7_clearsForm_9 : decode cX7_clearsForm 9 = .ok (.getfield 24, 3) := by decide +kernel
theorem dX7_clearsForm_12 : decode cX7_clearsForm 12 = .ok (.iload_n 1, 1) := by decide +kernel
theorem dX7_clearsForm_13 : decode cX7_clearsForm 13 = .ok (.iconst 0, 1) := by decide +kernel
theorem dX7_clearsForm_14 : decode cX7_clearsForm 14 = .ok (.iastore, 1) := by decide +kernel
theorem dX7_clearsForm_15 : decode cX7_clearsForm 15 = .ok (.iinc 1 1, 3) := by decide +kernel
theorem dX7_clearsForm_18 : decode cX7_clearsForm 18 = .ok (.goto (-16), 3) := by decide +kernel
theorem dX7_clearsForm_21 : decode cX7_clearsForm 21 = .ok (.return_, 1) := by decide +kernel
theorem dX7_formOf_0 : decode cX7_formOf 0 = .ok (.aload_n 0, 1) := by decide +kernel
theorem dX7_formOf_1 : decode cX7_formOf 1 = .ok (.invokevirtual 143, 3) := by decide +kernel
theorem dX7_formOf_4 : decode cX7_formOf 4 = .ok (.iconst 0, 1) := by decide +kernel
theorem dX7_formOf_5 : decode cX7_formOf 5 = .ok (.istore 4, 2) := by decide +kernel
theorem dX7_formOf_7 : decode cX7_formOf 7 = .ok (.iload 4, 2) := by decide +kernel
theorem dX7_formOf_9 : decode cX7_formOf 9 = .ok (.aload_n 0, 1) := by decide +kernel
theorem dX7_formOf_10 : decode cX7_formOf 10 = .ok (.invokevirtual 46, 3) := by decide +kernel
theorem dX7_formOf_13 : decode cX7_formOf 13 = .ok (.if_icmp .ge 43, 3) := by decide +kernel
theorem dX7_formOf_16 : decode cX7_formOf 16 = .ok (.aload_n 0, 1) := by decide +kernel
theorem dX7_formOf_17 : decode cX7_formOf 17 = .ok (.getfield 24, 3) := by decide +kernel
theorem dX7_formOf_20 : decode cX7_formOf 20 = .ok (.iload 4, 2) := by decide +kernel
theorem dX7_formOf_22 : decode cX7_formOf 22 = .ok (.iload_n 1, 1) := by decide +kernel
theorem dX7_formOf_23 : decode cX7_formOf 23 = .ok (.iload 4, 2) := by decide +kernel
theorem dX7_formOf_25 : decode cX7_formOf 25 = .ok (.invokestatic 116, 3) := by decide +kernel
theorem dX7_formOf_28 : decode cX7_formOf 28 = .ok (.ifCond .eq 7, 3) := by decide +kernel
theorem dX7_formOf_31 : decode cX7_formOf 31 = .ok (.iconst 1, 1) := by decide +kernel
theorem dX7_formOf_32 : decode cX7_formOf 32 = .ok (.goto 17, 3) := by decide +kernel
theorem dX7_formOf_35 : decode cX7_formOf 35 = .ok (.iload_n 2, 1) := by decide +kernel
theorem dX7_formOf_36 : decode cX7_formOf 36 = .ok (.iload 4, 2) := by decide +kernel
theorem dX7_formOf_38 : decode cX7_formOf 38 = .ok (.invokestatic 116, 3) := by decide +kernel
theorem dX7_formOf_41 : decode cX7_formOf 41 = .ok (.ifCond .eq 7, 3) := by decide +kernel
theorem dX7_formOf_44 : decode cX7_formOf 44 = .ok (.iconst (-1), 1) := by decide +kernel
theorem dX7_formOf_45 : decode cX7_formOf 45 = .ok (.goto 4, 3) := by decide +kernel
theorem dX7_formOf_48 : decode cX7_formOf 48 = .ok (.iconst 0, 1) := by decide +kernel
theorem dX7_formOf_49 : decode cX7_formOf 49 = .ok (.iastore, 1) := by decide +kernel
theorem dX7_formOf_50 : decode cX7_formOf 50 = .ok (.iinc 4 1, 3) := by decide +kernel
theorem dX7_formOf_53 : decode cX7_formOf 53 = .ok (.goto (-46), 3) := by decide +kernel
theorem dX7_formOf_56 : decode cX7_formOf 56 = .ok (.aload_n 0, 1) := by decide +kernel
theorem dX7_formOf_57 : decode cX7_formOf 57 = .ok (.getfield 24, 3) := by decide +kernel
theorem dX7_formOf_60 : decode cX7_formOf 60 = .ok (.aload_n 0, 1) := by decide +kernel
theorem dX7_formOf_61 : decode cX7_formOf 61 = .ok (.invokevirtual 46, 3) := by decide +kernel
theorem dX7_formOf_64 : decode cX7_formOf 64 = .ok (.iload_n 3, 1) := by decide +kernel
theorem dX7_formOf_65 : decode cX7_formOf 65 = .ok (.iastore, 1) := by decide +kernel
theorem dX7_formOf_66 : decode cX7_formOf 66 = .ok (.return_, 1) := by decide +kernel
theorem dX7_difference_0 : decode cX7_difference 0 = .ok (.aload_n 0, 1) := by decide +kernel
theorem dX7_difference_1 : decode cX7_difference 1 = .ok (.invokevirtual 143, 3) := by decide +kernel
theorem dX7_difference_4 : decode cX7_difference 4 = .ok (.iload_n 1, 1) := by decide +kernel
theorem dX7_difference_5 : decode cX7_difference 5 = .ok (.iload_n 2, 1) := by decide +kernel
theorem dX7_difference_6 : decode cX7_difference 6 = .ok (.if_icmp .ne 4, 3) := by decide +kernel
theorem dX7_difference_9 : decode cX7_difference 9 = .ok (.return_, 1) := by decide +kernel
theorem dX7_difference_10 : decode cX7_difference 10 = .ok (.aload_n 0, 1) := by decide +kernel
theorem dX7_difference_11 : decode cX7_difference 11 = .ok (.getfield 24, 3) := by decide +kernel
theorem dX7_difference_14 : decode cX7_difference 14 = .ok (.iload_n 1, 1) := by decide +kernel
theorem dX7_difference_15 : decode cX7_difference 15 = .ok (.iconst 1, 1) := by decide +kernel
theorem dX7_difference_16 : decode cX7_difference 16 = .ok (.iastore, 1) := by decide +kernel
theorem dX7_difference_17 : decode cX7_difference 17 = .ok (.aload_n 0, 1) := by decide +kernel
theorem dX7_difference_18 : decode cX7_difference 18 = .ok (.getfield 24, 3) := by decide +kernel
theorem dX7_difference_21 : decode cX7_difference 21 = .ok (.iload_n 2, 1) := by decide +kernel
theorem dX7_difference_22 : decode cX7_difference 22 = .ok (.iconst (-1), 1) := by decide +kernel
theorem dX7_difference_23 : decode cX7_difference 23 = .ok (.iastore, 1) := by decide +kernel
theorem dX7_difference_24 : decode cX7_difference 24 = .ok (.return_, 1) := by decide +kernel
theorem dX7_comes_0 : decode cX7_comes 0 = .ok (.iconst 0, 1) := by decide +kernel
theorem dX7_comes_1 : decode cX7_comes 1 = .ok (.istore_n 2, 1) := by decide +kernel
theorem dX7_comes_2 : decode cX7_comes 2 = .ok (.iload_n 2, 1) := by decide +kernel
theorem dX7_comes_3 : decode cX7_comes 3 = .ok (.aload_n 0, 1) := by decide +kernel
theorem dX7_comes_4 : decode cX7_comes 4 = .ok (.getfield 146, 3) := by decide +kernel
theorem dX7_comes_7 : decode cX7_comes 7 = .ok (.if_icmp .ge 72, 3) := by decide +kernel
theorem dX7_comes_10 : decode cX7_comes 10 = .ok (.iconst 0, 1) := by decide +kernel
theorem dX7_comes_11 : decode cX7_comes 11 = .ok (.istore_n 3, 1) := by decide +kernel
theorem dX7_comes_12 : decode cX7_comes 12 = .ok (.iload_n 3, 1) := by decide +kernel
theorem dX7_comes_13 : decode cX7_comes 13 = .ok (.aload_n 0, 1) := by decide +kernel
theorem dX7_comes_14 : decode cX7_comes 14 = .ok (.getfield 146, 3) := by decide +kernel
theorem dX7_comes_17 : decode cX7_comes 17 = .ok (.if_icmp .ge 37, 3) := by decide +kernel
theorem dX7_comes_20 : decode cX7_comes 20 = .ok (.aload_n 0, 1) := by decide +kernel
theorem dX7_comes_21 : decode cX7_comes 21 = .ok (.getfield 27, 3) := by decide +kernel
theorem dX7_comes_24 : decode cX7_comes 24 = .ok (.bipush 7, 2) := by decide +kernel
theorem dX7_comes_26 : decode cX7_comes 26 = .ok (.iload_n 2, 1) := by decide +kernel
theorem dX7_comes_27 : decode cX7_comes 27 = .ok (.imul, 1) := by decide +kernel
theorem dX7_comes_28 : decode cX7_comes 28 = .ok (.iload_n 3, 1) := by decide +kernel
theorem dX7_comes_29 : decode cX7_comes 29 = .ok (.iadd, 1) := by decide +kernel
theorem dX7_comes_30 : decode cX7_comes 30 = .ok (.dup2, 1) := by decide +kernel
theorem dX7_comes_31 : decode cX7_comes 31 = .ok (.laload, 1) := by decide +kernel
theorem dX7_comes_32 : decode cX7_comes 32 = .ok (.aload_n 0, 1) := by decide +kernel
theorem dX7_comes_33 : decode cX7_comes 33 = .ok (.getfield 24, 3) := by decide +kernel
theorem dX7_comes_36 : decode cX7_comes 36 = .ok (.iload_n 2, 1) := by decide +kernel
theorem dX7_comes_37 : decode cX7_comes 37 = .ok (.iaload, 1) := by decide +kernel
theorem dX7_comes_38 : decode cX7_comes 38 = .ok (.aload_n 0, 1) := by decide +kernel
theorem dX7_comes_39 : decode cX7_comes 39 = .ok (.getfield 24, 3) := by decide +kernel
theorem dX7_comes_42 : decode cX7_comes 42 = .ok (.iload_n 3, 1) := by decide +kernel
theorem dX7_comes_43 : decode cX7_comes 43 = .ok (.iaload, 1) := by decide +kernel
theorem dX7_comes_44 : decode cX7_comes 44 = .ok (.imul, 1) := by decide +kernel
theorem dX7_comes_45 : decode cX7_comes 45 = .ok (.i2l, 1) := by decide +kernel
theorem dX7_comes_46 : decode cX7_comes 46 = .ok (.ladd, 1) := by decide +kernel
theorem dX7_comes_47 : decode cX7_comes 47 = .ok (.lastore, 1) := by decide +kernel
theorem dX7_comes_48 : decode cX7_comes 48 = .ok (.iinc 3 1, 3) := by decide +kernel
theorem dX7_comes_51 : decode cX7_comes 51 = .ok (.goto (-39), 3) := by decide +kernel
theorem dX7_comes_54 : decode cX7_comes 54 = .ok (.aload_n 0, 1) := by decide +kernel
theorem dX7_comes_55 : decode cX7_comes 55 = .ok (.getfield 31, 3) := by decide +kernel
theorem dX7_comes_58 : decode cX7_comes 58 = .ok (.iload_n 2, 1) := by decide +kernel
theorem dX7_comes_59 : decode cX7_comes 59 = .ok (.dup2, 1) := by decide +kernel
theorem dX7_comes_60 : decode cX7_comes 60 = .ok (.laload, 1) := by decide +kernel
theorem dX7_comes_61 : decode cX7_comes 61 = .ok (.aload_n 0, 1) := by decide +kernel
theorem dX7_comes_62 : decode cX7_comes 62 = .ok (.getfield 24, 3) := by decide +kernel
theorem dX7_comes_65 : decode cX7_comes 65 = .ok (.iload_n 2, 1) := by decide +kernel
theorem dX7_comes_66 : decode cX7_comes 66 = .ok (.iaload, 1) := by decide +kernel
theorem dX7_comes_67 : decode cX7_comes 67 = .ok (.i2l, 1) := by decide +kernel
theorem dX7_comes_68 : decode cX7_comes 68 = .ok (.iload_n 1, 1) := by decide +kernel
theorem dX7_comes_69 : decode cX7_comes 69 = .ok (.i2l, 1) := by decide +kernel
theorem dX7_comes_70 : decode cX7_comes 70 = .ok (.lmul, 1) := by decide +kernel
theorem dX7_comes_71 : decode cX7_comes 71 = .ok (.ladd, 1) := by decide +kernel
theorem dX7_comes_72 : decode cX7_comes 72 = .ok (.lastore, 1) := by decide +kernel
theorem dX7_comes_73 : decode cX7_comes 73 = .ok (.iinc 2 1, 3) := by decide +kernel
theorem dX7_comes_76 : decode cX7_comes 76 = .ok (.goto (-74), 3) := by decide +kernel
theorem dX7_comes_79 : decode cX7_comes 79 = .ok (.return_, 1) := by decide +kernel
theorem dX7_lays_0 : decode cX7_lays 0 = .ok (.aload_n 0, 1) := by decide +kernel
theorem dX7_lays_1 : decode cX7_lays 1 = .ok (.aload_n 0, 1) := by decide +kernel
theorem dX7_lays_2 : decode cX7_lays 2 = .ok (.invokevirtual 46, 3) := by decide +kernel
theorem dX7_lays_5 : decode cX7_lays 5 = .ok (.iconst 1, 1) := by decide +kernel
theorem dX7_lays_6 : decode cX7_lays 6 = .ok (.iadd, 1) := by decide +kernel
theorem dX7_lays_7 : decode cX7_lays 7 = .ok (.putfield 146, 3) := by decide +kernel
theorem dX7_lays_10 : decode cX7_lays 10 = .ok (.iconst 0, 1) := by decide +kernel
theorem dX7_lays_11 : decode cX7_lays 11 = .ok (.istore_n 1, 1) := by decide +kernel
theorem dX7_lays_12 : decode cX7_lays 12 = .ok (.iload_n 1, 1) := by decide +kernel
theorem dX7_lays_13 : decode cX7_lays 13 = .ok (.bipush 49, 2) := by decide +kernel
theorem dX7_lays_15 : decode cX7_lays 15 = .ok (.if_icmp .ge 16, 3) := by decide +kernel
theorem dX7_lays_18 : decode cX7_lays 18 = .ok (.aload_n 0, 1) := by decide +kernel
theorem dX7_lays_19 : decode cX7_lays 19 = .ok (.getfield 27, 3) := by decide +kernel
theorem dX7_lays_22 : decode cX7_lays 22 = .ok (.iload_n 1, 1) := by decide +kernel
theorem dX7_lays_23 : decode cX7_lays 23 = .ok (.lconst 0, 1) := by decide +kernel
theorem dX7_lays_24 : decode cX7_lays 24 = .ok (.lastore, 1) := by decide +kernel
theorem dX7_lays_25 : decode cX7_lays 25 = .ok (.iinc 1 1, 3) := by decide +kernel
theorem dX7_lays_28 : decode cX7_lays 28 = .ok (.goto (-16), 3) := by decide +kernel
theorem dX7_lays_31 : decode cX7_lays 31 = .ok (.iconst 0, 1) := by decide +kernel
theorem dX7_lays_32 : decode cX7_lays 32 = .ok (.istore_n 1, 1) := by decide +kernel
theorem dX7_lays_33 : decode cX7_lays 33 = .ok (.iload_n 1, 1) := by decide +kernel
theorem dX7_lays_34 : decode cX7_lays 34 = .ok (.bipush 7, 2) := by decide +kernel
theorem dX7_lays_36 : decode cX7_lays 36 = .ok (.if_icmp .ge 16, 3) := by decide +kernel
theorem dX7_lays_39 : decode cX7_lays 39 = .ok (.aload_n 0, 1) := by decide +kernel
theorem dX7_lays_40 : decode cX7_lays 40 = .ok (.getfield 31, 3) := by decide +kernel
theorem dX7_lays_43 : decode cX7_lays 43 = .ok (.iload_n 1, 1) := by decide +kernel
theorem dX7_lays_44 : decode cX7_lays 44 = .ok (.lconst 0, 1) := by decide +kernel
theorem dX7_lays_45 : decode cX7_lays 45 = .ok (.lastore, 1) := by decide +kernel
theorem dX7_lays_46 : decode cX7_lays 46 = .ok (.iinc 1 1, 3) := by decide +kernel
theorem dX7_lays_49 : decode cX7_lays 49 = .ok (.goto (-16), 3) := by decide +kernel
theorem dX7_lays_52 : decode cX7_lays 52 = .ok (.iconst 0, 1) := by decide +kernel
theorem dX7_lays_53 : decode cX7_lays 53 = .ok (.istore_n 1, 1) := by decide +kernel
theorem dX7_lays_54 : decode cX7_lays 54 = .ok (.iload_n 1, 1) := by decide +kernel
theorem dX7_lays_55 : decode cX7_lays 55 = .ok (.aload_n 0, 1) := by decide +kernel
theorem dX7_lays_56 : decode cX7_lays 56 = .ok (.invokevirtual 58, 3) := by decide +kernel
theorem dX7_lays_59 : decode cX7_lays 59 = .ok (.if_icmp .ge 41, 3) := by decide +kernel
theorem dX7_lays_62 : decode cX7_lays 62 = .ok (.aload_n 0, 1) := by decide +kernel
theorem dX7_lays_63 : decode cX7_lays 63 = .ok (.aload_n 0, 1) := by decide +kernel
theorem dX7_lays_64 : decode cX7_lays 64 = .ok (.iload_n 1, 1) := by decide +kernel
theorem dX7_lays_65 : decode cX7_lays 65 = .ok (.iconst 0, 1) := by decide +kernel
theorem dX7_lays_66 : decode cX7_lays 66 = .ok (.invokevirtual 73, 3) := by decide +kernel
theorem dX7_lays_69 : decode cX7_lays 69 = .ok (.aload_n 0, 1) := by decide +kernel
theorem dX7_lays_70 : decode cX7_lays 70 = .ok (.iload_n 1, 1) := by decide +kernel
theorem dX7_lays_71 : decode cX7_lays 71 = .ok (.iconst 1, 1) := by decide +kernel
theorem dX7_lays_72 : decode cX7_lays 72 = .ok (.invokevirtual 73, 3) := by decide +kernel
theorem dX7_lays_75 : decode cX7_lays 75 = .ok (.aload_n 0, 1) := by decide +kernel
theorem dX7_lays_76 : decode cX7_lays 76 = .ok (.iload_n 1, 1) := by decide +kernel
theorem dX7_lays_77 : decode cX7_lays 77 = .ok (.iconst 3, 1) := by decide +kernel
theorem dX7_lays_78 : decode cX7_lays 78 = .ok (.invokevirtual 73, 3) := by decide +kernel
theorem dX7_lays_81 : decode cX7_lays 81 = .ok (.invokevirtual 149, 3) := by decide +kernel
theorem dX7_lays_84 : decode cX7_lays 84 = .ok (.aload_n 0, 1) := by decide +kernel
theorem dX7_lays_85 : decode cX7_lays 85 = .ok (.aload_n 0, 1) := by decide +kernel
theorem dX7_lays_86 : decode cX7_lays 86 = .ok (.iload_n 1, 1) := by decide +kernel
theorem dX7_lays_87 : decode cX7_lays 87 = .ok (.iconst 2, 1) := by decide +kernel
theorem dX7_lays_88 : decode cX7_lays 88 = .ok (.invokevirtual 73, 3) := by decide +kernel
theorem dX7_lays_91 : decode cX7_lays 91 = .ok (.invokevirtual 153, 3) := by decide +kernel
theorem dX7_lays_94 : decode cX7_lays 94 = .ok (.iinc 1 1, 3) := by decide +kernel
theorem dX7_lays_97 : decode cX7_lays 97 = .ok (.goto (-43), 3) := by decide +kernel
theorem dX7_lays_100 : decode cX7_lays 100 = .ok (.return_, 1) := by decide +kernel
theorem dX7_rowAt_0 : decode cX7_rowAt 0 = .ok (.aload_n 0, 1) := by decide +kernel
theorem dX7_rowAt_1 : decode cX7_rowAt 1 = .ok (.getfield 34, 3) := by decide +kernel
theorem dX7_rowAt_4 : decode cX7_rowAt 4 = .ok (.bipush 8, 2) := by decide +kernel
theorem dX7_rowAt_6 : decode cX7_rowAt 6 = .ok (.iload_n 1, 1) := by decide +kernel
theorem dX7_rowAt_7 : decode cX7_rowAt 7 = .ok (.imul, 1) := by decide +kernel
theorem dX7_rowAt_8 : decode cX7_rowAt 8 = .ok (.iload_n 2, 1) := by decide +kernel
theorem dX7_rowAt_9 : decode cX7_rowAt 9 = .ok (.iadd, 1) := by decide +kernel
theorem dX7_rowAt_10 : decode cX7_rowAt 10 = .ok (.laload, 1) := by decide +kernel
theorem dX7_rowAt_11 : decode cX7_rowAt 11 = .ok (.lreturn, 1) := by decide +kernel
theorem dX7_swaps_0 : decode cX7_swaps 0 = .ok (.iconst 0, 1) := by decide +kernel
theorem dX7_swaps_1 : decode cX7_swaps 1 = .ok (.istore_n 3, 1) := by decide +kernel
theorem dX7_swaps_2 : decode cX7_swaps 2 = .ok (.iload_n 3, 1) := by decide +kernel
theorem dX7_swaps_3 : decode cX7_swaps 3 = .ok (.aload_n 0, 1) := by decide +kernel
theorem dX7_swaps_4 : decode cX7_swaps 4 = .ok (.getfield 146, 3) := by decide +kernel
theorem dX7_swaps_7 : decode cX7_swaps 7 = .ok (.if_icmp .gt 57, 3) := by decide +kernel
theorem dX7_swaps_10 : decode cX7_swaps 10 = .ok (.aload_n 0, 1) := by decide +kernel
theorem dX7_swaps_11 : decode cX7_swaps 11 = .ok (.getfield 34, 3) := by decide +kernel
theorem dX7_swaps_14 : decode cX7_swaps 14 = .ok (.bipush 8, 2) := by decide +kernel
theorem dX7_swaps_16 : decode cX7_swaps 16 = .ok (.iload_n 1, 1) := by decide +kernel
theorem dX7_swaps_17 : decode cX7_swaps 17 = .ok (.imul, 1) := by decide +kernel
theorem dX7_swaps_18 : decode cX7_swaps 18 = .ok (.iload_n 3, 1) := by decide +kernel
theorem dX7_swaps_19 : decode cX7_swaps 19 = .ok (.iadd, 1) := by decide +kernel
theorem dX7_swaps_20 : decode cX7_swaps 20 = .ok (.laload, 1) := by decide +kernel
theorem dX7_swaps_21 : decode cX7_swaps 21 = .ok (.lstore 4, 2) := by decide +kernel
theorem dX7_swaps_23 : decode cX7_swaps 23 = .ok (.aload_n 0, 1) := by decide +kernel
theorem dX7_swaps_24 : decode cX7_swaps 24 = .ok (.getfield 34, 3) := by decide +kernel
theorem dX7_swaps_27 : decode cX7_swaps 27 = .ok (.bipush 8, 2) := by decide +kernel
theorem dX7_swaps_29 : decode cX7_swaps 29 = .ok (.iload_n 1, 1) := by decide +kernel
theorem dX7_swaps_30 : decode cX7_swaps 30 = .ok (.imul, 1) := by decide +kernel
theorem dX7_swaps_31 : decode cX7_swaps 31 = .ok (.iload_n 3, 1) := by decide +kernel
theorem dX7_swaps_32 : decode cX7_swaps 32 = .ok (.iadd, 1) := by decide +kernel
theorem dX7_swaps_33 : decode cX7_swaps 33 = .ok (.aload_n 0, 1) := by decide +kernel
theorem dX7_swaps_34 : decode cX7_swaps 34 = .ok (.getfield 34, 3) := by decide +kernel
theorem dX7_swaps_37 : decode cX7_swaps 37 = .ok (.bipush 8, 2) := by decide +kernel
theorem dX7_swaps_39 : decode cX7_swaps 39 = .ok (.iload_n 2, 1) := by decide +kernel
theorem dX7_swaps_40 : decode cX7_swaps 40 = .ok (.imul, 1) := by decide +kernel
theorem dX7_swaps_41 : decode cX7_swaps 41 = .ok (.iload_n 3, 1) := by decide +kernel
theorem dX7_swaps_42 : decode cX7_swaps 42 = .ok (.iadd, 1) := by decide +kernel
theorem dX7_swaps_43 : decode cX7_swaps 43 = .ok (.laload, 1) := by decide +kernel
theorem dX7_swaps_44 : decode cX7_swaps 44 = .ok (.lastore, 1) := by decide +kernel
theorem dX7_swaps_45 : decode cX7_swaps 45 = .ok (.aload_n 0, 1) := by decide +kernel
theorem dX7_swaps_46 : decode cX7_swaps 46 = .ok (.getfield 34, 3) := by decide +kernel
theorem dX7_swaps_49 : decode cX7_swaps 49 = .ok (.bipush 8, 2) := by decide +kernel
theorem dX7_swaps_51 : decode cX7_swaps 51 = .ok (.iload_n 2, 1) := by decide +kernel
theorem dX7_swaps_52 : decode cX7_swaps 52 = .ok (.imul, 1) := by decide +kernel
theorem dX7_swaps_53 : decode cX7_swaps 53 = .ok (.iload_n 3, 1) := by decide +kernel
theorem dX7_swaps_54 : decode cX7_swaps 54 = .ok (.iadd, 1) := by decide +kernel
theorem dX7_swaps_55 : decode cX7_swaps 55 = .ok (.lload 4, 2) := by decide +kernel
theorem dX7_swaps_57 : decode cX7_swaps 57 = .ok (.lastore, 1) := by decide +kernel
theorem dX7_swaps_58 : decode cX7_swaps 58 = .ok (.iinc 3 1, 3) := by decide +kernel
theorem dX7_swaps_61 : decode cX7_swaps 61 = .ok (.goto (-59), 3) := by decide +kernel
theorem dX7_swaps_64 : decode cX7_swaps 64 = .ok (.return_, 1) := by decide +kernel
theorem dX7_solves_0 : decode cX7_solves 0 = .ok (.aload_n 0, 1) := by decide +kernel
theorem dX7_solves_1 : decode cX7_solves 1 = .ok (.iconst 0, 1) := by decide +kernel
theorem dX7_solves_2 : decode cX7_solves 2 = .ok (.putfield 156, 3) := by decide +kernel
theorem dX7_solves_5 : decode cX7_solves 5 = .ok (.aload_n 0, 1) := by decide +kernel
theorem dX7_solves_6 : decode cX7_solves 6 = .ok (.lconst 1, 1) := by decide +kernel
theorem dX7_solves_7 : decode cX7_solves 7 = .ok (.putfield 159, 3) := by decide +kernel
theorem dX7_solves_10 : decode cX7_solves 10 = .ok (.iconst 0, 1) := by decide +kernel
theorem dX7_solves_11 : decode cX7_solves 11 = .ok (.istore_n 1, 1) := by decide +kernel
theorem dX7_solves_12 : decode cX7_solves 12 = .ok (.iload_n 1, 1) := by decide +kernel
theorem dX7_solves_13 : decode cX7_solves 13 = .ok (.aload_n 0, 1) := by decide +kernel
theorem dX7_solves_14 : decode cX7_solves 14 = .ok (.getfield 146, 3) := by decide +kernel
theorem dX7_solves_17 : decode cX7_solves 17 = .ok (.if_icmp .ge 190, 3) := by decide +kernel
theorem dX7_solves_20 : decode cX7_solves 20 = .ok (.aload_n 0, 1) := by decide +kernel
theorem dX7_solves_21 : decode cX7_solves 21 = .ok (.getfield 156, 3) := by decide +kernel
theorem dX7_solves_24 : decode cX7_solves 24 = .ok (.istore_n 2, 1) := by decide +kernel
theorem dX7_solves_25 : decode cX7_solves 25 = .ok (.iload_n 2, 1) := by decide +kernel
theorem dX7_solves_26 : decode cX7_solves 26 = .ok (.aload_n 0, 1) := by decide +kernel
theorem dX7_solves_27 : decode cX7_solves 27 = .ok (.getfield 146, 3) := by decide +kernel
theorem dX7_solves_30 : decode cX7_solves 30 = .ok (.if_icmp .ge 20, 3) := by decide +kernel
theorem dX7_solves_33 : decode cX7_solves 33 = .ok (.aload_n 0, 1) := by decide +kernel
theorem dX7_solves_34 : decode cX7_solves 34 = .ok (.iload_n 2, 1) := by decide +kernel
theorem dX7_solves_35 : decode cX7_solves 35 = .ok (.iload_n 1, 1) := by decide +kernel
theorem dX7_solves_36 : decode cX7_solves 36 = .ok (.invokevirtual 163, 3) := by decide +kernel
theorem dX7_solves_39 : decode cX7_solves 39 = .ok (.lconst 0, 1) := by decide +kernel
theorem dX7_solves_40 : decode cX7_solves 40 = .ok (.lcmp, 1) := by decide +kernel
theorem dX7_solves_41 : decode cX7_solves 41 = .ok (.ifCond .ne 9, 3) := by decide +kernel
theorem dX7_solves_44 : decode cX7_solves 44 = .ok (.iinc 2 1, 3) := by decide +kernel
theorem dX7_solves_47 : decode cX7_solves 47 = .ok (.goto (-22), 3) := by decide +kernel
theorem dX7_solves_50 : decode cX7_solves 50 = .ok (.iload_n 2, 1) := by decide +kernel
theorem dX7_solves_51 : decode cX7_solves 51 = .ok (.aload_n 0, 1) := by decide +kernel
theorem dX7_solves_52 : decode cX7_solves 52 = .ok (.getfield 146, 3) := by decide +kernel
theorem dX7_solves_55 : decode cX7_solves 55 = .ok (.if_icmp .ne 6, 3) := by decide +kernel
theorem dX7_solves_58 : decode cX7_solves 58 = .ok (.goto 143, 3) := by decide +kernel
theorem dX7_solves_61 : decode cX7_solves 61 = .ok (.aload_n 0, 1) := by decide +kernel
theorem dX7_solves_62 : decode cX7_solves 62 = .ok (.aload_n 0, 1) := by decide +kernel
theorem dX7_solves_63 : decode cX7_solves 63 = .ok (.getfield 156, 3) := by decide +kernel
theorem dX7_solves_66 : decode cX7_solves 66 = .ok (.iload_n 2, 1) := by decide +kernel
theorem dX7_solves_67 : decode cX7_solves 67 = .ok (.invokevirtual 167, 3) := by decide +kernel
theorem dX7_solves_70 : decode cX7_solves 70 = .ok (.aload_n 0, 1) := by decide +kernel
theorem dX7_solves_71 : decode cX7_solves 71 = .ok (.aload_n 0, 1) := by decide +kernel
theorem dX7_solves_72 : decode cX7_solves 72 = .ok (.getfield 156, 3) := by decide +kernel
theorem dX7_solves_75 : decode cX7_solves 75 = .ok (.iload_n 1, 1) := by decide +kernel
theorem dX7_solves_76 : decode cX7_solves 76 = .ok (.invokevirtual 163, 3) := by decide +kernel
theorem dX7_solves_79 : decode cX7_solves 79 = .ok (.lstore_n 3, 1) := by decide +kernel
theorem dX7_solves_80 : decode cX7_solves 80 = .ok (.iconst 0, 1) := by decide +kernel
theorem dX7_solves_81 : decode cX7_solves 81 = .ok (.istore 5, 2) := by decide +kernel
theorem dX7_solves_83 : decode cX7_solves 83 = .ok (.iload 5, 2) := by decide +kernel
theorem dX7_solves_85 : decode cX7_solves 85 = .ok (.aload_n 0, 1) := by decide +kernel
theorem dX7_solves_86 : decode cX7_solves 86 = .ok (.getfield 146, 3) := by decide +kernel
theorem dX7_solves_89 : decode cX7_solves 89 = .ok (.if_icmp .ge 87, 3) := by decide +kernel
theorem dX7_solves_92 : decode cX7_solves 92 = .ok (.aload_n 0, 1) := by decide +kernel
theorem dX7_solves_93 : decode cX7_solves 93 = .ok (.iload 5, 2) := by decide +kernel
theorem dX7_solves_95 : decode cX7_solves 95 = .ok (.iload_n 1, 1) := by decide +kernel
theorem dX7_solves_96 : decode cX7_solves 96 = .ok (.invokevirtual 163, 3) := by decide +kernel
theorem dX7_solves_99 : decode cX7_solves 99 = .ok (.lstore 6, 2) := by decide +kernel
theorem dX7_solves_101 : decode cX7_solves 101 = .ok (.iconst 0, 1) := by decide +kernel
theorem dX7_solves_102 : decode cX7_solves 102 = .ok (.istore 8, 2) := by decide +kernel
theorem dX7_solves_104 : decode cX7_solves 104 = .ok (.iload 8, 2) := by decide +kernel
theorem dX7_solves_106 : decode cX7_solves 106 = .ok (.aload_n 0, 1) := by decide +kernel
theorem dX7_solves_107 : decode cX7_solves 107 = .ok (.getfield 146, 3) := by decide +kernel
theorem dX7_solves_110 : decode cX7_solves 110 = .ok (.if_icmp .gt 60, 3) := by decide +kernel
theorem dX7_solves_113 : decode cX7_solves 113 = .ok (.iload 5, 2) := by decide +kernel
theorem dX7_solves_115 : decode cX7_solves 115 = .ok (.aload_n 0, 1) := by decide +kernel
theorem dX7_solves_116 : decode cX7_solves 116 = .ok (.getfield 156, 3) := by decide +kernel
theorem dX7_solves_119 : decode cX7_solves 119 = .ok (.if_icmp .eq 51, 3) := by decide +kernel
theorem dX7_solves_122 : decode cX7_solves 122 = .ok (.aload_n 0, 1) := by decide +kernel
theorem dX7_solves_123 : decode cX7_solves 123 = .ok (.getfield 34, 3) := by decide +kernel
theorem dX7_solves_126 : decode cX7_solves 126 = .ok (.bipush 8, 2) := by decide +kernel
theorem dX7_solves_128 : decode cX7_solves 128 = .ok (.iload 5, 2) := by decide +kernel
theorem dX7_solves_130 : decode cX7_solves 130 = .ok (.imul, 1) := by decide +kernel
theorem dX7_solves_131 : decode cX7_solves 131 = .ok (.iload 8, 2) := by decide +kernel
theorem dX7_solves_133 : decode cX7_solves 133 = .ok (.iadd, 1) := by decide +kernel
theorem dX7_solves_134 : decode cX7_solves 134 = .ok (.lload_n 3, 1) := by decide +kernel
theorem dX7_solves_135 : decode cX7_solves 135 = .ok (.aload_n 0, 1) := by decide +kernel
theorem dX7_solves_136 : decode cX7_solves 136 = .ok (.iload 5, 2) := by decide +kernel
theorem dX7_solves_138 : decode cX7_solves 138 = .ok (.iload 8, 2) := by decide +kernel
theorem dX7_solves_140 : decode cX7_solves 140 = .ok (.invokevirtual 163, 3) := by decide +kernel
theorem dX7_solves_143 : decode cX7_solves 143 = .ok (.lmul, 1) := by decide +kernel
theorem dX7_solves_144 : decode cX7_solves 144 = .ok (.lload 6, 2) := by decide +kernel
theorem dX7_solves_146 : decode cX7_solves 146 = .ok (.aload_n 0, 1) := by decide +kernel
theorem dX7_solves_147 : decode cX7_solves 147 = .ok (.aload_n 0, 1) := by decide +kernel
theorem dX7_solves_148 : decode cX7_solves 148 = .ok (.getfield 156, 3) := by decide +kernel
theorem dX7_solves_151 : decode cX7_solves 151 = .ok (.iload 8, 2) := by decide +kernel
theorem dX7_solves_153 : decode cX7_solves 153 = .ok (.invokevirtual 163, 3) := by decide +kernel
theorem dX7_solves_156 : decode cX7_solves 156 = .ok (.lmul, 1) := by decide +kernel
theorem dX7_solves_157 : decode cX7_solves 157 = .ok (.lsub, 1) := by decide +kernel
theorem dX7_solves_158 : decode cX7_solves 158 = .ok (.aload_n 0, 1) := by decide +kernel
theorem dX7_solves_159 : decode cX7_solves 159 = .ok (.getfield 159, 3) := by decide +kernel
theorem dX7_solves_162 : decode cX7_solves 162 = .ok (.ldiv, 1) := by decide +kernel
theorem dX7_solves_163 : decode cX7_solves 163 = .ok (.lastore, 1) := by decide +kernel
theorem dX7_solves_164 : decode cX7_solves 164 = .ok (.iinc 8 1, 3) := by decide +kernel
theorem dX7_solves_167 : decode cX7_solves 167 = .ok (.goto (-63), 3) := by decide +kernel
theorem dX7_solves_170 : decode cX7_solves 170 = .ok (.iinc 5 1, 3) := by decide +kernel
theorem dX7_solves_173 : decode cX7_solves 173 = .ok (.goto (-90), 3) := by decide +kernel
theorem dX7_solves_176 : decode cX7_solves 176 = .ok (.aload_n 0, 1) := by decide +kernel
theorem dX7_solves_177 : decode cX7_solves 177 = .ok (.lload_n 3, 1) := by decide +kernel
theorem dX7_solves_178 : decode cX7_solves 178 = .ok (.putfield 159, 3) := by decide +kernel
theorem dX7_solves_181 : decode cX7_solves 181 = .ok (.aload_n 0, 1) := by decide +kernel
theorem dX7_solves_182 : decode cX7_solves 182 = .ok (.getfield 40, 3) := by decide +kernel
theorem dX7_solves_185 : decode cX7_solves 185 = .ok (.aload_n 0, 1) := by decide +kernel
theorem dX7_solves_186 : decode cX7_solves 186 = .ok (.getfield 156, 3) := by decide +kernel
theorem dX7_solves_189 : decode cX7_solves 189 = .ok (.iload_n 1, 1) := by decide +kernel
theorem dX7_solves_190 : decode cX7_solves 190 = .ok (.iastore, 1) := by decide +kernel
theorem dX7_solves_191 : decode cX7_solves 191 = .ok (.aload_n 0, 1) := by decide +kernel
theorem dX7_solves_192 : decode cX7_solves 192 = .ok (.dup, 1) := by decide +kernel
theorem dX7_solves_193 : decode cX7_solves 193 = .ok (.getfield 156, 3) := by decide +kernel
theorem dX7_solves_196 : decode cX7_solves 196 = .ok (.iconst 1, 1) := by decide +kernel
theorem dX7_solves_197 : decode cX7_solves 197 = .ok (.iadd, 1) := by decide +kernel
theorem dX7_solves_198 : decode cX7_solves 198 = .ok (.putfield 156, 3) := by decide +kernel
theorem dX7_solves_201 : decode cX7_solves 201 = .ok (.iinc 1 1, 3) := by decide +kernel
theorem dX7_solves_204 : decode cX7_solves 204 = .ok (.goto (-192), 3) := by decide +kernel
theorem dX7_solves_207 : decode cX7_solves 207 = .ok (.iconst 0, 1) := by decide +kernel
theorem dX7_solves_208 : decode cX7_solves 208 = .ok (.istore_n 1, 1) := by decide +kernel
theorem dX7_solves_209 : decode cX7_solves 209 = .ok (.iload_n 1, 1) := by decide +kernel
theorem dX7_solves_210 : decode cX7_solves 210 = .ok (.bipush 7, 2) := by decide +kernel
theorem dX7_solves_212 : decode cX7_solves 212 = .ok (.if_icmp .ge 16, 3) := by decide +kernel
theorem dX7_solves_215 : decode cX7_solves 215 = .ok (.aload_n 0, 1) := by decide +kernel
theorem dX7_solves_216 : decode cX7_solves 216 = .ok (.getfield 37, 3) := by decide +kernel
theorem dX7_solves_219 : decode cX7_solves 219 = .ok (.iload_n 1, 1) := by decide +kernel
theorem dX7_solves_220 : decode cX7_solves 220 = .ok (.lconst 0, 1) := by decide +kernel
theorem dX7_solves_221 : decode cX7_solves 221 = .ok (.lastore, 1) := by decide +kernel
theorem dX7_solves_222 : decode cX7_solves 222 = .ok (.iinc 1 1, 3) := by decide +kernel
theorem dX7_solves_225 : decode cX7_solves 225 = .ok (.goto (-16), 3) := by decide +kernel
theorem dX7_solves_228 : decode cX7_solves 228 = .ok (.iconst 0, 1) := by decide +kernel
theorem dX7_solves_229 : decode cX7_solves 229 = .ok (.istore_n 1, 1) := by decide +kernel
theorem dX7_solves_230 : decode cX7_solves 230 = .ok (.iload_n 1, 1) := by decide +kernel
theorem dX7_solves_231 : decode cX7_solves 231 = .ok (.aload_n 0, 1) := by decide +kernel
theorem dX7_solves_232 : decode cX7_solves 232 = .ok (.getfield 156, 3) := by decide +kernel
theorem dX7_solves_235 : decode cX7_solves 235 = .ok (.if_icmp .ge 29, 3) := by decide +kernel
theorem dX7_solves_238 : decode cX7_solves 238 = .ok (.aload_n 0, 1) := by decide +kernel
theorem dX7_solves_239 : decode cX7_solves 239 = .ok (.getfield 37, 3) := by decide +kernel
theorem dX7_solves_242 : decode cX7_solves 242 = .ok (.aload_n 0, 1) := by decide +kernel
theorem dX7_solves_243 : decode cX7_solves 243 = .ok (.getfield 40, 3) := by decide +kernel
theorem dX7_solves_246 : decode cX7_solves 246 = .ok (.iload_n 1, 1) := by decide +kernel
theorem dX7_solves_247 : decode cX7_solves 247 = .ok (.iaload, 1) := by decide +kernel
theorem dX7_solves_248 : decode cX7_solves 248 = .ok (.aload_n 0, 1) := by decide +kernel
theorem dX7_solves_249 : decode cX7_solves 249 = .ok (.iload_n 1, 1) := by decide +kernel
theorem dX7_solves_250 : decode cX7_solves 250 = .ok (.aload_n 0, 1) := by decide +kernel
theorem dX7_solves_251 : decode cX7_solves 251 = .ok (.getfield 146, 3) := by decide +kernel
theorem dX7_solves_254 : decode cX7_solves 254 = .ok (.invokevirtual 163, 3) := by decide +kernel
theorem dX7_solves_257 : decode cX7_solves 257 = .ok (.lastore, 1) := by decide +kernel
theorem dX7_solves_258 : decode cX7_solves 258 = .ok (.iinc 1 1, 3) := by decide +kernel
theorem dX7_solves_261 : decode cX7_solves 261 = .ok (.goto (-31), 3) := by decide +kernel
theorem dX7_solves_264 : decode cX7_solves 264 = .ok (.aload_n 0, 1) := by decide +kernel
theorem dX7_solves_265 : decode cX7_solves 265 = .ok (.getfield 159, 3) := by decide +kernel
theorem dX7_solves_268 : decode cX7_solves 268 = .ok (.lconst 0, 1) := by decide +kernel
theorem dX7_solves_269 : decode cX7_solves 269 = .ok (.lcmp, 1) := by decide +kernel
theorem dX7_solves_270 : decode cX7_solves 270 = .ok (.ifCond .ge 39, 3) := by decide +kernel
theorem dX7_solves_273 : decode cX7_solves 273 = .ok (.aload_n 0, 1) := by decide +kernel
theorem dX7_solves_274 : decode cX7_solves 274 = .ok (.aload_n 0, 1) := by decide +kernel
theorem dX7_solves_275 : decode cX7_solves 275 = .ok (.getfield 159, 3) := by decide +kernel
theorem dX7_solves_278 : decode cX7_solves 278 = .ok (.lneg, 1) := by decide +kernel
theorem dX7_solves_279 : decode cX7_solves 279 = .ok (.putfield 159, 3) := by decide +kernel
theorem dX7_solves_282 : decode cX7_solves 282 = .ok (.iconst 0, 1) := by decide +kernel
theorem dX7_solves_283 : decode cX7_solves 283 = .ok (.istore_n 1, 1) := by decide +kernel
theorem dX7_solves_284 : decode cX7_solves 284 = .ok (.iload_n 1, 1) := by decide +kernel
theorem dX7_solves_285 : decode cX7_solves 285 = .ok (.bipush 7, 2) := by decide +kernel
theorem dX7_solves_287 : decode cX7_solves 287 = .ok (.if_icmp .ge 22, 3) := by decide +kernel
theorem dX7_solves_290 : decode cX7_solves 290 = .ok (.aload_n 0, 1) := by decide +kernel
theorem dX7_solves_291 : decode cX7_solves 291 = .ok (.getfield 37, 3) := by decide +kernel
theorem dX7_solves_294 : decode cX7_solves 294 = .ok (.iload_n 1, 1) := by decide +kernel
theorem dX7_solves_295 : decode cX7_solves 295 = .ok (.aload_n 0, 1) := by decide +kernel
theorem dX7_solves_296 : decode cX7_solves 296 = .ok (.getfield 37, 3) := by decide +kernel
theorem dX7_solves_299 : decode cX7_solves 299 = .ok (.iload_n 1, 1) := by decide +kernel
theorem dX7_solves_300 : decode cX7_solves 300 = .ok (.laload, 1) := by decide +kernel
theorem dX7_solves_301 : decode cX7_solves 301 = .ok (.lneg, 1) := by decide +kernel
theorem dX7_solves_302 : decode cX7_solves 302 = .ok (.lastore, 1) := by decide +kernel
theorem dX7_solves_303 : decode cX7_solves 303 = .ok (.iinc 1 1, 3) := by decide +kernel
theorem dX7_solves_306 : decode cX7_solves 306 = .ok (.goto (-22), 3) := by decide +kernel
theorem dX7_solves_309 : decode cX7_solves 309 = .ok (.aload_n 0, 1) := by decide +kernel
theorem dX7_solves_310 : decode cX7_solves 310 = .ok (.getfield 156, 3) := by decide +kernel
theorem dX7_solves_313 : decode cX7_solves 313 = .ok (.istore_n 1, 1) := by decide +kernel
theorem dX7_solves_314 : decode cX7_solves 314 = .ok (.iload_n 1, 1) := by decide +kernel
theorem dX7_solves_315 : decode cX7_solves 315 = .ok (.aload_n 0, 1) := by decide +kernel
theorem dX7_solves_316 : decode cX7_solves 316 = .ok (.getfield 146, 3) := by decide +kernel
theorem dX7_solves_319 : decode cX7_solves 319 = .ok (.if_icmp .ge 25, 3) := by decide +kernel
theorem dX7_solves_322 : decode cX7_solves 322 = .ok (.aload_n 0, 1) := by decide +kernel
theorem dX7_solves_323 : decode cX7_solves 323 = .ok (.iload_n 1, 1) := by decide +kernel
theorem dX7_solves_324 : decode cX7_solves 324 = .ok (.aload_n 0, 1) := by decide +kernel
theorem dX7_solves_325 : decode cX7_solves 325 = .ok (.getfield 146, 3) := by decide +kernel
theorem dX7_solves_328 : decode cX7_solves 328 = .ok (.invokevirtual 163, 3) := by decide +kernel
theorem dX7_solves_331 : decode cX7_solves 331 = .ok (.lconst 0, 1) := by decide +kernel
theorem dX7_solves_332 : decode cX7_solves 332 = .ok (.lcmp, 1) := by decide +kernel
theorem dX7_solves_333 : decode cX7_solves 333 = .ok (.ifCond .eq 5, 3) := by decide +kernel
theorem dX7_solves_336 : decode cX7_solves 336 = .ok (.iconst 0, 1) := by decide +kernel
theorem dX7_solves_337 : decode cX7_solves 337 = .ok (.ireturn, 1) := by decide +kernel
theorem dX7_solves_338 : decode cX7_solves 338 = .ok (.iinc 1 1, 3) := by decide +kernel
theorem dX7_solves_341 : decode cX7_solves 341 = .ok (.goto (-27), 3) := by decide +kernel
theorem dX7_solves_344 : decode cX7_solves 344 = .ok (.iconst 1, 1) := by decide +kernel
theorem dX7_solves_345 : decode cX7_solves 345 = .ok (.ireturn, 1) := by decide +kernel
theorem dX7_isKnown_0 : decode cX7_isKnown 0 = .ok (.iconst 0, 1) := by decide +kernel
theorem dX7_isKnown_1 : decode cX7_isKnown 1 = .ok (.istore_n 1, 1) := by decide +kernel
theorem dX7_isKnown_2 : decode cX7_isKnown 2 = .ok (.iload_n 1, 1) := by decide +kernel
theorem dX7_isKnown_3 : decode cX7_isKnown 3 = .ok (.aload_n 0, 1) := by decide +kernel
theorem dX7_isKnown_4 : decode cX7_isKnown 4 = .ok (.getfield 146, 3) := by decide +kernel
theorem dX7_isKnown_7 : decode cX7_isKnown 7 = .ok (.if_icmp .ge 68, 3) := by decide +kernel
theorem dX7_isKnown_10 : decode cX7_isKnown 10 = .ok (.iconst 0, 1) := by decide +kernel
theorem dX7_isKnown_11 : decode cX7_isKnown 11 = .ok (.istore_n 2, 1) := by decide +kernel
theorem dX7_isKnown_12 : decode cX7_isKnown 12 = .ok (.iload_n 2, 1) := by decide +kernel
theorem dX7_isKnown_13 : decode cX7_isKnown 13 = .ok (.aload_n 0, 1) := by decide +kernel
theorem dX7_isKnown_14 : decode cX7_isKnown 14 = .ok (.getfield 146, 3) := by decide +kernel
theorem dX7_isKnown_17 : decode cX7_isKnown 17 = .ok (.if_icmp .ge 31, 3) := by decide +kernel
theorem dX7_isKnown_20 : decode cX7_isKnown 20 = .ok (.aload_n 0, 1) := by decide +kernel
theorem dX7_isKnown_21 : decode cX7_isKnown 21 = .ok (.getfield 34, 3) := by decide +kernel
theorem dX7_isKnown_24 : decode cX7_isKnown 24 = .ok (.bipush 8, 2) := by decide +kernel
theorem dX7_isKnown_26 : decode cX7_isKnown 26 = .ok (.iload_n 1, 1) := by decide +kernel
theorem dX7_isKnown_27 : decode cX7_isKnown 27 = .ok (.imul, 1) := by decide +kernel
theorem dX7_isKnown_28 : decode cX7_isKnown 28 = .ok (.iload_n 2, 1) := by decide +kernel
theorem dX7_isKnown_29 : decode cX7_isKnown 29 = .ok (.iadd, 1) := by decide +kernel
theorem dX7_isKnown_30 : decode cX7_isKnown 30 = .ok (.aload_n 0, 1) := by decide +kernel
theorem dX7_isKnown_31 : decode cX7_isKnown 31 = .ok (.getfield 27, 3) := by decide +kernel
theorem dX7_isKnown_34 : decode cX7_isKnown 34 = .ok (.bipush 7, 2) := by decide +kernel
theorem dX7_isKnown_36 : decode cX7_isKnown 36 = .ok (.iload_n 1, 1) := by decide +kernel
theorem dX7_isKnown_37 : decode cX7_isKnown 37 = .ok (.imul, 1) := by decide +kernel
theorem dX7_isKnown_38 : decode cX7_isKnown 38 = .ok (.iload_n 2, 1) := by decide +kernel
theorem dX7_isKnown_39 : decode cX7_isKnown 39 = .ok (.iadd, 1) := by decide +kernel
theorem dX7_isKnown_40 : decode cX7_isKnown 40 = .ok (.laload, 1) := by decide +kernel
theorem dX7_isKnown_41 : decode cX7_isKnown 41 = .ok (.lastore, 1) := by decide +kernel
theorem dX7_isKnown_42 : decode cX7_isKnown 42 = .ok (.iinc 2 1, 3) := by decide +kernel
theorem dX7_isKnown_45 : decode cX7_isKnown 45 = .ok (.goto (-33), 3) := by decide +kernel
theorem dX7_isKnown_48 : decode cX7_isKnown 48 = .ok (.aload_n 0, 1) := by decide +kernel
theorem dX7_isKnown_49 : decode cX7_isKnown 49 = .ok (.getfield 34, 3) := by decide +kernel
theorem dX7_isKnown_52 : decode cX7_isKnown 52 = .ok (.bipush 8, 2) := by decide +kernel
theorem dX7_isKnown_54 : decode cX7_isKnown 54 = .ok (.iload_n 1, 1) := by decide +kernel
theorem dX7_isKnown_55 : decode cX7_isKnown 55 = .ok (.imul, 1) := by decide +kernel
theorem dX7_isKnown_56 : decode cX7_isKnown 56 = .ok (.aload_n 0, 1) := by decide +kernel
theorem dX7_isKnown_57 : decode cX7_isKnown 57 = .ok (.getfield 146, 3) := by decide +kernel
theorem dX7_isKnown_60 : decode cX7_isKnown 60 = .ok (.iadd, 1) := by decide +kernel
theorem dX7_isKnown_61 : decode cX7_isKnown 61 = .ok (.aload_n 0, 1) := by decide +kernel
theorem dX7_isKnown_62 : decode cX7_isKnown 62 = .ok (.getfield 24, 3) := by decide +kernel
theorem dX7_isKnown_65 : decode cX7_isKnown 65 = .ok (.iload_n 1, 1) := by decide +kernel
theorem dX7_isKnown_66 : decode cX7_isKnown 66 = .ok (.iaload, 1) := by decide +kernel
theorem dX7_isKnown_67 : decode cX7_isKnown 67 = .ok (.i2l, 1) := by decide +kernel
theorem dX7_isKnown_68 : decode cX7_isKnown 68 = .ok (.lastore, 1) := by decide +kernel
theorem dX7_isKnown_69 : decode cX7_isKnown 69 = .ok (.iinc 1 1, 3) := by decide +kernel
theorem dX7_isKnown_72 : decode cX7_isKnown 72 = .ok (.goto (-70), 3) := by decide +kernel
theorem dX7_isKnown_75 : decode cX7_isKnown 75 = .ok (.aload_n 0, 1) := by decide +kernel
theorem dX7_isKnown_76 : decode cX7_isKnown 76 = .ok (.invokevirtual 170, 3) := by decide +kernel
theorem dX7_isKnown_79 : decode cX7_isKnown 79 = .ok (.ireturn, 1) := by decide +kernel
theorem dX7_value_0 : decode cX7_value 0 = .ok (.lconst 0, 1) := by decide +kernel
theorem dX7_value_1 : decode cX7_value 1 = .ok (.lstore_n 1, 1) := by decide +kernel
theorem dX7_value_2 : decode cX7_value 2 = .ok (.iconst 0, 1) := by decide +kernel
theorem dX7_value_3 : decode cX7_value 3 = .ok (.istore_n 3, 1) := by decide +kernel
theorem dX7_value_4 : decode cX7_value 4 = .ok (.iload_n 3, 1) := by decide +kernel
theorem dX7_value_5 : decode cX7_value 5 = .ok (.aload_n 0, 1) := by decide +kernel
theorem dX7_value_6 : decode cX7_value 6 = .ok (.getfield 146, 3) := by decide +kernel
theorem dX7_value_9 : decode cX7_value 9 = .ok (.if_icmp .ge 25, 3) := by decide +kernel
theorem dX7_value_12 : decode cX7_value 12 = .ok (.lload_n 1, 1) := by decide +kernel
theorem dX7_value_13 : decode cX7_value 13 = .ok (.aload_n 0, 1) := by decide +kernel
theorem dX7_value_14 : decode cX7_value 14 = .ok (.getfield 37, 3) := by decide +kernel
theorem dX7_value_17 : decode cX7_value 17 = .ok (.iload_n 3, 1) := by decide +kernel
theorem dX7_value_18 : decode cX7_value 18 = .ok (.laload, 1) := by decide +kernel
theorem dX7_value_19 : decode cX7_value 19 = .ok (.aload_n 0, 1) := by decide +kernel
theorem dX7_value_20 : decode cX7_value 20 = .ok (.getfield 31, 3) := by decide +kernel
theorem dX7_value_23 : decode cX7_value 23 = .ok (.iload_n 3, 1) := by decide +kernel
theorem dX7_value_24 : decode cX7_value 24 = .ok (.laload, 1) := by decide +kernel
theorem dX7_value_25 : decode cX7_value 25 = .ok (.lmul, 1) := by decide +kernel
theorem dX7_value_26 : decode cX7_value 26 = .ok (.ladd, 1) := by decide +kernel
theorem dX7_value_27 : decode cX7_value 27 = .ok (.lstore_n 1, 1) := by decide +kernel
theorem dX7_value_28 : decode cX7_value 28 = .ok (.iinc 3 1, 3) := by decide +kernel
theorem dX7_value_31 : decode cX7_value 31 = .ok (.goto (-27), 3) := by decide +kernel
theorem dX7_value_34 : decode cX7_value 34 = .ok (.lload_n 1, 1) := by decide +kernel
theorem dX7_value_35 : decode cX7_value 35 = .ok (.lreturn, 1) := by decide +kernel
theorem dX7_doubt_0 : decode cX7_doubt 0 = .ok (.lconst 0, 1) := by decide +kernel
theorem dX7_doubt_1 : decode cX7_doubt 1 = .ok (.lstore_n 1, 1) := by decide +kernel
theorem dX7_doubt_2 : decode cX7_doubt 2 = .ok (.iconst 0, 1) := by decide +kernel
theorem dX7_doubt_3 : decode cX7_doubt 3 = .ok (.istore_n 3, 1) := by decide +kernel
theorem dX7_doubt_4 : decode cX7_doubt 4 = .ok (.iload_n 3, 1) := by decide +kernel
theorem dX7_doubt_5 : decode cX7_doubt 5 = .ok (.aload_n 0, 1) := by decide +kernel
theorem dX7_doubt_6 : decode cX7_doubt 6 = .ok (.getfield 146, 3) := by decide +kernel
theorem dX7_doubt_9 : decode cX7_doubt 9 = .ok (.if_icmp .ge 26, 3) := by decide +kernel
theorem dX7_doubt_12 : decode cX7_doubt 12 = .ok (.lload_n 1, 1) := by decide +kernel
theorem dX7_doubt_13 : decode cX7_doubt 13 = .ok (.aload_n 0, 1) := by decide +kernel
theorem dX7_doubt_14 : decode cX7_doubt 14 = .ok (.getfield 37, 3) := by decide +kernel
theorem dX7_doubt_17 : decode cX7_doubt 17 = .ok (.iload_n 3, 1) := by decide +kernel
theorem dX7_doubt_18 : decode cX7_doubt 18 = .ok (.laload, 1) := by decide +kernel
theorem dX7_doubt_19 : decode cX7_doubt 19 = .ok (.aload_n 0, 1) := by decide +kernel
theorem dX7_doubt_20 : decode cX7_doubt 20 = .ok (.getfield 24, 3) := by decide +kernel
theorem dX7_doubt_23 : decode cX7_doubt 23 = .ok (.iload_n 3, 1) := by decide +kernel
theorem dX7_doubt_24 : decode cX7_doubt 24 = .ok (.iaload, 1) := by decide +kernel
theorem dX7_doubt_25 : decode cX7_doubt 25 = .ok (.i2l, 1) := by decide +kernel
theorem dX7_doubt_26 : decode cX7_doubt 26 = .ok (.lmul, 1) := by decide +kernel
theorem dX7_doubt_27 : decode cX7_doubt 27 = .ok (.ladd, 1) := by decide +kernel
theorem dX7_doubt_28 : decode cX7_doubt 28 = .ok (.lstore_n 1, 1) := by decide +kernel
theorem dX7_doubt_29 : decode cX7_doubt 29 = .ok (.iinc 3 1, 3) := by decide +kernel
theorem dX7_doubt_32 : decode cX7_doubt 32 = .ok (.goto (-28), 3) := by decide +kernel
theorem dX7_doubt_35 : decode cX7_doubt 35 = .ok (.lload_n 1, 1) := by decide +kernel
theorem dX7_doubt_36 : decode cX7_doubt 36 = .ok (.lreturn, 1) := by decide +kernel
theorem dX7_common_0 : decode cX7_common 0 = .ok (.lload_n 0, 1) := by decide +kernel
theorem dX7_common_1 : decode cX7_common 1 = .ok (.invokestatic 173, 3) := by decide +kernel
theorem dX7_common_4 : decode cX7_common 4 = .ok (.lstore 4, 2) := by decide +kernel
theorem dX7_common_6 : decode cX7_common 6 = .ok (.lload_n 2, 1) := by decide +kernel
theorem dX7_common_7 : decode cX7_common 7 = .ok (.invokestatic 173, 3) := by decide +kernel
theorem dX7_common_10 : decode cX7_common 10 = .ok (.lstore 6, 2) := by decide +kernel
theorem dX7_common_12 : decode cX7_common 12 = .ok (.lload 6, 2) := by decide +kernel
theorem dX7_common_14 : decode cX7_common 14 = .ok (.lconst 0, 1) := by decide +kernel
theorem dX7_common_15 : decode cX7_common 15 = .ok (.lcmp, 1) := by decide +kernel
theorem dX7_common_16 : decode cX7_common 16 = .ok (.ifCond .eq 21, 3) := by decide +kernel
theorem dX7_common_19 : decode cX7_common 19 = .ok (.lload 4, 2) := by decide +kernel
theorem dX7_common_21 : decode cX7_common 21 = .ok (.lload 6, 2) := by decide +kernel
theorem dX7_common_23 : decode cX7_common 23 = .ok (.lrem, 1) := by decide +kernel
theorem dX7_common_24 : decode cX7_common 24 = .ok (.lstore 8, 2) := by decide +kernel
theorem dX7_common_26 : decode cX7_common 26 = .ok (.lload 6, 2) := by decide +kernel
theorem dX7_common_28 : decode cX7_common 28 = .ok (.lstore 4, 2) := by decide +kernel
theorem dX7_common_30 : decode cX7_common 30 = .ok (.lload 8, 2) := by decide +kernel
theorem dX7_common_32 : decode cX7_common 32 = .ok (.lstore 6, 2) := by decide +kernel
theorem dX7_common_34 : decode cX7_common 34 = .ok (.goto (-22), 3) := by decide +kernel
theorem dX7_common_37 : decode cX7_common 37 = .ok (.lload 4, 2) := by decide +kernel
theorem dX7_common_39 : decode cX7_common 39 = .ok (.lreturn, 1) := by decide +kernel
theorem dX7_told__0 : decode cX7_told_ 0 = .ok (.iload 4, 2) := by decide +kernel
theorem dX7_told__2 : decode cX7_told_ 2 = .ok (.ifCond .eq 7, 3) := by decide +kernel
theorem dX7_told__5 : decode cX7_told_ 5 = .ok (.lload_n 2, 1) := by decide +kernel
theorem dX7_told__6 : decode cX7_told_ 6 = .ok (.goto 4, 3) := by decide +kernel
theorem dX7_told__9 : decode cX7_told_ 9 = .ok (.lload_n 0, 1) := by decide +kernel
theorem dX7_told__10 : decode cX7_told_ 10 = .ok (.lload_n 0, 1) := by decide +kernel
theorem dX7_told__11 : decode cX7_told_ 11 = .ok (.lload_n 2, 1) := by decide +kernel
theorem dX7_told__12 : decode cX7_told_ 12 = .ok (.invokestatic 177, 3) := by decide +kernel
theorem dX7_told__15 : decode cX7_told_ 15 = .ok (.ldiv, 1) := by decide +kernel
theorem dX7_told__16 : decode cX7_told_ 16 = .ok (.lreturn, 1) := by decide +kernel
theorem dX7_compared_0 : decode cX7_compared 0 = .ok (.lload_n 0, 1) := by decide +kernel
theorem dX7_compared_1 : decode cX7_compared 1 = .ok (.lstore 8, 2) := by decide +kernel
theorem dX7_compared_3 : decode cX7_compared 3 = .ok (.lload_n 2, 1) := by decide +kernel
theorem dX7_compared_4 : decode cX7_compared 4 = .ok (.lstore 10, 2) := by decide +kernel
theorem dX7_compared_6 : decode cX7_compared 6 = .ok (.lload 4, 2) := by decide +kernel
theorem dX7_compared_8 : decode cX7_compared 8 = .ok (.lstore 12, 2) := by decide +kernel
theorem dX7_compared_10 : decode cX7_compared 10 = .ok (.lload 6, 2) := by decide +kernel
theorem dX7_compared_12 : decode cX7_compared 12 = .ok (.lstore 14, 2) := by decide +kernel
theorem dX7_compared_14 : decode cX7_compared 14 = .ok (.iconst 1, 1) := by decide +kernel
theorem dX7_compared_15 : decode cX7_compared 15 = .ok (.istore 16, 2) := by decide +kernel
theorem dX7_compared_17 : decode cX7_compared 17 = .ok (.lload 8, 2) := by decide +kernel
theorem dX7_compared_19 : decode cX7_compared 19 = .ok (.lload 10, 2) := by decide +kernel
theorem dX7_compared_21 : decode cX7_compared 21 = .ok (.ldiv, 1) := by decide +kernel
theorem dX7_compared_22 : decode cX7_compared 22 = .ok (.lload 12, 2) := by decide +kernel
theorem dX7_compared_24 : decode cX7_compared 24 = .ok (.lload 14, 2) := by decide +kernel
theorem dX7_compared_26 : decode cX7_compared 26 = .ok (.ldiv, 1) := by decide +kernel
theorem dX7_compared_27 : decode cX7_compared 27 = .ok (.lcmp, 1) := by decide +kernel
theorem dX7_compared_28 : decode cX7_compared 28 = .ok (.ifCond .eq 26, 3) := by decide +kernel
theorem dX7_compared_31 : decode cX7_compared 31 = .ok (.lload 8, 2) := by decide +kernel
theorem dX7_compared_33 : decode cX7_compared 33 = .ok (.lload 10, 2) := by decide +kernel
theorem dX7_compared_35 : decode cX7_compared 35 = .ok (.ldiv, 1) := by decide +kernel
theorem dX7_compared_36 : decode cX7_compared 36 = .ok (.lload 12, 2) := by decide +kernel
theorem dX7_compared_38 : decode cX7_compared 38 = .ok (.lload 14, 2) := by decide +kernel
theorem dX7_compared_40 : decode cX7_compared 40 = .ok (.ldiv, 1) := by decide +kernel
theorem dX7_compared_41 : decode cX7_compared 41 = .ok (.lcmp, 1) := by decide +kernel
theorem dX7_compared_42 : decode cX7_compared 42 = .ok (.ifCond .ge 9, 3) := by decide +kernel
theorem dX7_compared_45 : decode cX7_compared 45 = .ok (.iload 16, 2) := by decide +kernel
theorem dX7_compared_47 : decode cX7_compared 47 = .ok (.ineg, 1) := by decide +kernel
theorem dX7_compared_48 : decode cX7_compared 48 = .ok (.goto 5, 3) := by decide +kernel
theorem dX7_compared_51 : decode cX7_compared 51 = .ok (.iload 16, 2) := by decide +kernel
theorem dX7_compared_53 : decode cX7_compared 53 = .ok (.ireturn, 1) := by decide +kernel
theorem dX7_compared_54 : decode cX7_compared 54 = .ok (.lload 8, 2) := by decide +kernel
theorem dX7_compared_56 : decode cX7_compared 56 = .ok (.lload 10, 2) := by decide +kernel
theorem dX7_compared_58 : decode cX7_compared 58 = .ok (.lrem, 1) := by decide +kernel
theorem dX7_compared_59 : decode cX7_compared 59 = .ok (.lstore 17, 2) := by decide +kernel
theorem dX7_compared_61 : decode cX7_compared 61 = .ok (.lload 12, 2) := by decide +kernel
theorem dX7_compared_63 : decode cX7_compared 63 = .ok (.lload 14, 2) := by decide +kernel
theorem dX7_compared_65 : decode cX7_compared 65 = .ok (.lrem, 1) := by decide +kernel
theorem dX7_compared_66 : decode cX7_compared 66 = .ok (.lstore 19, 2) := by decide +kernel
theorem dX7_compared_68 : decode cX7_compared 68 = .ok (.lload 17, 2) := by decide +kernel
theorem dX7_compared_70 : decode cX7_compared 70 = .ok (.lconst 0, 1) := by decide +kernel
theorem dX7_compared_71 : decode cX7_compared 71 = .ok (.lcmp, 1) := by decide +kernel
theorem dX7_compared_72 : decode cX7_compared 72 = .ok (.ifCond .eq 10, 3) := by decide +kernel
theorem dX7_compared_75 : decode cX7_compared 75 = .ok (.lload 19, 2) := by decide +kernel
theorem dX7_compared_77 : decode cX7_compared 77 = .ok (.lconst 0, 1) := by decide +kernel
theorem dX7_compared_78 : decode cX7_compared 78 = .ok (.lcmp, 1) := by decide +kernel
theorem dX7_compared_79 : decode cX7_compared 79 = .ok (.ifCond .ne 31, 3) := by decide +kernel
theorem dX7_compared_82 : decode cX7_compared 82 = .ok (.lload 17, 2) := by decide +kernel
theorem dX7_compared_84 : decode cX7_compared 84 = .ok (.lload 19, 2) := by decide +kernel
theorem dX7_compared_86 : decode cX7_compared 86 = .ok (.lcmp, 1) := by decide +kernel
theorem dX7_compared_87 : decode cX7_compared 87 = .ok (.ifCond .ne 7, 3) := by decide +kernel
theorem dX7_compared_90 : decode cX7_compared 90 = .ok (.iconst 0, 1) := by decide +kernel
theorem dX7_compared_91 : decode cX7_compared 91 = .ok (.goto 18, 3) := by decide +kernel
theorem dX7_compared_94 : decode cX7_compared 94 = .ok (.lload 17, 2) := by decide +kernel
theorem dX7_compared_96 : decode cX7_compared 96 = .ok (.lconst 0, 1) := by decide +kernel
theorem dX7_compared_97 : decode cX7_compared 97 = .ok (.lcmp, 1) := by decide +kernel
theorem dX7_compared_98 : decode cX7_compared 98 = .ok (.ifCond .ne 9, 3) := by decide +kernel
theorem dX7_compared_101 : decode cX7_compared 101 = .ok (.iload 16, 2) := by decide +kernel
theorem dX7_compared_103 : decode cX7_compared 103 = .ok (.ineg, 1) := by decide +kernel
theorem dX7_compared_104 : decode cX7_compared 104 = .ok (.goto 5, 3) := by decide +kernel
theorem dX7_compared_107 : decode cX7_compared 107 = .ok (.iload 16, 2) := by decide +kernel
theorem dX7_compared_109 : decode cX7_compared 109 = .ok (.ireturn, 1) := by decide +kernel
theorem dX7_compared_110 : decode cX7_compared 110 = .ok (.lload 10, 2) := by decide +kernel
theorem dX7_compared_112 : decode cX7_compared 112 = .ok (.lstore 8, 2) := by decide +kernel
theorem dX7_compared_114 : decode cX7_compared 114 = .ok (.lload 17, 2) := by decide +kernel
theorem dX7_compared_116 : decode cX7_compared 116 = .ok (.lstore 10, 2) := by decide +kernel
theorem dX7_compared_118 : decode cX7_compared 118 = .ok (.lload 14, 2) := by decide +kernel
theorem dX7_compared_120 : decode cX7_compared 120 = .ok (.lstore 12, 2) := by decide +kernel
theorem dX7_compared_122 : decode cX7_compared 122 = .ok (.lload 19, 2) := by decide +kernel
theorem dX7_compared_124 : decode cX7_compared 124 = .ok (.lstore 14, 2) := by decide +kernel
theorem dX7_compared_126 : decode cX7_compared 126 = .ok (.iload 16, 2) := by decide +kernel
theorem dX7_compared_128 : decode cX7_compared 128 = .ok (.ineg, 1) := by decide +kernel
theorem dX7_compared_129 : decode cX7_compared 129 = .ok (.istore 16, 2) := by decide +kernel
theorem dX7_compared_131 : decode cX7_compared 131 = .ok (.goto (-114), 3) := by decide +kernel
theorem dX7_difference__0 : decode cX7_difference_ 0 = .ok (.aload_n 0, 1) := by decide +kernel
theorem dX7_difference__1 : decode cX7_difference_ 1 = .ok (.iconst 0, 1) := by decide +kernel
theorem dX7_difference__2 : decode cX7_difference_ 2 = .ok (.putfield 43, 3) := by decide +kernel
theorem dX7_difference__5 : decode cX7_difference_ 5 = .ok (.aload_n 0, 1) := by decide +kernel
theorem dX7_difference__6 : decode cX7_difference_ 6 = .ok (.iload_n 1, 1) := by decide +kernel
theorem dX7_difference__7 : decode cX7_difference_ 7 = .ok (.invokevirtual 113, 3) := by decide +kernel
theorem dX7_difference__10 : decode cX7_difference_ 10 = .ok (.ifCond .eq 11, 3) := by decide +kernel
theorem dX7_difference__13 : decode cX7_difference_ 13 = .ok (.aload_n 0, 1) := by decide +kernel
theorem dX7_difference__14 : decode cX7_difference_ 14 = .ok (.iload_n 2, 1) := by decide +kernel
theorem dX7_difference__15 : decode cX7_difference_ 15 = .ok (.invokevirtual 113, 3) := by decide +kernel
theorem dX7_difference__18 : decode cX7_difference_ 18 = .ok (.ifCond .ne 7, 3) := by decide +kernel
theorem dX7_difference__21 : decode cX7_difference_ 21 = .ok (.ldc2_w 181, 3) := by decide +kernel
theorem dX7_difference__24 : decode cX7_difference_ 24 = .ok (.lreturn, 1) := by decide +kernel
theorem dX7_difference__25 : decode cX7_difference_ 25 = .ok (.aload_n 0, 1) := by decide +kernel
theorem dX7_difference__26 : decode cX7_difference_ 26 = .ok (.invokevirtual 183, 3) := by decide +kernel
theorem dX7_difference__29 : decode cX7_difference_ 29 = .ok (.aload_n 0, 1) := by decide +kernel
theorem dX7_difference__30 : decode cX7_difference_ 30 = .ok (.iload_n 1, 1) := by decide +kernel
theorem dX7_difference__31 : decode cX7_difference_ 31 = .ok (.iload_n 2, 1) := by decide +kernel
theorem dX7_difference__32 : decode cX7_difference_ 32 = .ok (.invokevirtual 186, 3) := by decide +kernel
theorem dX7_difference__35 : decode cX7_difference_ 35 = .ok (.aload_n 0, 1) := by decide +kernel
theorem dX7_difference__36 : decode cX7_difference_ 36 = .ok (.invokevirtual 189, 3) := by decide +kernel
theorem dX7_difference__39 : decode cX7_difference_ 39 = .ok (.ifCond .eq 18, 3) := by decide +kernel
theorem dX7_difference__42 : decode cX7_difference_ 42 = .ok (.aload_n 0, 1) := by decide +kernel
theorem dX7_difference__43 : decode cX7_difference_ 43 = .ok (.invokevirtual 192, 3) := by decide +kernel
theorem dX7_difference__46 : decode cX7_difference_ 46 = .ok (.aload_n 0, 1) := by decide +kernel
theorem dX7_difference__47 : decode cX7_difference_ 47 = .ok (.getfield 159, 3) := by decide +kernel
theorem dX7_difference__50 : decode cX7_difference_ 50 = .ok (.iload_n 3, 1) := by decide +kernel
theorem dX7_difference__51 : decode cX7_difference_ 51 = .ok (.invokestatic 196, 3) := by decide +kernel
theorem dX7_difference__54 : decode cX7_difference_ 54 = .ok (.goto 6, 3) := by decide +kernel
theorem dX7_difference__57 : decode cX7_difference_ 57 = .ok (.ldc2_w 181, 3) := by decide +kernel
theorem dX7_difference__60 : decode cX7_difference_ 60 = .ok (.lreturn, 1) := by decide +kernel
theorem dX7_doubt__0 : decode cX7_doubt_ 0 = .ok (.aload_n 0, 1) := by decide +kernel
theorem dX7_doubt__1 : decode cX7_doubt_ 1 = .ok (.iconst 0, 1) := by decide +kernel
theorem dX7_doubt__2 : decode cX7_doubt_ 2 = .ok (.putfield 43, 3) := by decide +kernel
theorem dX7_doubt__5 : decode cX7_doubt_ 5 = .ok (.aload_n 0, 1) := by decide +kernel
theorem dX7_doubt__6 : decode cX7_doubt_ 6 = .ok (.iload_n 1, 1) := by decide +kernel
theorem dX7_doubt__7 : decode cX7_doubt_ 7 = .ok (.invokevirtual 113, 3) := by decide +kernel
theorem dX7_doubt__10 : decode cX7_doubt_ 10 = .ok (.ifCond .eq 11, 3) := by decide +kernel
theorem dX7_doubt__13 : decode cX7_doubt_ 13 = .ok (.aload_n 0, 1) := by decide +kernel
theorem dX7_doubt__14 : decode cX7_doubt_ 14 = .ok (.iload_n 2, 1) := by decide +kernel
theorem dX7_doubt__15 : decode cX7_doubt_ 15 = .ok (.invokevirtual 113, 3) := by decide +kernel
theorem dX7_doubt__18 : decode cX7_doubt_ 18 = .ok (.ifCond .ne 7, 3) := by decide +kernel
theorem dX7_doubt__21 : decode cX7_doubt_ 21 = .ok (.ldc2_w 181, 3) := by decide +kernel
theorem dX7_doubt__24 : decode cX7_doubt_ 24 = .ok (.lreturn, 1) := by decide +kernel
theorem dX7_doubt__25 : decode cX7_doubt_ 25 = .ok (.aload_n 0, 1) := by decide +kernel
theorem dX7_doubt__26 : decode cX7_doubt_ 26 = .ok (.invokevirtual 183, 3) := by decide +kernel
theorem dX7_doubt__29 : decode cX7_doubt_ 29 = .ok (.aload_n 0, 1) := by decide +kernel
theorem dX7_doubt__30 : decode cX7_doubt_ 30 = .ok (.iload_n 1, 1) := by decide +kernel
theorem dX7_doubt__31 : decode cX7_doubt_ 31 = .ok (.iload_n 2, 1) := by decide +kernel
theorem dX7_doubt__32 : decode cX7_doubt_ 32 = .ok (.invokevirtual 186, 3) := by decide +kernel
theorem dX7_doubt__35 : decode cX7_doubt_ 35 = .ok (.aload_n 0, 1) := by decide +kernel
theorem dX7_doubt__36 : decode cX7_doubt_ 36 = .ok (.invokevirtual 189, 3) := by decide +kernel
theorem dX7_doubt__39 : decode cX7_doubt_ 39 = .ok (.ifCond .eq 18, 3) := by decide +kernel
theorem dX7_doubt__42 : decode cX7_doubt_ 42 = .ok (.aload_n 0, 1) := by decide +kernel
theorem dX7_doubt__43 : decode cX7_doubt_ 43 = .ok (.invokevirtual 199, 3) := by decide +kernel
theorem dX7_doubt__46 : decode cX7_doubt_ 46 = .ok (.aload_n 0, 1) := by decide +kernel
theorem dX7_doubt__47 : decode cX7_doubt_ 47 = .ok (.getfield 159, 3) := by decide +kernel
theorem dX7_doubt__50 : decode cX7_doubt_ 50 = .ok (.iload_n 3, 1) := by decide +kernel
theorem dX7_doubt__51 : decode cX7_doubt_ 51 = .ok (.invokestatic 196, 3) := by decide +kernel
theorem dX7_doubt__54 : decode cX7_doubt_ 54 = .ok (.goto 6, 3) := by decide +kernel
theorem dX7_doubt__57 : decode cX7_doubt_ 57 = .ok (.ldc2_w 181, 3) := by decide +kernel
theorem dX7_doubt__60 : decode cX7_doubt_ 60 = .ok (.lreturn, 1) := by decide +kernel
theorem dX7_drift_0 : decode cX7_drift 0 = .ok (.aload_n 0, 1) := by decide +kernel
theorem dX7_drift_1 : decode cX7_drift 1 = .ok (.iconst 0, 1) := by decide +kernel
theorem dX7_drift_2 : decode cX7_drift 2 = .ok (.putfield 43, 3) := by decide +kernel
theorem dX7_drift_5 : decode cX7_drift 5 = .ok (.aload_n 0, 1) := by decide +kernel
theorem dX7_drift_6 : decode cX7_drift 6 = .ok (.invokevirtual 183, 3) := by decide +kernel
theorem dX7_drift_9 : decode cX7_drift 9 = .ok (.aload_n 0, 1) := by decide +kernel
theorem dX7_drift_10 : decode cX7_drift 10 = .ok (.invokevirtual 143, 3) := by decide +kernel
theorem dX7_drift_13 : decode cX7_drift 13 = .ok (.aload_n 0, 1) := by decide +kernel
theorem dX7_drift_14 : decode cX7_drift 14 = .ok (.getfield 24, 3) := by decide +kernel
theorem dX7_drift_17 : decode cX7_drift 17 = .ok (.aload_n 0, 1) := by decide +kernel
theorem dX7_drift_18 : decode cX7_drift 18 = .ok (.invokevirtual 46, 3) := by decide +kernel
theorem dX7_drift_21 : decode cX7_drift 21 = .ok (.iconst 1, 1) := by decide +kernel
theorem dX7_drift_22 : decode cX7_drift 22 = .ok (.iastore, 1) := by decide +kernel
theorem dX7_drift_23 : decode cX7_drift 23 = .ok (.aload_n 0, 1) := by decide +kernel
theorem dX7_drift_24 : decode cX7_drift 24 = .ok (.invokevirtual 189, 3) := by decide +kernel
theorem dX7_drift_27 : decode cX7_drift 27 = .ok (.ifCond .eq 18, 3) := by decide +kernel
theorem dX7_drift_30 : decode cX7_drift 30 = .ok (.aload_n 0, 1) := by decide +kernel
theorem dX7_drift_31 : decode cX7_drift 31 = .ok (.invokevirtual 192, 3) := by decide +kernel
theorem dX7_drift_34 : decode cX7_drift 34 = .ok (.aload_n 0, 1) := by decide +kernel
theorem dX7_drift_35 : decode cX7_drift 35 = .ok (.getfield 159, 3) := by decide +kernel
theorem dX7_drift_38 : decode cX7_drift 38 = .ok (.iload_n 1, 1) := by decide +kernel
theorem dX7_drift_39 : decode cX7_drift 39 = .ok (.invokestatic 196, 3) := by decide +kernel
theorem dX7_drift_42 : decode cX7_drift 42 = .ok (.goto 6, 3) := by decide +kernel
theorem dX7_drift_45 : decode cX7_drift 45 = .ok (.ldc2_w 181, 3) := by decide +kernel
theorem dX7_drift_48 : decode cX7_drift 48 = .ok (.lreturn, 1) := by decide +kernel
theorem dX7_restOf_0 : decode cX7_restOf 0 = .ok (.aload_n 0, 1) := by decide +kernel
theorem dX7_restOf_1 : decode cX7_restOf 1 = .ok (.aload_n 0, 1) := by decide +kernel
theorem dX7_restOf_2 : decode cX7_restOf 2 = .ok (.iload_n 1, 1) := by decide +kernel
theorem dX7_restOf_3 : decode cX7_restOf 3 = .ok (.iconst 0, 1) := by decide +kernel
theorem dX7_restOf_4 : decode cX7_restOf 4 = .ok (.invokevirtual 73, 3) := by decide +kernel
theorem dX7_restOf_7 : decode cX7_restOf 7 = .ok (.aload_n 0, 1) := by decide +kernel
theorem dX7_restOf_8 : decode cX7_restOf 8 = .ok (.iload_n 1, 1) := by decide +kernel
theorem dX7_restOf_9 : decode cX7_restOf 9 = .ok (.iconst 1, 1) := by decide +kernel
theorem dX7_restOf_10 : decode cX7_restOf 10 = .ok (.invokevirtual 73, 3) := by decide +kernel
theorem dX7_restOf_13 : decode cX7_restOf 13 = .ok (.aload_n 0, 1) := by decide +kernel
theorem dX7_restOf_14 : decode cX7_restOf 14 = .ok (.iload_n 1, 1) := by decide +kernel
theorem dX7_restOf_15 : decode cX7_restOf 15 = .ok (.iconst 3, 1) := by decide +kernel
theorem dX7_restOf_16 : decode cX7_restOf 16 = .ok (.invokevirtual 73, 3) := by decide +kernel
theorem dX7_restOf_19 : decode cX7_restOf 19 = .ok (.invokevirtual 149, 3) := by decide +kernel
theorem dX7_restOf_22 : decode cX7_restOf 22 = .ok (.aload_n 0, 1) := by decide +kernel
theorem dX7_restOf_23 : decode cX7_restOf 23 = .ok (.invokevirtual 189, 3) := by decide +kernel
theorem dX7_restOf_26 : decode cX7_restOf 26 = .ok (.istore_n 2, 1) := by decide +kernel
theorem dX7_restOf_27 : decode cX7_restOf 27 = .ok (.iload_n 2, 1) := by decide +kernel
theorem dX7_restOf_28 : decode cX7_restOf 28 = .ok (.ifCond .eq 23, 3) := by decide +kernel
theorem dX7_restOf_31 : decode cX7_restOf 31 = .ok (.aload_n 0, 1) := by decide +kernel
theorem dX7_restOf_32 : decode cX7_restOf 32 = .ok (.iload_n 1, 1) := by decide +kernel
theorem dX7_restOf_33 : decode cX7_restOf 33 = .ok (.iconst 2, 1) := by decide +kernel
theorem dX7_restOf_34 : decode cX7_restOf 34 = .ok (.invokevirtual 73, 3) := by decide +kernel
theorem dX7_restOf_37 : decode cX7_restOf 37 = .ok (.i2l, 1) := by decide +kernel
theorem dX7_restOf_38 : decode cX7_restOf 38 = .ok (.aload_n 0, 1) := by decide +kernel
theorem dX7_restOf_39 : decode cX7_restOf 39 = .ok (.getfield 159, 3) := by decide +kernel
theorem dX7_restOf_42 : decode cX7_restOf 42 = .ok (.lmul, 1) := by decide +kernel
theorem dX7_restOf_43 : decode cX7_restOf 43 = .ok (.aload_n 0, 1) := by decide +kernel
theorem dX7_restOf_44 : decode cX7_restOf 44 = .ok (.invokevirtual 192, 3) := by decide +kernel
theorem dX7_restOf_47 : decode cX7_restOf 47 = .ok (.lsub, 1) := by decide +kernel
theorem dX7_restOf_48 : decode cX7_restOf 48 = .ok (.goto 4, 3) := by decide +kernel
theorem dX7_restOf_51 : decode cX7_restOf 51 = .ok (.lconst 0, 1) := by decide +kernel
theorem dX7_restOf_52 : decode cX7_restOf 52 = .ok (.lreturn, 1) := by decide +kernel
theorem dX7_rest_0 : decode cX7_rest 0 = .ok (.aload_n 0, 1) := by decide +kernel
theorem dX7_rest_1 : decode cX7_rest 1 = .ok (.iconst 0, 1) := by decide +kernel
theorem dX7_rest_2 : decode cX7_rest 2 = .ok (.putfield 43, 3) := by decide +kernel
theorem dX7_rest_5 : decode cX7_rest 5 = .ok (.iload_n 1, 1) := by decide +kernel
theorem dX7_rest_6 : decode cX7_rest 6 = .ok (.iconst 0, 1) := by decide +kernel
theorem dX7_rest_7 : decode cX7_rest 7 = .ok (.aload_n 0, 1) := by decide +kernel
theorem dX7_rest_8 : decode cX7_rest 8 = .ok (.invokevirtual 58, 3) := by decide +kernel
theorem dX7_rest_11 : decode cX7_rest 11 = .ok (.iconst 1, 1) := by decide +kernel
theorem dX7_rest_12 : decode cX7_rest 12 = .ok (.isub, 1) := by decide +kernel
theorem dX7_rest_13 : decode cX7_rest 13 = .ok (.invokestatic 50, 3) := by decide +kernel
theorem dX7_rest_16 : decode cX7_rest 16 = .ok (.ifCond .ne 7, 3) := by decide +kernel
theorem dX7_rest_19 : decode cX7_rest 19 = .ok (.ldc2_w 181, 3) := by decide +kernel
theorem dX7_rest_22 : decode cX7_rest 22 = .ok (.lreturn, 1) := by decide +kernel
theorem dX7_rest_23 : decode cX7_rest 23 = .ok (.aload_n 0, 1) := by decide +kernel
theorem dX7_rest_24 : decode cX7_rest 24 = .ok (.invokevirtual 183, 3) := by decide +kernel
theorem dX7_rest_27 : decode cX7_rest 27 = .ok (.aload_n 0, 1) := by decide +kernel
theorem dX7_rest_28 : decode cX7_rest 28 = .ok (.iload_n 1, 1) := by decide +kernel
theorem dX7_rest_29 : decode cX7_rest 29 = .ok (.invokevirtual 202, 3) := by decide +kernel
theorem dX7_rest_32 : decode cX7_rest 32 = .ok (.lstore_n 3, 1) := by decide +kernel
theorem dX7_rest_33 : decode cX7_rest 33 = .ok (.lload_n 3, 1) := by decide +kernel
theorem dX7_rest_34 : decode cX7_rest 34 = .ok (.aload_n 0, 1) := by decide +kernel
theorem dX7_rest_35 : decode cX7_rest 35 = .ok (.getfield 159, 3) := by decide +kernel
theorem dX7_rest_38 : decode cX7_rest 38 = .ok (.iload_n 2, 1) := by decide +kernel
theorem dX7_rest_39 : decode cX7_rest 39 = .ok (.invokestatic 196, 3) := by decide +kernel
theorem dX7_rest_42 : decode cX7_rest 42 = .ok (.lreturn, 1) := by decide +kernel
theorem dX7_sumsUp_0 : decode cX7_sumsUp 0 = .ok (.aload_n 0, 1) := by decide +kernel
theorem dX7_sumsUp_1 : decode cX7_sumsUp 1 = .ok (.invokevirtual 183, 3) := by decide +kernel
theorem dX7_sumsUp_4 : decode cX7_sumsUp 4 = .ok (.iconst 0, 1) := by decide +kernel
theorem dX7_sumsUp_5 : decode cX7_sumsUp 5 = .ok (.istore_n 1, 1) := by decide +kernel
theorem dX7_sumsUp_6 : decode cX7_sumsUp 6 = .ok (.iload_n 1, 1) := by decide +kernel
theorem dX7_sumsUp_7 : decode cX7_sumsUp 7 = .ok (.aload_n 0, 1) := by decide +kernel
theorem dX7_sumsUp_8 : decode cX7_sumsUp 8 = .ok (.getfield 146, 3) := by decide +kernel
theorem dX7_sumsUp_11 : decode cX7_sumsUp 11 = .ok (.if_icmp .ge 67, 3) := by decide +kernel
theorem dX7_sumsUp_14 : decode cX7_sumsUp 14 = .ok (.iconst 0, 1) := by decide +kernel
theorem dX7_sumsUp_15 : decode cX7_sumsUp 15 = .ok (.istore_n 2, 1) := by decide +kernel
theorem dX7_sumsUp_16 : decode cX7_sumsUp 16 = .ok (.iload_n 2, 1) := by decide +kernel
theorem dX7_sumsUp_17 : decode cX7_sumsUp 17 = .ok (.aload_n 0, 1) := by decide +kernel
theorem dX7_sumsUp_18 : decode cX7_sumsUp 18 = .ok (.getfield 146, 3) := by decide +kernel
theorem dX7_sumsUp_21 : decode cX7_sumsUp 21 = .ok (.if_icmp .ge 31, 3) := by decide +kernel
theorem dX7_sumsUp_24 : decode cX7_sumsUp 24 = .ok (.aload_n 0, 1) := by decide +kernel
theorem dX7_sumsUp_25 : decode cX7_sumsUp 25 = .ok (.getfield 34, 3) := by decide +kernel
theorem dX7_sumsUp_28 : decode cX7_sumsUp 28 = .ok (.bipush 8, 2) := by decide +kernel
theorem dX7_sumsUp_30 : decode cX7_sumsUp 30 = .ok (.iload_n 1, 1) := by decide +kernel
theorem dX7_sumsUp_31 : decode cX7_sumsUp 31 = .ok (.imul, 1) := by decide +kernel
theorem dX7_sumsUp_32 : decode cX7_sumsUp 32 = .ok (.iload_n 2, 1) := by decide +kernel
theorem dX7_sumsUp_33 : decode cX7_sumsUp 33 = .ok (.iadd, 1) := by decide +kernel
theorem dX7_sumsUp_34 : decode cX7_sumsUp 34 = .ok (.aload_n 0, 1) := by decide +kernel
theorem dX7_sumsUp_35 : decode cX7_sumsUp 35 = .ok (.getfield 27, 3) := by decide +kernel
theorem dX7_sumsUp_38 : decode cX7_sumsUp 38 = .ok (.bipush 7, 2) := by decide +kernel
theorem dX7_sumsUp_40 : decode cX7_sumsUp 40 = .ok (.iload_n 1, 1) := by decide +kernel
theorem dX7_sumsUp_41 : decode cX7_sumsUp 41 = .ok (.imul, 1) := by decide +kernel
theorem dX7_sumsUp_42 : decode cX7_sumsUp 42 = .ok (.iload_n 2, 1) := by decide +kernel
theorem dX7_sumsUp_43 : decode cX7_sumsUp 43 = .ok (.iadd, 1) := by decide +kernel
theorem dX7_sumsUp_44 : decode cX7_sumsUp 44 = .ok (.laload, 1) := by decide +kernel
theorem dX7_sumsUp_45 : decode cX7_sumsUp 45 = .ok (.lastore, 1) := by decide +kernel
theorem dX7_sumsUp_46 : decode cX7_sumsUp 46 = .ok (.iinc 2 1, 3) := by decide +kernel
theorem dX7_sumsUp_49 : decode cX7_sumsUp 49 = .ok (.goto (-33), 3) := by decide +kernel
theorem dX7_sumsUp_52 : decode cX7_sumsUp 52 = .ok (.aload_n 0, 1) := by decide +kernel
theorem dX7_sumsUp_53 : decode cX7_sumsUp 53 = .ok (.getfield 34, 3) := by decide +kernel
theorem dX7_sumsUp_56 : decode cX7_sumsUp 56 = .ok (.bipush 8, 2) := by decide +kernel
theorem dX7_sumsUp_58 : decode cX7_sumsUp 58 = .ok (.iload_n 1, 1) := by decide +kernel
theorem dX7_sumsUp_59 : decode cX7_sumsUp 59 = .ok (.imul, 1) := by decide +kernel
theorem dX7_sumsUp_60 : decode cX7_sumsUp 60 = .ok (.aload_n 0, 1) := by decide +kernel
theorem dX7_sumsUp_61 : decode cX7_sumsUp 61 = .ok (.getfield 146, 3) := by decide +kernel
theorem dX7_sumsUp_64 : decode cX7_sumsUp 64 = .ok (.iadd, 1) := by decide +kernel
theorem dX7_sumsUp_65 : decode cX7_sumsUp 65 = .ok (.aload_n 0, 1) := by decide +kernel
theorem dX7_sumsUp_66 : decode cX7_sumsUp 66 = .ok (.getfield 31, 3) := by decide +kernel
theorem dX7_sumsUp_69 : decode cX7_sumsUp 69 = .ok (.iload_n 1, 1) := by decide +kernel
theorem dX7_sumsUp_70 : decode cX7_sumsUp 70 = .ok (.laload, 1) := by decide +kernel
theorem dX7_sumsUp_71 : decode cX7_sumsUp 71 = .ok (.lastore, 1) := by decide +kernel
theorem dX7_sumsUp_72 : decode cX7_sumsUp 72 = .ok (.iinc 1 1, 3) := by decide +kernel
theorem dX7_sumsUp_75 : decode cX7_sumsUp 75 = .ok (.goto (-69), 3) := by decide +kernel
theorem dX7_sumsUp_78 : decode cX7_sumsUp 78 = .ok (.aload_n 0, 1) := by decide +kernel
theorem dX7_sumsUp_79 : decode cX7_sumsUp 79 = .ok (.invokevirtual 170, 3) := by decide +kernel
theorem dX7_sumsUp_82 : decode cX7_sumsUp 82 = .ok (.istore_n 1, 1) := by decide +kernel
theorem dX7_sumsUp_83 : decode cX7_sumsUp 83 = .ok (.lconst 0, 1) := by decide +kernel
theorem dX7_sumsUp_84 : decode cX7_sumsUp 84 = .ok (.lstore_n 2, 1) := by decide +kernel
theorem dX7_sumsUp_85 : decode cX7_sumsUp 85 = .ok (.iconst 0, 1) := by decide +kernel
theorem dX7_sumsUp_86 : decode cX7_sumsUp 86 = .ok (.istore 4, 2) := by decide +kernel
theorem dX7_sumsUp_88 : decode cX7_sumsUp 88 = .ok (.iload 4, 2) := by decide +kernel
theorem dX7_sumsUp_90 : decode cX7_sumsUp 90 = .ok (.aload_n 0, 1) := by decide +kernel
theorem dX7_sumsUp_91 : decode cX7_sumsUp 91 = .ok (.invokevirtual 58, 3) := by decide +kernel
theorem dX7_sumsUp_94 : decode cX7_sumsUp 94 = .ok (.if_icmp .ge 33, 3) := by decide +kernel
theorem dX7_sumsUp_97 : decode cX7_sumsUp 97 = .ok (.iload_n 1, 1) := by decide +kernel
theorem dX7_sumsUp_98 : decode cX7_sumsUp 98 = .ok (.ifCond .eq 29, 3) := by decide +kernel
theorem dX7_sumsUp_101 : decode cX7_sumsUp 101 = .ok (.lload_n 2, 1) := by decide +kernel
theorem dX7_sumsUp_102 : decode cX7_sumsUp 102 = .ok (.aload_n 0, 1) := by decide +kernel
theorem dX7_sumsUp_103 : decode cX7_sumsUp 103 = .ok (.iload 4, 2) := by decide +kernel
theorem dX7_sumsUp_105 : decode cX7_sumsUp 105 = .ok (.iconst 2, 1) := by decide +kernel
theorem dX7_sumsUp_106 : decode cX7_sumsUp 106 = .ok (.invokevirtual 73, 3) := by decide +kernel
theorem dX7_sumsUp_109 : decode cX7_sumsUp 109 = .ok (.i2l, 1) := by decide +kernel
theorem dX7_sumsUp_110 : decode cX7_sumsUp 110 = .ok (.aload_n 0, 1) := by decide +kernel
theorem dX7_sumsUp_111 : decode cX7_sumsUp 111 = .ok (.iload 4, 2) := by decide +kernel
theorem dX7_sumsUp_113 : decode cX7_sumsUp 113 = .ok (.iconst 2, 1) := by decide +kernel
theorem dX7_sumsUp_114 : decode cX7_sumsUp 114 = .ok (.invokevirtual 73, 3) := by decide +kernel
theorem dX7_sumsUp_117 : decode cX7_sumsUp 117 = .ok (.i2l, 1) := by decide +kernel
theorem dX7_sumsUp_118 : decode cX7_sumsUp 118 = .ok (.lmul, 1) := by decide +kernel
theorem dX7_sumsUp_119 : decode cX7_sumsUp 119 = .ok (.ladd, 1) := by decide +kernel
theorem dX7_sumsUp_120 : decode cX7_sumsUp 120 = .ok (.lstore_n 2, 1) := by decide +kernel
theorem dX7_sumsUp_121 : decode cX7_sumsUp 121 = .ok (.iinc 4 1, 3) := by decide +kernel
theorem dX7_sumsUp_124 : decode cX7_sumsUp 124 = .ok (.goto (-36), 3) := by decide +kernel
theorem dX7_sumsUp_127 : decode cX7_sumsUp 127 = .ok (.aload_n 0, 1) := by decide +kernel
theorem dX7_sumsUp_128 : decode cX7_sumsUp 128 = .ok (.lload_n 2, 1) := by decide +kernel
theorem dX7_sumsUp_129 : decode cX7_sumsUp 129 = .ok (.aload_n 0, 1) := by decide +kernel
theorem dX7_sumsUp_130 : decode cX7_sumsUp 130 = .ok (.getfield 159, 3) := by decide +kernel
theorem dX7_sumsUp_133 : decode cX7_sumsUp 133 = .ok (.lmul, 1) := by decide +kernel
theorem dX7_sumsUp_134 : decode cX7_sumsUp 134 = .ok (.aload_n 0, 1) := by decide +kernel
theorem dX7_sumsUp_135 : decode cX7_sumsUp 135 = .ok (.invokevirtual 192, 3) := by decide +kernel
theorem dX7_sumsUp_138 : decode cX7_sumsUp 138 = .ok (.lsub, 1) := by decide +kernel
theorem dX7_sumsUp_139 : decode cX7_sumsUp 139 = .ok (.putfield 206, 3) := by decide +kernel
theorem dX7_sumsUp_142 : decode cX7_sumsUp 142 = .ok (.return_, 1) := by decide +kernel
theorem dX7_sum_0 : decode cX7_sum 0 = .ok (.aload_n 0, 1) := by decide +kernel
theorem dX7_sum_1 : decode cX7_sum 1 = .ok (.iconst 0, 1) := by decide +kernel
theorem dX7_sum_2 : decode cX7_sum 2 = .ok (.putfield 43, 3) := by decide +kernel
theorem dX7_sum_5 : decode cX7_sum 5 = .ok (.aload_n 0, 1) := by decide +kernel
theorem dX7_sum_6 : decode cX7_sum 6 = .ok (.invokevirtual 209, 3) := by decide +kernel
theorem dX7_sum_9 : decode cX7_sum 9 = .ok (.aload_n 0, 1) := by decide +kernel
theorem dX7_sum_10 : decode cX7_sum 10 = .ok (.getfield 206, 3) := by decide +kernel
theorem dX7_sum_13 : decode cX7_sum 13 = .ok (.aload_n 0, 1) := by decide +kernel
theorem dX7_sum_14 : decode cX7_sum 14 = .ok (.getfield 159, 3) := by decide +kernel
theorem dX7_sum_17 : decode cX7_sum 17 = .ok (.iload_n 1, 1) := by decide +kernel
theorem dX7_sum_18 : decode cX7_sum 18 = .ok (.invokestatic 196, 3) := by decide +kernel
theorem dX7_sum_21 : decode cX7_sum 21 = .ok (.lreturn, 1) := by decide +kernel
theorem dX7_guess_0 : decode cX7_guess 0 = .ok (.aload_n 0, 1) := by decide +kernel
theorem dX7_guess_1 : decode cX7_guess 1 = .ok (.iconst 0, 1) := by decide +kernel
theorem dX7_guess_2 : decode cX7_guess 2 = .ok (.putfield 43, 3) := by decide +kernel
theorem dX7_guess_5 : decode cX7_guess 5 = .ok (.aload_n 0, 1) := by decide +kernel
theorem dX7_guess_6 : decode cX7_guess 6 = .ok (.iload_n 1, 1) := by decide +kernel
theorem dX7_guess_7 : decode cX7_guess 7 = .ok (.iload_n 2, 1) := by decide +kernel
theorem dX7_guess_8 : decode cX7_guess 8 = .ok (.invokevirtual 61, 3) := by decide +kernel
theorem dX7_guess_11 : decode cX7_guess 11 = .ok (.ifCond .eq 12, 3) := by decide +kernel
theorem dX7_guess_14 : decode cX7_guess 14 = .ok (.iload_n 3, 1) := by decide +kernel
theorem dX7_guess_15 : decode cX7_guess 15 = .ok (.iconst (-1), 1) := by decide +kernel
theorem dX7_guess_16 : decode cX7_guess 16 = .ok (.iconst 1, 1) := by decide +kernel
theorem dX7_guess_17 : decode cX7_guess 17 = .ok (.invokestatic 50, 3) := by decide +kernel
theorem dX7_guess_20 : decode cX7_guess 20 = .ok (.ifCond .ne 7, 3) := by decide +kernel
theorem dX7_guess_23 : decode cX7_guess 23 = .ok (.ldc2_w 181, 3) := by decide +kernel
theorem dX7_guess_26 : decode cX7_guess 26 = .ok (.lreturn, 1) := by decide +kernel
theorem dX7_guess_27 : decode cX7_guess 27 = .ok (.aload_n 0, 1) := by decide +kernel
theorem dX7_guess_28 : decode cX7_guess 28 = .ok (.invokevirtual 183, 3) := by decide +kernel
theorem dX7_guess_31 : decode cX7_guess 31 = .ok (.aload_n 0, 1) := by decide +kernel
theorem dX7_guess_32 : decode cX7_guess 32 = .ok (.iload_n 1, 1) := by decide +kernel
theorem dX7_guess_33 : decode cX7_guess 33 = .ok (.iload_n 2, 1) := by decide +kernel
theorem dX7_guess_34 : decode cX7_guess 34 = .ok (.iload_n 3, 1) := by decide +kernel
theorem dX7_guess_35 : decode cX7_guess 35 = .ok (.invokevirtual 149, 3) := by decide +kernel
theorem dX7_guess_38 : decode cX7_guess 38 = .ok (.aload_n 0, 1) := by decide +kernel
theorem dX7_guess_39 : decode cX7_guess 39 = .ok (.invokevirtual 189, 3) := by decide +kernel
theorem dX7_guess_42 : decode cX7_guess 42 = .ok (.ifCond .eq 31, 3) := by decide +kernel
theorem dX7_guess_45 : decode cX7_guess 45 = .ok (.iload 4, 2) := by decide +kernel
theorem dX7_guess_47 : decode cX7_guess 47 = .ok (.ifCond .eq 10, 3) := by decide +kernel
theorem dX7_guess_50 : decode cX7_guess 50 = .ok (.aload_n 0, 1) := by decide +kernel
theorem dX7_guess_51 : decode cX7_guess 51 = .ok (.invokevirtual 199, 3) := by decide +kernel
theorem dX7_guess_54 : decode cX7_guess 54 = .ok (.goto 7, 3) := by decide +kernel
theorem dX7_guess_57 : decode cX7_guess 57 = .ok (.aload_n 0, 1) := by decide +kernel
theorem dX7_guess_58 : decode cX7_guess 58 = .ok (.invokevirtual 192, 3) := by decide +kernel
theorem dX7_guess_61 : decode cX7_guess 61 = .ok (.aload_n 0, 1) := by decide +kernel
theorem dX7_guess_62 : decode cX7_guess 62 = .ok (.getfield 159, 3) := by decide +kernel
theorem dX7_guess_65 : decode cX7_guess 65 = .ok (.iload 5, 2) := by decide +kernel
theorem dX7_guess_67 : decode cX7_guess 67 = .ok (.invokestatic 196, 3) := by decide +kernel
theorem dX7_guess_70 : decode cX7_guess 70 = .ok (.goto 6, 3) := by decide +kernel
theorem dX7_guess_73 : decode cX7_guess 73 = .ok (.ldc2_w 181, 3) := by decide +kernel
theorem dX7_guess_76 : decode cX7_guess 76 = .ok (.lreturn, 1) := by decide +kernel
theorem dX7_isAhead_0 : decode cX7_isAhead 0 = .ok (.aload_n 0, 1) := by decide +kernel
theorem dX7_isAhead_1 : decode cX7_isAhead 1 = .ok (.iload_n 1, 1) := by decide +kernel
theorem dX7_isAhead_2 : decode cX7_isAhead 2 = .ok (.iload_n 2, 1) := by decide +kernel
theorem dX7_isAhead_3 : decode cX7_isAhead 3 = .ok (.invokevirtual 186, 3) := by decide +kernel
theorem dX7_isAhead_6 : decode cX7_isAhead 6 = .ok (.aload_n 0, 1) := by decide +kernel
theorem dX7_isAhead_7 : decode cX7_isAhead 7 = .ok (.invokevirtual 189, 3) := by decide +kernel
theorem dX7_isAhead_10 : decode cX7_isAhead 10 = .ok (.ifCond .eq 12, 3) := by decide +kernel
theorem dX7_isAhead_13 : decode cX7_isAhead 13 = .ok (.aload_n 0, 1) := by decide +kernel
theorem dX7_isAhead_14 : decode cX7_isAhead 14 = .ok (.invokevirtual 192, 3) := by decide +kernel
theorem dX7_isAhead_17 : decode cX7_isAhead 17 = .ok (.lconst 0, 1) := by decide +kernel
theorem dX7_isAhead_18 : decode cX7_isAhead 18 = .ok (.lcmp, 1) := by decide +kernel
theorem dX7_isAhead_19 : decode cX7_isAhead 19 = .ok (.ifCond .gt 5, 3) := by decide +kernel
theorem dX7_isAhead_22 : decode cX7_isAhead 22 = .ok (.iconst 0, 1) := by decide +kernel
theorem dX7_isAhead_23 : decode cX7_isAhead 23 = .ok (.ireturn, 1) := by decide +kernel
theorem dX7_isAhead_24 : decode cX7_isAhead 24 = .ok (.aload_n 0, 1) := by decide +kernel
theorem dX7_isAhead_25 : decode cX7_isAhead 25 = .ok (.invokevirtual 192, 3) := by decide +kernel
theorem dX7_isAhead_28 : decode cX7_isAhead 28 = .ok (.aload_n 0, 1) := by decide +kernel
theorem dX7_isAhead_29 : decode cX7_isAhead 29 = .ok (.getfield 7, 3) := by decide +kernel
theorem dX7_isAhead_32 : decode cX7_isAhead 32 = .ok (.iconst 1, 1) := by decide +kernel
theorem dX7_isAhead_33 : decode cX7_isAhead 33 = .ok (.iaload, 1) := by decide +kernel
theorem dX7_isAhead_34 : decode cX7_isAhead 34 = .ok (.i2l, 1) := by decide +kernel
theorem dX7_isAhead_35 : decode cX7_isAhead 35 = .ok (.aload_n 0, 1) := by decide +kernel
theorem dX7_isAhead_36 : decode cX7_isAhead 36 = .ok (.invokevirtual 199, 3) := by decide +kernel
theorem dX7_isAhead_39 : decode cX7_isAhead 39 = .ok (.lmul, 1) := by decide +kernel
theorem dX7_isAhead_40 : decode cX7_isAhead 40 = .ok (.lcmp, 1) := by decide +kernel
theorem dX7_isAhead_41 : decode cX7_isAhead 41 = .ok (.ifCond .le 7, 3) := by decide +kernel
theorem dX7_isAhead_44 : decode cX7_isAhead 44 = .ok (.iconst 2, 1) := by decide +kernel
theorem dX7_isAhead_45 : decode cX7_isAhead 45 = .ok (.goto 4, 3) := by decide +kernel
theorem dX7_isAhead_48 : decode cX7_isAhead 48 = .ok (.iconst 1, 1) := by decide +kernel
theorem dX7_isAhead_49 : decode cX7_isAhead 49 = .ok (.ireturn, 1) := by decide +kernel
theorem dX7_groupOf_0 : decode cX7_groupOf 0 = .ok (.iconst 0, 1) := by decide +kernel
theorem dX7_groupOf_1 : decode cX7_groupOf 1 = .ok (.istore_n 2, 1) := by decide +kernel
theorem dX7_groupOf_2 : decode cX7_groupOf 2 = .ok (.iconst 0, 1) := by decide +kernel
theorem dX7_groupOf_3 : decode cX7_groupOf 3 = .ok (.istore_n 3, 1) := by decide +kernel
theorem dX7_groupOf_4 : decode cX7_groupOf 4 = .ok (.iload_n 3, 1) := by decide +kernel
theorem dX7_groupOf_5 : decode cX7_groupOf 5 = .ok (.aload_n 0, 1) := by decide +kernel
theorem dX7_groupOf_6 : decode cX7_groupOf 6 = .ok (.invokevirtual 46, 3) := by decide +kernel
theorem dX7_groupOf_9 : decode cX7_groupOf 9 = .ok (.if_icmp .ge 32, 3) := by decide +kernel
theorem dX7_groupOf_12 : decode cX7_groupOf 12 = .ok (.aload_n 0, 1) := by decide +kernel
theorem dX7_groupOf_13 : decode cX7_groupOf 13 = .ok (.iload_n 1, 1) := by decide +kernel
theorem dX7_groupOf_14 : decode cX7_groupOf 14 = .ok (.iload_n 3, 1) := by decide +kernel
theorem dX7_groupOf_15 : decode cX7_groupOf 15 = .ok (.invokevirtual 186, 3) := by decide +kernel
theorem dX7_groupOf_18 : decode cX7_groupOf 18 = .ok (.iload_n 2, 1) := by decide +kernel
theorem dX7_groupOf_19 : decode cX7_groupOf 19 = .ok (.aload_n 0, 1) := by decide +kernel
theorem dX7_groupOf_20 : decode cX7_groupOf 20 = .ok (.invokevirtual 189, 3) := by decide +kernel
theorem dX7_groupOf_23 : decode cX7_groupOf 23 = .ok (.ifCond .eq 9, 3) := by decide +kernel
theorem dX7_groupOf_26 : decode cX7_groupOf 26 = .ok (.iconst 1, 1) := by decide +kernel
theorem dX7_groupOf_27 : decode cX7_groupOf 27 = .ok (.iload_n 3, 1) := by decide +kernel
theorem dX7_groupOf_28 : decode cX7_groupOf 28 = .ok (.ishl, 1) := by decide +kernel
theorem dX7_groupOf_29 : decode cX7_groupOf 29 = .ok (.goto 4, 3) := by decide +kernel
theorem dX7_groupOf_32 : decode cX7_groupOf 32 = .ok (.iconst 0, 1) := by decide +kernel
theorem dX7_groupOf_33 : decode cX7_groupOf 33 = .ok (.ior, 1) := by decide +kernel
theorem dX7_groupOf_34 : decode cX7_groupOf 34 = .ok (.istore_n 2, 1) := by decide +kernel
theorem dX7_groupOf_35 : decode cX7_groupOf 35 = .ok (.iinc 3 1, 3) := by decide +kernel
theorem dX7_groupOf_38 : decode cX7_groupOf 38 = .ok (.goto (-34), 3) := by decide +kernel
theorem dX7_groupOf_41 : decode cX7_groupOf 41 = .ok (.iload_n 2, 1) := by decide +kernel
theorem dX7_groupOf_42 : decode cX7_groupOf 42 = .ok (.ireturn, 1) := by decide +kernel
theorem dX7_rank_0 : decode cX7_rank 0 = .ok (.aload_n 0, 1) := by decide +kernel
theorem dX7_rank_1 : decode cX7_rank 1 = .ok (.iconst 0, 1) := by decide +kernel
theorem dX7_rank_2 : decode cX7_rank 2 = .ok (.putfield 43, 3) := by decide +kernel
theorem dX7_rank_5 : decode cX7_rank 5 = .ok (.aload_n 0, 1) := by decide +kernel
theorem dX7_rank_6 : decode cX7_rank 6 = .ok (.iload_n 1, 1) := by decide +kernel
theorem dX7_rank_7 : decode cX7_rank 7 = .ok (.invokevirtual 113, 3) := by decide +kernel
theorem dX7_rank_10 : decode cX7_rank 10 = .ok (.ifCond .eq 12, 3) := by decide +kernel
theorem dX7_rank_13 : decode cX7_rank 13 = .ok (.iload_n 2, 1) := by decide +kernel
theorem dX7_rank_14 : decode cX7_rank 14 = .ok (.iconst 0, 1) := by decide +kernel
theorem dX7_rank_15 : decode cX7_rank 15 = .ok (.iconst 3, 1) := by decide +kernel
theorem dX7_rank_16 : decode cX7_rank 16 = .ok (.invokestatic 50, 3) := by decide +kernel
theorem dX7_rank_19 : decode cX7_rank 19 = .ok (.ifCond .ne 5, 3) := by decide +kernel
theorem dX7_rank_22 : decode cX7_rank 22 = .ok (.iconst (-1), 1) := by decide +kernel
theorem dX7_rank_23 : decode cX7_rank 23 = .ok (.ireturn, 1) := by decide +kernel
theorem dX7_rank_24 : decode cX7_rank 24 = .ok (.aload_n 0, 1) := by decide +kernel
theorem dX7_rank_25 : decode cX7_rank 25 = .ok (.invokevirtual 183, 3) := by decide +kernel
theorem dX7_rank_28 : decode cX7_rank 28 = .ok (.iload_n 2, 1) := by decide +kernel
theorem dX7_rank_29 : decode cX7_rank 29 = .ok (.iconst 3, 1) := by decide +kernel
theorem dX7_rank_30 : decode cX7_rank 30 = .ok (.if_icmp .ne 9, 3) := by decide +kernel
theorem dX7_rank_33 : decode cX7_rank 33 = .ok (.aload_n 0, 1) := by decide +kernel
theorem dX7_rank_34 : decode cX7_rank 34 = .ok (.iload_n 1, 1) := by decide +kernel
theorem dX7_rank_35 : decode cX7_rank 35 = .ok (.invokevirtual 212, 3) := by decide +kernel
theorem dX7_rank_38 : decode cX7_rank 38 = .ok (.ireturn, 1) := by decide +kernel
theorem dX7_rank_39 : decode cX7_rank 39 = .ok (.iconst 0, 1) := by decide +kernel
theorem dX7_rank_40 : decode cX7_rank 40 = .ok (.istore_n 3, 1) := by decide +kernel
theorem dX7_rank_41 : decode cX7_rank 41 = .ok (.iconst 0, 1) := by decide +kernel
theorem dX7_rank_42 : decode cX7_rank 42 = .ok (.istore 4, 2) := by decide +kernel
theorem dX7_rank_44 : decode cX7_rank 44 = .ok (.iload 4, 2) := by decide +kernel
theorem dX7_rank_46 : decode cX7_rank 46 = .ok (.aload_n 0, 1) := by decide +kernel
theorem dX7_rank_47 : decode cX7_rank 47 = .ok (.invokevirtual 46, 3) := by decide +kernel
theorem dX7_rank_50 : decode cX7_rank 50 = .ok (.if_icmp .ge 65, 3) := by decide +kernel
theorem dX7_rank_53 : decode cX7_rank 53 = .ok (.iload 4, 2) := by decide +kernel
theorem dX7_rank_55 : decode cX7_rank 55 = .ok (.iload_n 1, 1) := by decide +kernel
theorem dX7_rank_56 : decode cX7_rank 56 = .ok (.if_icmp .ne 7, 3) := by decide +kernel
theorem dX7_rank_59 : decode cX7_rank 59 = .ok (.iconst 0, 1) := by decide +kernel
theorem dX7_rank_60 : decode cX7_rank 60 = .ok (.goto 25, 3) := by decide +kernel
theorem dX7_rank_63 : decode cX7_rank 63 = .ok (.iload_n 2, 1) := by decide +kernel
theorem dX7_rank_64 : decode cX7_rank 64 = .ok (.iconst 2, 1) := by decide +kernel
theorem dX7_rank_65 : decode cX7_rank 65 = .ok (.if_icmp .ne 13, 3) := by decide +kernel
theorem dX7_rank_68 : decode cX7_rank 68 = .ok (.aload_n 0, 1) := by decide +kernel
theorem dX7_rank_69 : decode cX7_rank 69 = .ok (.iload_n 1, 1) := by decide +kernel
theorem dX7_rank_70 : decode cX7_rank 70 = .ok (.iload 4, 2) := by decide +kernel
theorem dX7_rank_72 : decode cX7_rank 72 = .ok (.invokevirtual 215, 3) := by decide +kernel
theorem dX7_rank_75 : decode cX7_rank 75 = .ok (.goto 10, 3) := by decide +kernel
theorem dX7_rank_78 : decode cX7_rank 78 = .ok (.aload_n 0, 1) := by decide +kernel
theorem dX7_rank_79 : decode cX7_rank 79 = .ok (.iload 4, 2) := by decide +kernel
theorem dX7_rank_81 : decode cX7_rank 81 = .ok (.iload_n 1, 1) := by decide +kernel
theorem dX7_rank_82 : decode cX7_rank 82 = .ok (.invokevirtual 215, 3) := by decide +kernel
theorem dX7_rank_85 : decode cX7_rank 85 = .ok (.istore 5, 2) := by decide +kernel
theorem dX7_rank_87 : decode cX7_rank 87 = .ok (.iload_n 3, 1) := by decide +kernel
theorem dX7_rank_88 : decode cX7_rank 88 = .ok (.iload 5, 2) := by decide +kernel
theorem dX7_rank_90 : decode cX7_rank 90 = .ok (.iload_n 2, 1) := by decide +kernel
theorem dX7_rank_91 : decode cX7_rank 91 = .ok (.ifCond .ne 7, 3) := by decide +kernel
theorem dX7_rank_94 : decode cX7_rank 94 = .ok (.iconst 0, 1) := by decide +kernel
theorem dX7_rank_95 : decode cX7_rank 95 = .ok (.goto 4, 3) := by decide +kernel
theorem dX7_rank_98 : decode cX7_rank 98 = .ok (.iconst 1, 1) := by decide +kernel
theorem dX7_rank_99 : decode cX7_rank 99 = .ok (.if_icmp .le 7, 3) := by decide +kernel
theorem dX7_rank_102 : decode cX7_rank 102 = .ok (.iconst 1, 1) := by decide +kernel
theorem dX7_rank_103 : decode cX7_rank 103 = .ok (.goto 4, 3) := by decide +kernel
theorem dX7_rank_106 : decode cX7_rank 106 = .ok (.iconst 0, 1) := by decide +kernel
theorem dX7_rank_107 : decode cX7_rank 107 = .ok (.iadd, 1) := by decide +kernel
theorem dX7_rank_108 : decode cX7_rank 108 = .ok (.istore_n 3, 1) := by decide +kernel
theorem dX7_rank_109 : decode cX7_rank 109 = .ok (.iinc 4 1, 3) := by decide +kernel
theorem dX7_rank_112 : decode cX7_rank 112 = .ok (.goto (-68), 3) := by decide +kernel
theorem dX7_rank_115 : decode cX7_rank 115 = .ok (.iload_n 3, 1) := by decide +kernel
theorem dX7_rank_116 : decode cX7_rank 116 = .ok (.ireturn, 1) := by decide +kernel
theorem dX7_couples_0 : decode cX7_couples 0 = .ok (.iconst 0, 1) := by decide +kernel
theorem dX7_couples_1 : decode cX7_couples 1 = .ok (.istore_n 1, 1) := by decide +kernel
theorem dX7_couples_2 : decode cX7_couples 2 = .ok (.aload_n 0, 1) := by decide +kernel
theorem dX7_couples_3 : decode cX7_couples 3 = .ok (.lconst 0, 1) := by decide +kernel
theorem dX7_couples_4 : decode cX7_couples 4 = .ok (.putfield 218, 3) := by decide +kernel
theorem dX7_couples_7 : decode cX7_couples 7 = .ok (.aload_n 0, 1) := by decide +kernel
theorem dX7_couples_8 : decode cX7_couples 8 = .ok (.invokevirtual 143, 3) := by decide +kernel
theorem dX7_couples_11 : decode cX7_couples 11 = .ok (.aload_n 0, 1) := by decide +kernel
theorem dX7_couples_12 : decode cX7_couples 12 = .ok (.invokevirtual 189, 3) := by decide +kernel
theorem dX7_couples_15 : decode cX7_couples 15 = .ok (.istore_n 2, 1) := by decide +kernel
theorem dX7_couples_16 : decode cX7_couples 16 = .ok (.iconst 0, 1) := by decide +kernel
theorem dX7_couples_17 : decode cX7_couples 17 = .ok (.istore_n 3, 1) := by decide +kernel
theorem dX7_couples_18 : decode cX7_couples 18 = .ok (.iload_n 3, 1) := by decide +kernel
theorem dX7_couples_19 : decode cX7_couples 19 = .ok (.aload_n 0, 1) := by decide +kernel
theorem dX7_couples_20 : decode cX7_couples 20 = .ok (.invokevirtual 46, 3) := by decide +kernel
theorem dX7_couples_23 : decode cX7_couples 23 = .ok (.if_icmp .ge 66, 3) := by decide +kernel
theorem dX7_couples_26 : decode cX7_couples 26 = .ok (.iload_n 2, 1) := by decide +kernel
theorem dX7_couples_27 : decode cX7_couples 27 = .ok (.ifCond .eq 62, 3) := by decide +kernel
theorem dX7_couples_30 : decode cX7_couples 30 = .ok (.iload_n 3, 1) := by decide +kernel
theorem dX7_couples_31 : decode cX7_couples 31 = .ok (.iconst 1, 1) := by decide +kernel
theorem dX7_couples_32 : decode cX7_couples 32 = .ok (.iadd, 1) := by decide +kernel
theorem dX7_couples_33 : decode cX7_couples 33 = .ok (.istore 4, 2) := by decide +kernel
theorem dX7_couples_35 : decode cX7_couples 35 = .ok (.iload 4, 2) := by decide +kernel
theorem dX7_couples_37 : decode cX7_couples 37 = .ok (.aload_n 0, 1) := by decide +kernel
theorem dX7_couples_38 : decode cX7_couples 38 = .ok (.invokevirtual 46, 3) := by decide +kernel
theorem dX7_couples_41 : decode cX7_couples 41 = .ok (.if_icmp .ge 42, 3) := by decide +kernel
theorem dX7_couples_44 : decode cX7_couples 44 = .ok (.aload_n 0, 1) := by decide +kernel
theorem dX7_couples_45 : decode cX7_couples 45 = .ok (.iload_n 3, 1) := by decide +kernel
theorem dX7_couples_46 : decode cX7_couples 46 = .ok (.iload 4, 2) := by decide +kernel
theorem dX7_couples_48 : decode cX7_couples 48 = .ok (.invokevirtual 186, 3) := by decide +kernel
theorem dX7_couples_51 : decode cX7_couples 51 = .ok (.aload_n 0, 1) := by decide +kernel
theorem dX7_couples_52 : decode cX7_couples 52 = .ok (.invokevirtual 189, 3) := by decide +kernel
theorem dX7_couples_55 : decode cX7_couples 55 = .ok (.ifCond .ne 6, 3) := by decide +kernel
theorem dX7_couples_58 : decode cX7_couples 58 = .ok (.goto 19, 3) := by decide +kernel
theorem dX7_couples_61 : decode cX7_couples 61 = .ok (.iinc 1 1, 3) := by decide +kernel
theorem dX7_couples_64 : decode cX7_couples 64 = .ok (.aload_n 0, 1) := by decide +kernel
theorem dX7_couples_65 : decode cX7_couples 65 = .ok (.dup, 1) := by decide +kernel
theorem dX7_couples_66 : decode cX7_couples 66 = .ok (.getfield 218, 3) := by decide +kernel
theorem dX7_couples_69 : decode cX7_couples 69 = .ok (.aload_n 0, 1) := by decide +kernel
theorem dX7_couples_70 : decode cX7_couples 70 = .ok (.invokevirtual 199, 3) := by decide +kernel
theorem dX7_couples_73 : decode cX7_couples 73 = .ok (.ladd, 1) := by decide +kernel
theorem dX7_couples_74 : decode cX7_couples 74 = .ok (.putfield 218, 3) := by decide +kernel
theorem dX7_couples_77 : decode cX7_couples 77 = .ok (.iinc 4 1, 3) := by decide +kernel
theorem dX7_couples_80 : decode cX7_couples 80 = .ok (.goto (-45), 3) := by decide +kernel
theorem dX7_couples_83 : decode cX7_couples 83 = .ok (.iinc 3 1, 3) := by decide +kernel
theorem dX7_couples_86 : decode cX7_couples 86 = .ok (.goto (-68), 3) := by decide +kernel
theorem dX7_couples_89 : decode cX7_couples 89 = .ok (.iload_n 1, 1) := by decide +kernel
theorem dX7_couples_90 : decode cX7_couples 90 = .ok (.ireturn, 1) := by decide +kernel
theorem dX7_rankNow_0 : decode cX7_rankNow 0 = .ok (.aload_n 0, 1) := by decide +kernel
theorem dX7_rankNow_1 : decode cX7_rankNow 1 = .ok (.invokevirtual 143, 3) := by decide +kernel
theorem dX7_rankNow_4 : decode cX7_rankNow 4 = .ok (.aload_n 0, 1) := by decide +kernel
theorem dX7_rankNow_5 : decode cX7_rankNow 5 = .ok (.invokevirtual 189, 3) := by decide +kernel
theorem dX7_rankNow_8 : decode cX7_rankNow 8 = .ok (.istore_n 1, 1) := by decide +kernel
theorem dX7_rankNow_9 : decode cX7_rankNow 9 = .ok (.iload_n 1, 1) := by decide +kernel
theorem dX7_rankNow_10 : decode cX7_rankNow 10 = .ok (.ifCond .eq 10, 3) := by decide +kernel
theorem dX7_rankNow_13 : decode cX7_rankNow 13 = .ok (.aload_n 0, 1) := by decide +kernel
theorem dX7_rankNow_14 : decode cX7_rankNow 14 = .ok (.getfield 156, 3) := by decide +kernel
theorem dX7_rankNow_17 : decode cX7_rankNow 17 = .ok (.goto 4, 3) := by decide +kernel
theorem dX7_rankNow_20 : decode cX7_rankNow 20 = .ok (.iconst 0, 1) := by decide +kernel
theorem dX7_rankNow_21 : decode cX7_rankNow 21 = .ok (.ireturn, 1) := by decide +kernel
theorem dX7_groups_0 : decode cX7_groups 0 = .ok (.iconst 0, 1) := by decide +kernel
theorem dX7_groups_1 : decode cX7_groups 1 = .ok (.istore_n 1, 1) := by decide +kernel
theorem dX7_groups_2 : decode cX7_groups 2 = .ok (.iconst 0, 1) := by decide +kernel
theorem dX7_groups_3 : decode cX7_groups 3 = .ok (.istore_n 2, 1) := by decide +kernel
theorem dX7_groups_4 : decode cX7_groups 4 = .ok (.iload_n 2, 1) := by decide +kernel
theorem dX7_groups_5 : decode cX7_groups 5 = .ok (.aload_n 0, 1) := by decide +kernel
theorem dX7_groups_6 : decode cX7_groups 6 = .ok (.invokevirtual 46, 3) := by decide +kernel
theorem dX7_groups_9 : decode cX7_groups 9 = .ok (.if_icmp .ge 29, 3) := by decide +kernel
theorem dX7_groups_12 : decode cX7_groups 12 = .ok (.iload_n 1, 1) := by decide +kernel
theorem dX7_groups_13 : decode cX7_groups 13 = .ok (.aload_n 0, 1) := by decide +kernel
theorem dX7_groups_14 : decode cX7_groups 14 = .ok (.iload_n 2, 1) := by decide +kernel
theorem dX7_groups_15 : decode cX7_groups 15 = .ok (.invokevirtual 212, 3) := by decide +kernel
theorem dX7_groups_18 : decode cX7_groups 18 = .ok (.iconst 1, 1) := by decide +kernel
theorem dX7_groups_19 : decode cX7_groups 19 = .ok (.iload_n 2, 1) := by decide +kernel
theorem dX7_groups_20 : decode cX7_groups 20 = .ok (.ishl, 1) := by decide +kernel
theorem dX7_groups_21 : decode cX7_groups 21 = .ok (.irem, 1) := by decide +kernel
theorem dX7_groups_22 : decode cX7_groups 22 = .ok (.ifCond .ne 7, 3) := by decide +kernel
theorem dX7_groups_25 : decode cX7_groups 25 = .ok (.iconst 1, 1) := by decide +kernel
theorem dX7_groups_26 : decode cX7_groups 26 = .ok (.goto 4, 3) := by decide +kernel
theorem dX7_groups_29 : decode cX7_groups 29 = .ok (.iconst 0, 1) := by decide +kernel
theorem dX7_groups_30 : decode cX7_groups 30 = .ok (.iadd, 1) := by decide +kernel
theorem dX7_groups_31 : decode cX7_groups 31 = .ok (.istore_n 1, 1) := by decide +kernel
theorem dX7_groups_32 : decode cX7_groups 32 = .ok (.iinc 2 1, 3) := by decide +kernel
theorem dX7_groups_35 : decode cX7_groups 35 = .ok (.goto (-31), 3) := by decide +kernel
theorem dX7_groups_38 : decode cX7_groups 38 = .ok (.iload_n 1, 1) := by decide +kernel
theorem dX7_groups_39 : decode cX7_groups 39 = .ok (.ireturn, 1) := by decide +kernel
theorem dX7_count_0 : decode cX7_count 0 = .ok (.aload_n 0, 1) := by decide +kernel
theorem dX7_count_1 : decode cX7_count 1 = .ok (.iconst 0, 1) := by decide +kernel
theorem dX7_count_2 : decode cX7_count 2 = .ok (.putfield 43, 3) := by decide +kernel
theorem dX7_count_5 : decode cX7_count 5 = .ok (.aload_n 0, 1) := by decide +kernel
theorem dX7_count_6 : decode cX7_count 6 = .ok (.invokevirtual 183, 3) := by decide +kernel
theorem dX7_count_9 : decode cX7_count 9 = .ok (.iload_n 1, 1) := by decide +kernel
theorem dX7_count_10 : decode cX7_count 10 = .ok (.tableswitch 79 0 6 #[42, 47, 52, 59, 64, 69, 74], 42) := by decide +kernel
theorem dX7_count_52 : decode cX7_count 52 = .ok (.aload_n 0, 1) := by decide +kernel
theorem dX7_count_53 : decode cX7_count 53 = .ok (.invokevirtual 46, 3) := by decide +kernel
theorem dX7_count_56 : decode cX7_count 56 = .ok (.ireturn, 1) := by decide +kernel
theorem dX7_count_57 : decode cX7_count 57 = .ok (.aload_n 0, 1) := by decide +kernel
theorem dX7_count_58 : decode cX7_count 58 = .ok (.invokevirtual 58, 3) := by decide +kernel
theorem dX7_count_61 : decode cX7_count 61 = .ok (.ireturn, 1) := by decide +kernel
theorem dX7_count_62 : decode cX7_count 62 = .ok (.aload_n 0, 1) := by decide +kernel
theorem dX7_count_63 : decode cX7_count 63 = .ok (.getfield 7, 3) := by decide +kernel
theorem dX7_count_66 : decode cX7_count 66 = .ok (.iconst 1, 1) := by decide +kernel
theorem dX7_count_67 : decode cX7_count 67 = .ok (.iaload, 1) := by decide +kernel
theorem dX7_count_68 : decode cX7_count 68 = .ok (.ireturn, 1) := by decide +kernel
theorem dX7_count_69 : decode cX7_count 69 = .ok (.aload_n 0, 1) := by decide +kernel
theorem dX7_count_70 : decode cX7_count 70 = .ok (.getfield 77, 3) := by decide +kernel
theorem dX7_count_73 : decode cX7_count 73 = .ok (.ireturn, 1) := by decide +kernel
theorem dX7_count_74 : decode cX7_count 74 = .ok (.aload_n 0, 1) := by decide +kernel
theorem dX7_count_75 : decode cX7_count 75 = .ok (.invokevirtual 221, 3) := by decide +kernel
theorem dX7_count_78 : decode cX7_count 78 = .ok (.ireturn, 1) := by decide +kernel
theorem dX7_count_79 : decode cX7_count 79 = .ok (.aload_n 0, 1) := by decide +kernel
theorem dX7_count_80 : decode cX7_count 80 = .ok (.invokevirtual 224, 3) := by decide +kernel
theorem dX7_count_83 : decode cX7_count 83 = .ok (.ireturn, 1) := by decide +kernel
theorem dX7_count_84 : decode cX7_count 84 = .ok (.aload_n 0, 1) := by decide +kernel
theorem dX7_count_85 : decode cX7_count 85 = .ok (.invokevirtual 227, 3) := by decide +kernel
theorem dX7_count_88 : decode cX7_count 88 = .ok (.ireturn, 1) := by decide +kernel
theorem dX7_count_89 : decode cX7_count 89 = .ok (.iconst (-1), 1) := by decide +kernel
theorem dX7_count_90 : decode cX7_count 90 = .ok (.ireturn, 1) := by decide +kernel
theorem dX7_suit_0 : decode cX7_suit 0 = .ok (.aload_n 0, 1) := by decide +kernel
theorem dX7_suit_1 : decode cX7_suit 1 = .ok (.iconst 0, 1) := by decide +kernel
theorem dX7_suit_2 : decode cX7_suit 2 = .ok (.putfield 43, 3) := by decide +kernel
theorem dX7_suit_5 : decode cX7_suit 5 = .ok (.aload_n 0, 1) := by decide +kernel
theorem dX7_suit_6 : decode cX7_suit 6 = .ok (.iload_n 1, 1) := by decide +kernel
theorem dX7_suit_7 : decode cX7_suit 7 = .ok (.invokevirtual 113, 3) := by decide +kernel
theorem dX7_suit_10 : decode cX7_suit 10 = .ok (.ifCond .eq 16, 3) := by decide +kernel
theorem dX7_suit_13 : decode cX7_suit 13 = .ok (.aload_n 0, 1) := by decide +kernel
theorem dX7_suit_14 : decode cX7_suit 14 = .ok (.iload_n 2, 1) := by decide +kernel
theorem dX7_suit_15 : decode cX7_suit 15 = .ok (.invokevirtual 113, 3) := by decide +kernel
theorem dX7_suit_18 : decode cX7_suit 18 = .ok (.ifCond .eq 8, 3) := by decide +kernel
theorem dX7_suit_21 : decode cX7_suit 21 = .ok (.iload_n 1, 1) := by decide +kernel
theorem dX7_suit_22 : decode cX7_suit 22 = .ok (.iload_n 2, 1) := by decide +kernel
theorem dX7_suit_23 : decode cX7_suit 23 = .ok (.if_icmp .ne 7, 3) := by decide +kernel
theorem dX7_suit_26 : decode cX7_suit 26 = .ok (.ldc2_w 181, 3) := by decide +kernel
theorem dX7_suit_29 : decode cX7_suit 29 = .ok (.lreturn, 1) := by decide +kernel
theorem dX7_suit_30 : decode cX7_suit 30 = .ok (.aload_n 0, 1) := by decide +kernel
theorem dX7_suit_31 : decode cX7_suit 31 = .ok (.invokevirtual 183, 3) := by decide +kernel
theorem dX7_suit_34 : decode cX7_suit 34 = .ok (.aload_n 0, 1) := by decide +kernel
theorem dX7_suit_35 : decode cX7_suit 35 = .ok (.invokevirtual 143, 3) := by decide +kernel
theorem dX7_suit_38 : decode cX7_suit 38 = .ok (.aload_n 0, 1) := by decide +kernel
theorem dX7_suit_39 : decode cX7_suit 39 = .ok (.invokevirtual 189, 3) := by decide +kernel
theorem dX7_suit_42 : decode cX7_suit 42 = .ok (.istore 4, 2) := by decide +kernel
theorem dX7_suit_44 : decode cX7_suit 44 = .ok (.lconst 0, 1) := by decide +kernel
theorem dX7_suit_45 : decode cX7_suit 45 = .ok (.lstore 5, 2) := by decide +kernel
theorem dX7_suit_47 : decode cX7_suit 47 = .ok (.iconst 0, 1) := by decide +kernel
theorem dX7_suit_48 : decode cX7_suit 48 = .ok (.istore 7, 2) := by decide +kernel
theorem dX7_suit_50 : decode cX7_suit 50 = .ok (.iload 7, 2) := by decide +kernel
theorem dX7_suit_52 : decode cX7_suit 52 = .ok (.aload_n 0, 1) := by decide +kernel
theorem dX7_suit_53 : decode cX7_suit 53 = .ok (.invokevirtual 58, 3) := by decide +kernel
theorem dX7_suit_56 : decode cX7_suit 56 = .ok (.if_icmp .ge 101, 3) := by decide +kernel
theorem dX7_suit_59 : decode cX7_suit 59 = .ok (.iload 4, 2) := by decide +kernel
theorem dX7_suit_61 : decode cX7_suit 61 = .ok (.ifCond .eq 96, 3) := by decide +kernel
theorem dX7_suit_64 : decode cX7_suit 64 = .ok (.aload_n 0, 1) := by decide +kernel
theorem dX7_suit_65 : decode cX7_suit 65 = .ok (.iload 7, 2) := by decide +kernel
theorem dX7_suit_67 : decode cX7_suit 67 = .ok (.iconst 0, 1) := by decide +kernel
theorem dX7_suit_68 : decode cX7_suit 68 = .ok (.invokevirtual 73, 3) := by decide +kernel
theorem dX7_suit_71 : decode cX7_suit 71 = .ok (.iload_n 1, 1) := by decide +kernel
theorem dX7_suit_72 : decode cX7_suit 72 = .ok (.invokestatic 116, 3) := by decide +kernel
theorem dX7_suit_75 : decode cX7_suit 75 = .ok (.ifCond .eq 21, 3) := by decide +kernel
theorem dX7_suit_78 : decode cX7_suit 78 = .ok (.aload_n 0, 1) := by decide +kernel
theorem dX7_suit_79 : decode cX7_suit 79 = .ok (.iload 7, 2) := by decide +kernel
theorem dX7_suit_81 : decode cX7_suit 81 = .ok (.iconst 0, 1) := by decide +kernel
theorem dX7_suit_82 : decode cX7_suit 82 = .ok (.invokevirtual 73, 3) := by decide +kernel
theorem dX7_suit_85 : decode cX7_suit 85 = .ok (.iload_n 2, 1) := by decide +kernel
theorem dX7_suit_86 : decode cX7_suit 86 = .ok (.invokestatic 116, 3) := by decide +kernel
theorem dX7_suit_89 : decode cX7_suit 89 = .ok (.ifCond .eq 7, 3) := by decide +kernel
theorem dX7_suit_92 : decode cX7_suit 92 = .ok (.iconst 1, 1) := by decide +kernel
theorem dX7_suit_93 : decode cX7_suit 93 = .ok (.goto 36, 3) := by decide +kernel
theorem dX7_suit_96 : decode cX7_suit 96 = .ok (.aload_n 0, 1) := by decide +kernel
theorem dX7_suit_97 : decode cX7_suit 97 = .ok (.iload 7, 2) := by decide +kernel
theorem dX7_suit_99 : decode cX7_suit 99 = .ok (.iconst 1, 1) := by decide +kernel
theorem dX7_suit_100 : decode cX7_suit 100 = .ok (.invokevirtual 73, 3) := by decide +kernel
theorem dX7_suit_103 : decode cX7_suit 103 = .ok (.iload_n 1, 1) := by decide +kernel
theorem dX7_suit_104 : decode cX7_suit 104 = .ok (.invokestatic 116, 3) := by decide +kernel
theorem dX7_suit_107 : decode cX7_suit 107 = .ok (.ifCond .eq 21, 3) := by decide +kernel
theorem dX7_suit_110 : decode cX7_suit 110 = .ok (.aload_n 0, 1) := by decide +kernel
theorem dX7_suit_111 : decode cX7_suit 111 = .ok (.iload 7, 2) := by decide +kernel
theorem dX7_suit_113 : decode cX7_suit 113 = .ok (.iconst 1, 1) := by decide +kernel
theorem dX7_suit_114 : decode cX7_suit 114 = .ok (.invokevirtual 73, 3) := by decide +kernel
theorem dX7_suit_117 : decode cX7_suit 117 = .ok (.iload_n 2, 1) := by decide +kernel
theorem dX7_suit_118 : decode cX7_suit 118 = .ok (.invokestatic 116, 3) := by decide +kernel
theorem dX7_suit_121 : decode cX7_suit 121 = .ok (.ifCond .eq 7, 3) := by decide +kernel
theorem dX7_suit_124 : decode cX7_suit 124 = .ok (.iconst (-1), 1) := by decide +kernel
theorem dX7_suit_125 : decode cX7_suit 125 = .ok (.goto 4, 3) := by decide +kernel
theorem dX7_suit_128 : decode cX7_suit 128 = .ok (.iconst 0, 1) := by decide +kernel
theorem dX7_suit_129 : decode cX7_suit 129 = .ok (.istore 8, 2) := by decide +kernel
theorem dX7_suit_131 : decode cX7_suit 131 = .ok (.iload 8, 2) := by decide +kernel
theorem dX7_suit_133 : decode cX7_suit 133 = .ok (.ifCond .eq 18, 3) := by decide +kernel
theorem dX7_suit_136 : decode cX7_suit 136 = .ok (.lload 5, 2) := by decide +kernel
theorem dX7_suit_138 : decode cX7_suit 138 = .ok (.iload 8, 2) := by decide +kernel
theorem dX7_suit_140 : decode cX7_suit 140 = .ok (.i2l, 1) := by decide +kernel
theorem dX7_suit_141 : decode cX7_suit 141 = .ok (.aload_n 0, 1) := by decide +kernel
theorem dX7_suit_142 : decode cX7_suit 142 = .ok (.iload 7, 2) := by decide +kernel
theorem dX7_suit_144 : decode cX7_suit 144 = .ok (.invokevirtual 202, 3) := by decide +kernel
theorem dX7_suit_147 : decode cX7_suit 147 = .ok (.lmul, 1) := by decide +kernel
theorem dX7_suit_148 : decode cX7_suit 148 = .ok (.ladd, 1) := by decide +kernel
theorem dX7_suit_149 : decode cX7_suit 149 = .ok (.lstore 5, 2) := by decide +kernel
theorem dX7_suit_151 : decode cX7_suit 151 = .ok (.iinc 7 1, 3) := by decide +kernel
theorem dX7_suit_154 : decode cX7_suit 154 = .ok (.goto (-104), 3) := by decide +kernel
theorem dX7_suit_157 : decode cX7_suit 157 = .ok (.lload 5, 2) := by decide +kernel
theorem dX7_suit_159 : decode cX7_suit 159 = .ok (.aload_n 0, 1) := by decide +kernel
theorem dX7_suit_160 : decode cX7_suit 160 = .ok (.getfield 159, 3) := by decide +kernel
theorem dX7_suit_163 : decode cX7_suit 163 = .ok (.iload_n 3, 1) := by decide +kernel
theorem dX7_suit_164 : decode cX7_suit 164 = .ok (.invokestatic 196, 3) := by decide +kernel
theorem dX7_suit_167 : decode cX7_suit 167 = .ok (.lreturn, 1) := by decide +kernel
theorem dX7_isSwap_0 : decode cX7_isSwap 0 = .ok (.aload_n 0, 1) := by decide +kernel
theorem dX7_isSwap_1 : decode cX7_isSwap 1 = .ok (.iload_n 1, 1) := by decide +kernel
theorem dX7_isSwap_2 : decode cX7_isSwap 2 = .ok (.iconst 0, 1) := by decide +kernel
theorem dX7_isSwap_3 : decode cX7_isSwap 3 = .ok (.invokevirtual 73, 3) := by decide +kernel
theorem dX7_isSwap_6 : decode cX7_isSwap 6 = .ok (.iload_n 3, 1) := by decide +kernel
theorem dX7_isSwap_7 : decode cX7_isSwap 7 = .ok (.invokestatic 116, 3) := by decide +kernel
theorem dX7_isSwap_10 : decode cX7_isSwap 10 = .ok (.ifCond .eq 111, 3) := by decide +kernel
theorem dX7_isSwap_13 : decode cX7_isSwap 13 = .ok (.aload_n 0, 1) := by decide +kernel
theorem dX7_isSwap_14 : decode cX7_isSwap 14 = .ok (.iload_n 1, 1) := by decide +kernel
theorem dX7_isSwap_15 : decode cX7_isSwap 15 = .ok (.iconst 1, 1) := by decide +kernel
theorem dX7_isSwap_16 : decode cX7_isSwap 16 = .ok (.invokevirtual 73, 3) := by decide +kernel
theorem dX7_isSwap_19 : decode cX7_isSwap 19 = .ok (.iload 4, 2) := by decide +kernel
theorem dX7_isSwap_21 : decode cX7_isSwap 21 = .ok (.invokestatic 116, 3) := by decide +kernel
theorem dX7_isSwap_24 : decode cX7_isSwap 24 = .ok (.ifCond .eq 97, 3) := by decide +kernel
theorem dX7_isSwap_27 : decode cX7_isSwap 27 = .ok (.aload_n 0, 1) := by decide +kernel
theorem dX7_isSwap_28 : decode cX7_isSwap 28 = .ok (.iload_n 2, 1) := by decide +kernel
theorem dX7_isSwap_29 : decode cX7_isSwap 29 = .ok (.iconst 0, 1) := by decide +kernel
theorem dX7_isSwap_30 : decode cX7_isSwap 30 = .ok (.invokevirtual 73, 3) := by decide +kernel
theorem dX7_isSwap_33 : decode cX7_isSwap 33 = .ok (.iload 4, 2) := by decide +kernel
theorem dX7_isSwap_35 : decode cX7_isSwap 35 = .ok (.invokestatic 116, 3) := by decide +kernel
theorem dX7_isSwap_38 : decode cX7_isSwap 38 = .ok (.ifCond .eq 83, 3) := by decide +kernel
theorem dX7_isSwap_41 : decode cX7_isSwap 41 = .ok (.aload_n 0, 1) := by decide +kernel
theorem dX7_isSwap_42 : decode cX7_isSwap 42 = .ok (.iload_n 2, 1) := by decide +kernel
theorem dX7_isSwap_43 : decode cX7_isSwap 43 = .ok (.iconst 1, 1) := by decide +kernel
theorem dX7_isSwap_44 : decode cX7_isSwap 44 = .ok (.invokevirtual 73, 3) := by decide +kernel
theorem dX7_isSwap_47 : decode cX7_isSwap 47 = .ok (.iload_n 3, 1) := by decide +kernel
theorem dX7_isSwap_48 : decode cX7_isSwap 48 = .ok (.invokestatic 116, 3) := by decide +kernel
theorem dX7_isSwap_51 : decode cX7_isSwap 51 = .ok (.ifCond .eq 70, 3) := by decide +kernel
theorem dX7_isSwap_54 : decode cX7_isSwap 54 = .ok (.aload_n 0, 1) := by decide +kernel
theorem dX7_isSwap_55 : decode cX7_isSwap 55 = .ok (.iload_n 1, 1) := by decide +kernel
theorem dX7_isSwap_56 : decode cX7_isSwap 56 = .ok (.iconst 3, 1) := by decide +kernel
theorem dX7_isSwap_57 : decode cX7_isSwap 57 = .ok (.invokevirtual 73, 3) := by decide +kernel
theorem dX7_isSwap_60 : decode cX7_isSwap 60 = .ok (.aload_n 0, 1) := by decide +kernel
theorem dX7_isSwap_61 : decode cX7_isSwap 61 = .ok (.iload_n 2, 1) := by decide +kernel
theorem dX7_isSwap_62 : decode cX7_isSwap 62 = .ok (.iconst 3, 1) := by decide +kernel
theorem dX7_isSwap_63 : decode cX7_isSwap 63 = .ok (.invokevirtual 73, 3) := by decide +kernel
theorem dX7_isSwap_66 : decode cX7_isSwap 66 = .ok (.if_icmp .ne 55, 3) := by decide +kernel
theorem dX7_isSwap_69 : decode cX7_isSwap 69 = .ok (.aload_n 0, 1) := by decide +kernel
theorem dX7_isSwap_70 : decode cX7_isSwap 70 = .ok (.iload_n 1, 1) := by decide +kernel
theorem dX7_isSwap_71 : decode cX7_isSwap 71 = .ok (.iconst 0, 1) := by decide +kernel
theorem dX7_isSwap_72 : decode cX7_isSwap 72 = .ok (.invokevirtual 73, 3) := by decide +kernel
theorem dX7_isSwap_75 : decode cX7_isSwap 75 = .ok (.iconst 1, 1) := by decide +kernel
theorem dX7_isSwap_76 : decode cX7_isSwap 76 = .ok (.iload_n 3, 1) := by decide +kernel
theorem dX7_isSwap_77 : decode cX7_isSwap 77 = .ok (.ishl, 1) := by decide +kernel
theorem dX7_isSwap_78 : decode cX7_isSwap 78 = .ok (.isub, 1) := by decide +kernel
theorem dX7_isSwap_79 : decode cX7_isSwap 79 = .ok (.aload_n 0, 1) := by decide +kernel
theorem dX7_isSwap_80 : decode cX7_isSwap 80 = .ok (.iload_n 2, 1) := by decide +kernel
theorem dX7_isSwap_81 : decode cX7_isSwap 81 = .ok (.iconst 0, 1) := by decide +kernel
theorem dX7_isSwap_82 : decode cX7_isSwap 82 = .ok (.invokevirtual 73, 3) := by decide +kernel
theorem dX7_isSwap_85 : decode cX7_isSwap 85 = .ok (.iconst 1, 1) := by decide +kernel
theorem dX7_isSwap_86 : decode cX7_isSwap 86 = .ok (.iload 4, 2) := by decide +kernel
theorem dX7_isSwap_88 : decode cX7_isSwap 88 = .ok (.ishl, 1) := by decide +kernel
theorem dX7_isSwap_89 : decode cX7_isSwap 89 = .ok (.isub, 1) := by decide +kernel
theorem dX7_isSwap_90 : decode cX7_isSwap 90 = .ok (.if_icmp .ne 31, 3) := by decide +kernel
theorem dX7_isSwap_93 : decode cX7_isSwap 93 = .ok (.aload_n 0, 1) := by decide +kernel
theorem dX7_isSwap_94 : decode cX7_isSwap 94 = .ok (.iload_n 1, 1) := by decide +kernel
theorem dX7_isSwap_95 : decode cX7_isSwap 95 = .ok (.iconst 1, 1) := by decide +kernel
theorem dX7_isSwap_96 : decode cX7_isSwap 96 = .ok (.invokevirtual 73, 3) := by decide +kernel
theorem dX7_isSwap_99 : decode cX7_isSwap 99 = .ok (.iconst 1, 1) := by decide +kernel
theorem dX7_isSwap_100 : decode cX7_isSwap 100 = .ok (.iload 4, 2) := by decide +kernel
theorem dX7_isSwap_102 : decode cX7_isSwap 102 = .ok (.ishl, 1) := by decide +kernel
theorem dX7_isSwap_103 : decode cX7_isSwap 103 = .ok (.isub, 1) := by decide +kernel
theorem dX7_isSwap_104 : decode cX7_isSwap 104 = .ok (.aload_n 0, 1) := by decide +kernel
theorem dX7_isSwap_105 : decode cX7_isSwap 105 = .ok (.iload_n 2, 1) := by decide +kernel
theorem dX7_isSwap_106 : decode cX7_isSwap 106 = .ok (.iconst 1, 1) := by decide +kernel
theorem dX7_isSwap_107 : decode cX7_isSwap 107 = .ok (.invokevirtual 73, 3) := by decide +kernel
theorem dX7_isSwap_110 : decode cX7_isSwap 110 = .ok (.iconst 1, 1) := by decide +kernel
theorem dX7_isSwap_111 : decode cX7_isSwap 111 = .ok (.iload_n 3, 1) := by decide +kernel
theorem dX7_isSwap_112 : decode cX7_isSwap 112 = .ok (.ishl, 1) := by decide +kernel
theorem dX7_isSwap_113 : decode cX7_isSwap 113 = .ok (.isub, 1) := by decide +kernel
theorem dX7_isSwap_114 : decode cX7_isSwap 114 = .ok (.if_icmp .ne 7, 3) := by decide +kernel
theorem dX7_isSwap_117 : decode cX7_isSwap 117 = .ok (.iconst 1, 1) := by decide +kernel
theorem dX7_isSwap_118 : decode cX7_isSwap 118 = .ok (.goto 4, 3) := by decide +kernel
theorem dX7_isSwap_121 : decode cX7_isSwap 121 = .ok (.iconst 0, 1) := by decide +kernel
theorem dX7_isSwap_122 : decode cX7_isSwap 122 = .ok (.ireturn, 1) := by decide +kernel
theorem dX7_swaps__0 : decode cX7_swaps_ 0 = .ok (.aload_n 0, 1) := by decide +kernel
theorem dX7_swaps__1 : decode cX7_swaps_ 1 = .ok (.iconst 0, 1) := by decide +kernel
theorem dX7_swaps__2 : decode cX7_swaps_ 2 = .ok (.putfield 43, 3) := by decide +kernel
theorem dX7_swaps__5 : decode cX7_swaps_ 5 = .ok (.aload_n 0, 1) := by decide +kernel
theorem dX7_swaps__6 : decode cX7_swaps_ 6 = .ok (.iload_n 1, 1) := by decide +kernel
theorem dX7_swaps__7 : decode cX7_swaps_ 7 = .ok (.invokevirtual 113, 3) := by decide +kernel
theorem dX7_swaps__10 : decode cX7_swaps_ 10 = .ok (.ifCond .eq 25, 3) := by decide +kernel
theorem dX7_swaps__13 : decode cX7_swaps_ 13 = .ok (.aload_n 0, 1) := by decide +kernel
theorem dX7_swaps__14 : decode cX7_swaps_ 14 = .ok (.iload_n 2, 1) := by decide +kernel
theorem dX7_swaps__15 : decode cX7_swaps_ 15 = .ok (.invokevirtual 113, 3) := by decide +kernel
theorem dX7_swaps__18 : decode cX7_swaps_ 18 = .ok (.ifCond .eq 17, 3) := by decide +kernel
theorem dX7_swaps__21 : decode cX7_swaps_ 21 = .ok (.iload_n 1, 1) := by decide +kernel
theorem dX7_swaps__22 : decode cX7_swaps_ 22 = .ok (.iload_n 2, 1) := by decide +kernel
theorem dX7_swaps__23 : decode cX7_swaps_ 23 = .ok (.if_icmp .eq 12, 3) := by decide +kernel
theorem dX7_swaps__26 : decode cX7_swaps_ 26 = .ok (.iload_n 3, 1) := by decide +kernel
theorem dX7_swaps__27 : decode cX7_swaps_ 27 = .ok (.iconst 0, 1) := by decide +kernel
theorem dX7_swaps__28 : decode cX7_swaps_ 28 = .ok (.iconst 2, 1) := by decide +kernel
theorem dX7_swaps__29 : decode cX7_swaps_ 29 = .ok (.invokestatic 50, 3) := by decide +kernel
theorem dX7_swaps__32 : decode cX7_swaps_ 32 = .ok (.ifCond .ne 7, 3) := by decide +kernel
theorem dX7_swaps__35 : decode cX7_swaps_ 35 = .ok (.ldc2_w 181, 3) := by decide +kernel
theorem dX7_swaps__38 : decode cX7_swaps_ 38 = .ok (.lreturn, 1) := by decide +kernel
theorem dX7_swaps__39 : decode cX7_swaps_ 39 = .ok (.iconst 0, 1) := by decide +kernel
theorem dX7_swaps__40 : decode cX7_swaps_ 40 = .ok (.istore 4, 2) := by decide +kernel
theorem dX7_swaps__42 : decode cX7_swaps_ 42 = .ok (.lconst 0, 1) := by decide +kernel
theorem dX7_swaps__43 : decode cX7_swaps_ 43 = .ok (.lstore 5, 2) := by decide +kernel
theorem dX7_swaps__45 : decode cX7_swaps_ 45 = .ok (.iconst 0, 1) := by decide +kernel
theorem dX7_swaps__46 : decode cX7_swaps_ 46 = .ok (.istore 7, 2) := by decide +kernel
theorem dX7_swaps__48 : decode cX7_swaps_ 48 = .ok (.iload 7, 2) := by decide +kernel
theorem dX7_swaps__50 : decode cX7_swaps_ 50 = .ok (.aload_n 0, 1) := by decide +kernel
theorem dX7_swaps__51 : decode cX7_swaps_ 51 = .ok (.invokevirtual 58, 3) := by decide +kernel
theorem dX7_swaps__54 : decode cX7_swaps_ 54 = .ok (.if_icmp .ge 74, 3) := by decide +kernel
theorem dX7_swaps__57 : decode cX7_swaps_ 57 = .ok (.iconst 0, 1) := by decide +kernel
theorem dX7_swaps__58 : decode cX7_swaps_ 58 = .ok (.istore 8, 2) := by decide +kernel
theorem dX7_swaps__60 : decode cX7_swaps_ 60 = .ok (.iload 8, 2) := by decide +kernel
theorem dX7_swaps__62 : decode cX7_swaps_ 62 = .ok (.aload_n 0, 1) := by decide +kernel
theorem dX7_swaps__63 : decode cX7_swaps_ 63 = .ok (.invokevirtual 58, 3) := by decide +kernel
theorem dX7_swaps__66 : decode cX7_swaps_ 66 = .ok (.if_icmp .ge 56, 3) := by decide +kernel
theorem dX7_swaps__69 : decode cX7_swaps_ 69 = .ok (.iload 7, 2) := by decide +kernel
theorem dX7_swaps__71 : decode cX7_swaps_ 71 = .ok (.iload 8, 2) := by decide +kernel
theorem dX7_swaps__73 : decode cX7_swaps_ 73 = .ok (.if_icmp .eq 43, 3) := by decide +kernel
theorem dX7_swaps__76 : decode cX7_swaps_ 76 = .ok (.aload_n 0, 1) := by decide +kernel
theorem dX7_swaps__77 : decode cX7_swaps_ 77 = .ok (.iload 7, 2) := by decide +kernel
theorem dX7_swaps__79 : decode cX7_swaps_ 79 = .ok (.iload 8, 2) := by decide +kernel
theorem dX7_swaps__81 : decode cX7_swaps_ 81 = .ok (.iload_n 1, 1) := by decide +kernel
theorem dX7_swaps__82 : decode cX7_swaps_ 82 = .ok (.iload_n 2, 1) := by decide +kernel
theorem dX7_swaps__83 : decode cX7_swaps_ 83 = .ok (.invokevirtual 230, 3) := by decide +kernel
theorem dX7_swaps__86 : decode cX7_swaps_ 86 = .ok (.ifCond .ne 6, 3) := by decide +kernel
theorem dX7_swaps__89 : decode cX7_swaps_ 89 = .ok (.goto 27, 3) := by decide +kernel
theorem dX7_swaps__92 : decode cX7_swaps_ 92 = .ok (.iinc 4 1, 3) := by decide +kernel
theorem dX7_swaps__95 : decode cX7_swaps_ 95 = .ok (.lload 5, 2) := by decide +kernel
theorem dX7_swaps__97 : decode cX7_swaps_ 97 = .ok (.aload_n 0, 1) := by decide +kernel
theorem dX7_swaps__98 : decode cX7_swaps_ 98 = .ok (.iload 7, 2) := by decide +kernel
theorem dX7_swaps__100 : decode cX7_swaps_ 100 = .ok (.iconst 2, 1) := by decide +kernel
theorem dX7_swaps__101 : decode cX7_swaps_ 101 = .ok (.invokevirtual 73, 3) := by decide +kernel
theorem dX7_swaps__104 : decode cX7_swaps_ 104 = .ok (.aload_n 0, 1) := by decide +kernel
theorem dX7_swaps__105 : decode cX7_swaps_ 105 = .ok (.iload 8, 2) := by decide +kernel
theorem dX7_swaps__107 : decode cX7_swaps_ 107 = .ok (.iconst 2, 1) := by decide +kernel
theorem dX7_swaps__108 : decode cX7_swaps_ 108 = .ok (.invokevirtual 73, 3) := by decide +kernel
theorem dX7_swaps__111 : decode cX7_swaps_ 111 = .ok (.isub, 1) := by decide +kernel
theorem dX7_swaps__112 : decode cX7_swaps_ 112 = .ok (.i2l, 1) := by decide +kernel
theorem dX7_swaps__113 : decode cX7_swaps_ 113 = .ok (.ladd, 1) := by decide +kernel
theorem dX7_swaps__114 : decode cX7_swaps_ 114 = .ok (.lstore 5, 2) := by decide +kernel
theorem dX7_swaps__116 : decode cX7_swaps_ 116 = .ok (.iinc 8 1, 3) := by decide +kernel
theorem dX7_swaps__119 : decode cX7_swaps_ 119 = .ok (.goto (-59), 3) := by decide +kernel
theorem dX7_swaps__122 : decode cX7_swaps_ 122 = .ok (.iinc 7 1, 3) := by decide +kernel
theorem dX7_swaps__125 : decode cX7_swaps_ 125 = .ok (.goto (-77), 3) := by decide +kernel
theorem dX7_swaps__128 : decode cX7_swaps_ 128 = .ok (.iload_n 3, 1) := by decide +kernel
theorem dX7_swaps__129 : decode cX7_swaps_ 129 = .ok (.ifCond .ne 7, 3) := by decide +kernel
theorem dX7_swaps__132 : decode cX7_swaps_ 132 = .ok (.iload 4, 2) := by decide +kernel
theorem dX7_swaps__134 : decode cX7_swaps_ 134 = .ok (.i2l, 1) := by decide +kernel
theorem dX7_swaps__135 : decode cX7_swaps_ 135 = .ok (.lreturn, 1) := by decide +kernel
theorem dX7_swaps__136 : decode cX7_swaps_ 136 = .ok (.iload 4, 2) := by decide +kernel
theorem dX7_swaps__138 : decode cX7_swaps_ 138 = .ok (.ifCond .ne 9, 3) := by decide +kernel
theorem dX7_swaps__141 : decode cX7_swaps_ 141 = .ok (.ldc2_w 181, 3) := by decide +kernel
theorem dX7_swaps__144 : decode cX7_swaps_ 144 = .ok (.goto 25, 3) := by decide +kernel
theorem dX7_swaps__147 : decode cX7_swaps_ 147 = .ok (.lload 5, 2) := by decide +kernel
theorem dX7_swaps__149 : decode cX7_swaps_ 149 = .ok (.ldc2_w 234, 3) := by decide +kernel
theorem dX7_swaps__152 : decode cX7_swaps_ 152 = .ok (.iload 4, 2) := by decide +kernel
theorem dX7_swaps__154 : decode cX7_swaps_ 154 = .ok (.i2l, 1) := by decide +kernel
theorem dX7_swaps__155 : decode cX7_swaps_ 155 = .ok (.lmul, 1) := by decide +kernel
theorem dX7_swaps__156 : decode cX7_swaps_ 156 = .ok (.iload_n 3, 1) := by decide +kernel
theorem dX7_swaps__157 : decode cX7_swaps_ 157 = .ok (.iconst 2, 1) := by decide +kernel
theorem dX7_swaps__158 : decode cX7_swaps_ 158 = .ok (.if_icmp .ne 7, 3) := by decide +kernel
theorem dX7_swaps__161 : decode cX7_swaps_ 161 = .ok (.iconst 1, 1) := by decide +kernel
theorem dX7_swaps__162 : decode cX7_swaps_ 162 = .ok (.goto 4, 3) := by decide +kernel
theorem dX7_swaps__165 : decode cX7_swaps_ 165 = .ok (.iconst 0, 1) := by decide +kernel
theorem dX7_swaps__166 : decode cX7_swaps_ 166 = .ok (.invokestatic 196, 3) := by decide +kernel
theorem dX7_swaps__169 : decode cX7_swaps_ 169 = .ok (.lreturn, 1) := by decide +kernel
theorem dX7_isMatch_0 : decode cX7_isMatch 0 = .ok (.iload_n 1, 1) := by decide +kernel
theorem dX7_isMatch_1 : decode cX7_isMatch 1 = .ok (.iload_n 2, 1) := by decide +kernel
theorem dX7_isMatch_2 : decode cX7_isMatch 2 = .ok (.iand, 1) := by decide +kernel
theorem dX7_isMatch_3 : decode cX7_isMatch 3 = .ok (.ifCond .ne 34, 3) := by decide +kernel
theorem dX7_isMatch_6 : decode cX7_isMatch 6 = .ok (.iload_n 1, 1) := by decide +kernel
theorem dX7_isMatch_7 : decode cX7_isMatch 7 = .ok (.invokestatic 54, 3) := by decide +kernel
theorem dX7_isMatch_10 : decode cX7_isMatch 10 = .ok (.iload_n 3, 1) := by decide +kernel
theorem dX7_isMatch_11 : decode cX7_isMatch 11 = .ok (.if_icmp .ne 26, 3) := by decide +kernel
theorem dX7_isMatch_14 : decode cX7_isMatch 14 = .ok (.iload_n 2, 1) := by decide +kernel
theorem dX7_isMatch_15 : decode cX7_isMatch 15 = .ok (.invokestatic 54, 3) := by decide +kernel
theorem dX7_isMatch_18 : decode cX7_isMatch 18 = .ok (.iload_n 3, 1) := by decide +kernel
theorem dX7_isMatch_19 : decode cX7_isMatch 19 = .ok (.if_icmp .ne 18, 3) := by decide +kernel
theorem dX7_isMatch_22 : decode cX7_isMatch 22 = .ok (.iload_n 1, 1) := by decide +kernel
theorem dX7_isMatch_23 : decode cX7_isMatch 23 = .ok (.iload_n 1, 1) := by decide +kernel
theorem dX7_isMatch_24 : decode cX7_isMatch 24 = .ok (.ineg, 1) := by decide +kernel
theorem dX7_isMatch_25 : decode cX7_isMatch 25 = .ok (.iand, 1) := by decide +kernel
theorem dX7_isMatch_26 : decode cX7_isMatch 26 = .ok (.iload_n 2, 1) := by decide +kernel
theorem dX7_isMatch_27 : decode cX7_isMatch 27 = .ok (.iload_n 2, 1) := by decide +kernel
theorem dX7_isMatch_28 : decode cX7_isMatch 28 = .ok (.ineg, 1) := by decide +kernel
theorem dX7_isMatch_29 : decode cX7_isMatch 29 = .ok (.iand, 1) := by decide +kernel
theorem dX7_isMatch_30 : decode cX7_isMatch 30 = .ok (.if_icmp .ge 7, 3) := by decide +kernel
theorem dX7_isMatch_33 : decode cX7_isMatch 33 = .ok (.iconst 1, 1) := by decide +kernel
theorem dX7_isMatch_34 : decode cX7_isMatch 34 = .ok (.goto 4, 3) := by decide +kernel
theorem dX7_isMatch_37 : decode cX7_isMatch 37 = .ok (.iconst 0, 1) := by decide +kernel
theorem dX7_isMatch_38 : decode cX7_isMatch 38 = .ok (.ireturn, 1) := by decide +kernel
theorem dX7_matched_0 : decode cX7_matched 0 = .ok (.aload_n 0, 1) := by decide +kernel
theorem dX7_matched_1 : decode cX7_matched 1 = .ok (.invokevirtual 183, 3) := by decide +kernel
theorem dX7_matched_4 : decode cX7_matched 4 = .ok (.aload_n 0, 1) := by decide +kernel
theorem dX7_matched_5 : decode cX7_matched 5 = .ok (.iload_n 1, 1) := by decide +kernel
theorem dX7_matched_6 : decode cX7_matched 6 = .ok (.iload_n 2, 1) := by decide +kernel
theorem dX7_matched_7 : decode cX7_matched 7 = .ok (.iconst 0, 1) := by decide +kernel
theorem dX7_matched_8 : decode cX7_matched 8 = .ok (.invokevirtual 149, 3) := by decide +kernel
theorem dX7_matched_11 : decode cX7_matched 11 = .ok (.aload_n 0, 1) := by decide +kernel
theorem dX7_matched_12 : decode cX7_matched 12 = .ok (.iconst 0, 1) := by decide +kernel
theorem dX7_matched_13 : decode cX7_matched 13 = .ok (.invokevirtual 153, 3) := by decide +kernel
theorem dX7_matched_16 : decode cX7_matched 16 = .ok (.aload_n 0, 1) := by decide +kernel
theorem dX7_matched_17 : decode cX7_matched 17 = .ok (.invokevirtual 221, 3) := by decide +kernel
theorem dX7_matched_20 : decode cX7_matched 20 = .ok (.istore_n 3, 1) := by decide +kernel
theorem dX7_matched_21 : decode cX7_matched 21 = .ok (.aload_n 0, 1) := by decide +kernel
theorem dX7_matched_22 : decode cX7_matched 22 = .ok (.getfield 236, 3) := by decide +kernel
theorem dX7_matched_25 : decode cX7_matched 25 = .ok (.ifCond .eq 41, 3) := by decide +kernel
theorem dX7_matched_28 : decode cX7_matched 28 = .ok (.iload_n 3, 1) := by decide +kernel
theorem dX7_matched_29 : decode cX7_matched 29 = .ok (.aload_n 0, 1) := by decide +kernel
theorem dX7_matched_30 : decode cX7_matched 30 = .ok (.getfield 239, 3) := by decide +kernel
theorem dX7_matched_33 : decode cX7_matched 33 = .ok (.if_icmp .gt 33, 3) := by decide +kernel
theorem dX7_matched_36 : decode cX7_matched 36 = .ok (.iload_n 3, 1) := by decide +kernel
theorem dX7_matched_37 : decode cX7_matched 37 = .ok (.aload_n 0, 1) := by decide +kernel
theorem dX7_matched_38 : decode cX7_matched 38 = .ok (.getfield 239, 3) := by decide +kernel
theorem dX7_matched_41 : decode cX7_matched 41 = .ok (.if_icmp .ne 29, 3) := by decide +kernel
theorem dX7_matched_44 : decode cX7_matched 44 = .ok (.aload_n 0, 1) := by decide +kernel
theorem dX7_matched_45 : decode cX7_matched 45 = .ok (.getfield 218, 3) := by decide +kernel
theorem dX7_matched_48 : decode cX7_matched 48 = .ok (.aload_n 0, 1) := by decide +kernel
theorem dX7_matched_49 : decode cX7_matched 49 = .ok (.getfield 159, 3) := by decide +kernel
theorem dX7_matched_52 : decode cX7_matched 52 = .ok (.aload_n 0, 1) := by decide +kernel
theorem dX7_matched_53 : decode cX7_matched 53 = .ok (.getfield 242, 3) := by decide +kernel
theorem dX7_matched_56 : decode cX7_matched 56 = .ok (.aload_n 0, 1) := by decide +kernel
theorem dX7_matched_57 : decode cX7_matched 57 = .ok (.getfield 245, 3) := by decide +kernel
theorem dX7_matched_60 : decode cX7_matched 60 = .ok (.invokestatic 248, 3) := by decide +kernel
theorem dX7_matched_63 : decode cX7_matched 63 = .ok (.ifCond .ge 7, 3) := by decide +kernel
theorem dX7_matched_66 : decode cX7_matched 66 = .ok (.iconst 1, 1) := by decide +kernel
theorem dX7_matched_67 : decode cX7_matched 67 = .ok (.goto 4, 3) := by decide +kernel
theorem dX7_matched_70 : decode cX7_matched 70 = .ok (.iconst 0, 1) := by decide +kernel
theorem dX7_matched_71 : decode cX7_matched 71 = .ok (.istore 4, 2) := by decide +kernel
theorem dX7_matched_73 : decode cX7_matched 73 = .ok (.iload 4, 2) := by decide +kernel
theorem dX7_matched_75 : decode cX7_matched 75 = .ok (.ifCond .ne 4, 3) := by decide +kernel
theorem dX7_matched_78 : decode cX7_matched 78 = .ok (.return_, 1) := by decide +kernel
theorem dX7_matched_79 : decode cX7_matched 79 = .ok (.aload_n 0, 1) := by decide +kernel
theorem dX7_matched_80 : decode cX7_matched 80 = .ok (.iload_n 1, 1) := by decide +kernel
theorem dX7_matched_81 : decode cX7_matched 81 = .ok (.putfield 236, 3) := by decide +kernel
theorem dX7_matched_84 : decode cX7_matched 84 = .ok (.aload_n 0, 1) := by decide +kernel
theorem dX7_matched_85 : decode cX7_matched 85 = .ok (.iload_n 2, 1) := by decide +kernel
theorem dX7_matched_86 : decode cX7_matched 86 = .ok (.putfield 252, 3) := by decide +kernel
theorem dX7_matched_89 : decode cX7_matched 89 = .ok (.aload_n 0, 1) := by decide +kernel
theorem dX7_matched_90 : decode cX7_matched 90 = .ok (.iload_n 3, 1) := by decide +kernel
theorem dX7_matched_91 : decode cX7_matched 91 = .ok (.putfield 239, 3) := by decide +kernel
theorem dX7_matched_94 : decode cX7_matched 94 = .ok (.aload_n 0, 1) := by decide +kernel
theorem dX7_matched_95 : decode cX7_matched 95 = .ok (.aload_n 0, 1) := by decide +kernel
theorem dX7_matched_96 : decode cX7_matched 96 = .ok (.getfield 218, 3) := by decide +kernel
theorem dX7_matched_99 : decode cX7_matched 99 = .ok (.putfield 242, 3) := by decide +kernel
theorem dX7_matched_102 : decode cX7_matched 102 = .ok (.aload_n 0, 1) := by decide +kernel
theorem dX7_matched_103 : decode cX7_matched 103 = .ok (.aload_n 0, 1) := by decide +kernel
theorem dX7_matched_104 : decode cX7_matched 104 = .ok (.getfield 159, 3) := by decide +kernel
theorem dX7_matched_107 : decode cX7_matched 107 = .ok (.putfield 245, 3) := by decide +kernel
theorem dX7_matched_110 : decode cX7_matched 110 = .ok (.return_, 1) := by decide +kernel
theorem dX7_next_0 : decode cX7_next 0 = .ok (.aload_n 0, 1) := by decide +kernel
theorem dX7_next_1 : decode cX7_next 1 = .ok (.iconst 0, 1) := by decide +kernel
theorem dX7_next_2 : decode cX7_next 2 = .ok (.putfield 43, 3) := by decide +kernel
theorem dX7_next_5 : decode cX7_next 5 = .ok (.iload_n 1, 1) := by decide +kernel
theorem dX7_next_6 : decode cX7_next 6 = .ok (.iconst 1, 1) := by decide +kernel
theorem dX7_next_7 : decode cX7_next 7 = .ok (.iconst 3, 1) := by decide +kernel
theorem dX7_next_8 : decode cX7_next 8 = .ok (.invokestatic 50, 3) := by decide +kernel
theorem dX7_next_11 : decode cX7_next 11 = .ok (.ifCond .eq 12, 3) := by decide +kernel
theorem dX7_next_14 : decode cX7_next 14 = .ok (.iload_n 2, 1) := by decide +kernel
theorem dX7_next_15 : decode cX7_next 15 = .ok (.iconst 0, 1) := by decide +kernel
theorem dX7_next_16 : decode cX7_next 16 = .ok (.iconst 4, 1) := by decide +kernel
theorem dX7_next_17 : decode cX7_next 17 = .ok (.invokestatic 50, 3) := by decide +kernel
theorem dX7_next_20 : decode cX7_next 20 = .ok (.ifCond .ne 7, 3) := by decide +kernel
theorem dX7_next_23 : decode cX7_next 23 = .ok (.ldc2_w 255, 3) := by decide +kernel
theorem dX7_next_26 : decode cX7_next 26 = .ok (.lreturn, 1) := by decide +kernel
theorem dX7_next_27 : decode cX7_next 27 = .ok (.aload_n 0, 1) := by decide +kernel
theorem dX7_next_28 : decode cX7_next 28 = .ok (.iconst 0, 1) := by decide +kernel
theorem dX7_next_29 : decode cX7_next 29 = .ok (.putfield 236, 3) := by decide +kernel
theorem dX7_next_32 : decode cX7_next 32 = .ok (.iconst 1, 1) := by decide +kernel
theorem dX7_next_33 : decode cX7_next 33 = .ok (.istore_n 3, 1) := by decide +kernel
theorem dX7_next_34 : decode cX7_next 34 = .ok (.iload_n 3, 1) := by decide +kernel
theorem dX7_next_35 : decode cX7_next 35 = .ok (.iconst 1, 1) := by decide +kernel
theorem dX7_next_36 : decode cX7_next 36 = .ok (.aload_n 0, 1) := by decide +kernel
theorem dX7_next_37 : decode cX7_next 37 = .ok (.invokevirtual 46, 3) := by decide +kernel
theorem dX7_next_40 : decode cX7_next 40 = .ok (.ishl, 1) := by decide +kernel
theorem dX7_next_41 : decode cX7_next 41 = .ok (.if_icmp .ge 47, 3) := by decide +kernel
theorem dX7_next_44 : decode cX7_next 44 = .ok (.iconst 1, 1) := by decide +kernel
theorem dX7_next_45 : decode cX7_next 45 = .ok (.istore 4, 2) := by decide +kernel
theorem dX7_next_47 : decode cX7_next 47 = .ok (.iload 4, 2) := by decide +kernel
theorem dX7_next_49 : decode cX7_next 49 = .ok (.iconst 1, 1) := by decide +kernel
theorem dX7_next_50 : decode cX7_next 50 = .ok (.aload_n 0, 1) := by decide +kernel
theorem dX7_next_51 : decode cX7_next 51 = .ok (.invokevirtual 46, 3) := by decide +kernel
theorem dX7_next_54 : decode cX7_next 54 = .ok (.ishl, 1) := by decide +kernel
theorem dX7_next_55 : decode cX7_next 55 = .ok (.if_icmp .ge 27, 3) := by decide +kernel
theorem dX7_next_58 : decode cX7_next 58 = .ok (.aload_n 0, 1) := by decide +kernel
theorem dX7_next_59 : decode cX7_next 59 = .ok (.iload_n 3, 1) := by decide +kernel
theorem dX7_next_60 : decode cX7_next 60 = .ok (.iload 4, 2) := by decide +kernel
theorem dX7_next_62 : decode cX7_next 62 = .ok (.iload_n 1, 1) := by decide +kernel
theorem dX7_next_63 : decode cX7_next 63 = .ok (.invokevirtual 257, 3) := by decide +kernel
theorem dX7_next_66 : decode cX7_next 66 = .ok (.ifCond .eq 10, 3) := by decide +kernel
theorem dX7_next_69 : decode cX7_next 69 = .ok (.aload_n 0, 1) := by decide +kernel
theorem dX7_next_70 : decode cX7_next 70 = .ok (.iload_n 3, 1) := by decide +kernel
theorem dX7_next_71 : decode cX7_next 71 = .ok (.iload 4, 2) := by decide +kernel
theorem dX7_next_73 : decode cX7_next 73 = .ok (.invokevirtual 260, 3) := by decide +kernel
theorem dX7_next_76 : decode cX7_next 76 = .ok (.iinc 4 1, 3) := by decide +kernel
theorem dX7_next_79 : decode cX7_next 79 = .ok (.goto (-32), 3) := by decide +kernel
theorem dX7_next_82 : decode cX7_next 82 = .ok (.iinc 3 1, 3) := by decide +kernel
theorem dX7_next_85 : decode cX7_next 85 = .ok (.goto (-51), 3) := by decide +kernel
theorem dX7_next_88 : decode cX7_next 88 = .ok (.aload_n 0, 1) := by decide +kernel
theorem dX7_next_89 : decode cX7_next 89 = .ok (.getfield 236, 3) := by decide +kernel
theorem dX7_next_92 : decode cX7_next 92 = .ok (.ifCond .ne 7, 3) := by decide +kernel
theorem dX7_next_95 : decode cX7_next 95 = .ok (.ldc2_w 255, 3) := by decide +kernel
theorem dX7_next_98 : decode cX7_next 98 = .ok (.lreturn, 1) := by decide +kernel
theorem dX7_next_99 : decode cX7_next 99 = .ok (.iload_n 2, 1) := by decide +kernel
theorem dX7_next_100 : decode cX7_next 100 = .ok (.tableswitch 46 0 2 #[28, 34, 40], 28) := by decide +kernel
theorem dX7_next_128 : decode cX7_next 128 = .ok (.aload_n 0, 1) := by decide +kernel
theorem dX7_next_129 : decode cX7_next 129 = .ok (.getfield 236, 3) := by decide +kernel
theorem dX7_next_132 : decode cX7_next 132 = .ok (.i2l, 1) := by decide +kernel
theorem dX7_next_133 : decode cX7_next 133 = .ok (.lreturn, 1) := by decide +kernel
theorem dX7_next_134 : decode cX7_next 134 = .ok (.aload_n 0, 1) := by decide +kernel
theorem dX7_next_135 : decode cX7_next 135 = .ok (.getfield 252, 3) := by decide +kernel
theorem dX7_next_138 : decode cX7_next 138 = .ok (.i2l, 1) := by decide +kernel
theorem dX7_next_139 : decode cX7_next 139 = .ok (.lreturn, 1) := by decide +kernel
theorem dX7_next_140 : decode cX7_next 140 = .ok (.aload_n 0, 1) := by decide +kernel
theorem dX7_next_141 : decode cX7_next 141 = .ok (.getfield 239, 3) := by decide +kernel
theorem dX7_next_144 : decode cX7_next 144 = .ok (.i2l, 1) := by decide +kernel
theorem dX7_next_145 : decode cX7_next 145 = .ok (.lreturn, 1) := by decide +kernel
theorem dX7_next_146 : decode cX7_next 146 = .ok (.aload_n 0, 1) := by decide +kernel
theorem dX7_next_147 : decode cX7_next 147 = .ok (.getfield 242, 3) := by decide +kernel
theorem dX7_next_150 : decode cX7_next 150 = .ok (.aload_n 0, 1) := by decide +kernel
theorem dX7_next_151 : decode cX7_next 151 = .ok (.getfield 245, 3) := by decide +kernel
theorem dX7_next_154 : decode cX7_next 154 = .ok (.iload_n 2, 1) := by decide +kernel
theorem dX7_next_155 : decode cX7_next 155 = .ok (.iconst 4, 1) := by decide +kernel
theorem dX7_next_156 : decode cX7_next 156 = .ok (.if_icmp .ne 7, 3) := by decide +kernel
theorem dX7_next_159 : decode cX7_next 159 = .ok (.iconst 1, 1) := by decide +kernel
theorem dX7_next_160 : decode cX7_next 160 = .ok (.goto 4, 3) := by decide +kernel
theorem dX7_next_163 : decode cX7_next 163 = .ok (.iconst 0, 1) := by decide +kernel
theorem dX7_next_164 : decode cX7_next 164 = .ok (.invokestatic 196, 3) := by decide +kernel
theorem dX7_next_167 : decode cX7_next 167 = .ok (.lreturn, 1) := by decide +kernel
theorem dX7_fewest_0 : decode cX7_fewest 0 = .ok (.aload_n 0, 1) := by decide +kernel
theorem dX7_fewest_1 : decode cX7_fewest 1 = .ok (.iconst 0, 1) := by decide +kernel
theorem dX7_fewest_2 : decode cX7_fewest 2 = .ok (.putfield 43, 3) := by decide +kernel
theorem dX7_fewest_5 : decode cX7_fewest 5 = .ok (.iload_n 1, 1) := by decide +kernel
theorem dX7_fewest_6 : decode cX7_fewest 6 = .ok (.iconst 1, 1) := by decide +kernel
theorem dX7_fewest_7 : decode cX7_fewest 7 = .ok (.iconst 3, 1) := by decide +kernel
theorem dX7_fewest_8 : decode cX7_fewest 8 = .ok (.invokestatic 50, 3) := by decide +kernel
theorem dX7_fewest_11 : decode cX7_fewest 11 = .ok (.ifCond .ne 5, 3) := by decide +kernel
theorem dX7_fewest_14 : decode cX7_fewest 14 = .ok (.iconst (-1), 1) := by decide +kernel
theorem dX7_fewest_15 : decode cX7_fewest 15 = .ok (.ireturn, 1) := by decide +kernel
theorem dX7_fewest_16 : decode cX7_fewest 16 = .ok (.aload_n 0, 1) := by decide +kernel
theorem dX7_fewest_17 : decode cX7_fewest 17 = .ok (.invokevirtual 183, 3) := by decide +kernel
theorem dX7_fewest_20 : decode cX7_fewest 20 = .ok (.aload_n 0, 1) := by decide +kernel
theorem dX7_fewest_21 : decode cX7_fewest 21 = .ok (.invokevirtual 227, 3) := by decide +kernel
theorem dX7_fewest_24 : decode cX7_fewest 24 = .ok (.istore_n 2, 1) := by decide +kernel
theorem dX7_fewest_25 : decode cX7_fewest 25 = .ok (.iconst 1, 1) := by decide +kernel
theorem dX7_fewest_26 : decode cX7_fewest 26 = .ok (.istore_n 3, 1) := by decide +kernel
theorem dX7_fewest_27 : decode cX7_fewest 27 = .ok (.iload_n 3, 1) := by decide +kernel
theorem dX7_fewest_28 : decode cX7_fewest 28 = .ok (.aload_n 0, 1) := by decide +kernel
theorem dX7_fewest_29 : decode cX7_fewest 29 = .ok (.invokevirtual 46, 3) := by decide +kernel
theorem dX7_fewest_32 : decode cX7_fewest 32 = .ok (.if_icmp .ge 20, 3) := by decide +kernel
theorem dX7_fewest_35 : decode cX7_fewest 35 = .ok (.aload_n 0, 1) := by decide +kernel
theorem dX7_fewest_36 : decode cX7_fewest 36 = .ok (.iconst 0, 1) := by decide +kernel
theorem dX7_fewest_37 : decode cX7_fewest 37 = .ok (.iload_n 3, 1) := by decide +kernel
theorem dX7_fewest_38 : decode cX7_fewest 38 = .ok (.invokevirtual 186, 3) := by decide +kernel
theorem dX7_fewest_41 : decode cX7_fewest 41 = .ok (.aload_n 0, 1) := by decide +kernel
theorem dX7_fewest_42 : decode cX7_fewest 42 = .ok (.iconst 0, 1) := by decide +kernel
theorem dX7_fewest_43 : decode cX7_fewest 43 = .ok (.invokevirtual 153, 3) := by decide +kernel
theorem dX7_fewest_46 : decode cX7_fewest 46 = .ok (.iinc 3 1, 3) := by decide +kernel
theorem dX7_fewest_49 : decode cX7_fewest 49 = .ok (.goto (-22), 3) := by decide +kernel
theorem dX7_fewest_52 : decode cX7_fewest 52 = .ok (.aload_n 0, 1) := by decide +kernel
theorem dX7_fewest_53 : decode cX7_fewest 53 = .ok (.invokevirtual 227, 3) := by decide +kernel
theorem dX7_fewest_56 : decode cX7_fewest 56 = .ok (.istore_n 3, 1) := by decide +kernel
theorem dX7_fewest_57 : decode cX7_fewest 57 = .ok (.aload_n 0, 1) := by decide +kernel
theorem dX7_fewest_58 : decode cX7_fewest 58 = .ok (.invokevirtual 183, 3) := by decide +kernel
theorem dX7_fewest_61 : decode cX7_fewest 61 = .ok (.iconst 1, 1) := by decide +kernel
theorem dX7_fewest_62 : decode cX7_fewest 62 = .ok (.istore 4, 2) := by decide +kernel
theorem dX7_fewest_64 : decode cX7_fewest 64 = .ok (.iload 4, 2) := by decide +kernel
theorem dX7_fewest_66 : decode cX7_fewest 66 = .ok (.iconst 1, 1) := by decide +kernel
theorem dX7_fewest_67 : decode cX7_fewest 67 = .ok (.aload_n 0, 1) := by decide +kernel
theorem dX7_fewest_68 : decode cX7_fewest 68 = .ok (.invokevirtual 46, 3) := by decide +kernel
theorem dX7_fewest_71 : decode cX7_fewest 71 = .ok (.ishl, 1) := by decide +kernel
theorem dX7_fewest_72 : decode cX7_fewest 72 = .ok (.if_icmp .ge 58, 3) := by decide +kernel
theorem dX7_fewest_75 : decode cX7_fewest 75 = .ok (.iconst 1, 1) := by decide +kernel
theorem dX7_fewest_76 : decode cX7_fewest 76 = .ok (.istore 5, 2) := by decide +kernel
theorem dX7_fewest_78 : decode cX7_fewest 78 = .ok (.iload 5, 2) := by decide +kernel
theorem dX7_fewest_80 : decode cX7_fewest 80 = .ok (.iconst 1, 1) := by decide +kernel
theorem dX7_fewest_81 : decode cX7_fewest 81 = .ok (.aload_n 0, 1) := by decide +kernel
theorem dX7_fewest_82 : decode cX7_fewest 82 = .ok (.invokevirtual 46, 3) := by decide +kernel
theorem dX7_fewest_85 : decode cX7_fewest 85 = .ok (.ishl, 1) := by decide +kernel
theorem dX7_fewest_86 : decode cX7_fewest 86 = .ok (.if_icmp .ge 38, 3) := by decide +kernel
theorem dX7_fewest_89 : decode cX7_fewest 89 = .ok (.aload_n 0, 1) := by decide +kernel
theorem dX7_fewest_90 : decode cX7_fewest 90 = .ok (.iload 4, 2) := by decide +kernel
theorem dX7_fewest_92 : decode cX7_fewest 92 = .ok (.iload 5, 2) := by decide +kernel
theorem dX7_fewest_94 : decode cX7_fewest 94 = .ok (.iload_n 1, 1) := by decide +kernel
theorem dX7_fewest_95 : decode cX7_fewest 95 = .ok (.invokevirtual 257, 3) := by decide +kernel
theorem dX7_fewest_98 : decode cX7_fewest 98 = .ok (.ifCond .ne 6, 3) := by decide +kernel
theorem dX7_fewest_101 : decode cX7_fewest 101 = .ok (.goto 17, 3) := by decide +kernel
theorem dX7_fewest_104 : decode cX7_fewest 104 = .ok (.aload_n 0, 1) := by decide +kernel
theorem dX7_fewest_105 : decode cX7_fewest 105 = .ok (.iload 4, 2) := by decide +kernel
theorem dX7_fewest_107 : decode cX7_fewest 107 = .ok (.iload 5, 2) := by decide +kernel
theorem dX7_fewest_109 : decode cX7_fewest 109 = .ok (.iconst 0, 1) := by decide +kernel
theorem dX7_fewest_110 : decode cX7_fewest 110 = .ok (.invokevirtual 149, 3) := by decide +kernel
theorem dX7_fewest_113 : decode cX7_fewest 113 = .ok (.aload_n 0, 1) := by decide +kernel
theorem dX7_fewest_114 : decode cX7_fewest 114 = .ok (.iconst 0, 1) := by decide +kernel
theorem dX7_fewest_115 : decode cX7_fewest 115 = .ok (.invokevirtual 153, 3) := by decide +kernel
theorem dX7_fewest_118 : decode cX7_fewest 118 = .ok (.iinc 5 1, 3) := by decide +kernel
theorem dX7_fewest_121 : decode cX7_fewest 121 = .ok (.goto (-43), 3) := by decide +kernel
theorem dX7_fewest_124 : decode cX7_fewest 124 = .ok (.iinc 4 1, 3) := by decide +kernel
theorem dX7_fewest_127 : decode cX7_fewest 127 = .ok (.goto (-63), 3) := by decide +kernel
theorem dX7_fewest_130 : decode cX7_fewest 130 = .ok (.aload_n 0, 1) := by decide +kernel
theorem dX7_fewest_131 : decode cX7_fewest 131 = .ok (.invokevirtual 227, 3) := by decide +kernel
theorem dX7_fewest_134 : decode cX7_fewest 134 = .ok (.iload_n 3, 1) := by decide +kernel
theorem dX7_fewest_135 : decode cX7_fewest 135 = .ok (.if_icmp .eq 8, 3) := by decide +kernel
theorem dX7_fewest_138 : decode cX7_fewest 138 = .ok (.iload_n 2, 1) := by decide +kernel
theorem dX7_fewest_139 : decode cX7_fewest 139 = .ok (.iload_n 3, 1) := by decide +kernel
theorem dX7_fewest_140 : decode cX7_fewest 140 = .ok (.if_icmp .ne 9, 3) := by decide +kernel
theorem dX7_fewest_143 : decode cX7_fewest 143 = .ok (.iload_n 3, 1) := by decide +kernel
theorem dX7_fewest_144 : decode cX7_fewest 144 = .ok (.iload_n 2, 1) := by decide +kernel
theorem dX7_fewest_145 : decode cX7_fewest 145 = .ok (.isub, 1) := by decide +kernel
theorem dX7_fewest_146 : decode cX7_fewest 146 = .ok (.goto 4, 3) := by decide +kernel
theorem dX7_fewest_149 : decode cX7_fewest 149 = .ok (.iconst (-1), 1) := by decide +kernel
theorem dX7_fewest_150 : decode cX7_fewest 150 = .ok (.ireturn, 1) := by decide +kernel
theorem dX7_odd_0 : decode cX7_odd 0 = .ok (.aload_n 0, 1) := by decide +kernel
theorem dX7_odd_1 : decode cX7_odd 1 = .ok (.iconst 0, 1) := by decide +kernel
theorem dX7_odd_2 : decode cX7_odd 2 = .ok (.putfield 43, 3) := by decide +kernel
theorem dX7_odd_5 : decode cX7_odd 5 = .ok (.aload_n 0, 1) := by decide +kernel
theorem dX7_odd_6 : decode cX7_odd 6 = .ok (.invokevirtual 58, 3) := by decide +kernel
theorem dX7_odd_9 : decode cX7_odd 9 = .ok (.ifCond .eq 12, 3) := by decide +kernel
theorem dX7_odd_12 : decode cX7_odd 12 = .ok (.iload_n 1, 1) := by decide +kernel
theorem dX7_odd_13 : decode cX7_odd 13 = .ok (.iconst 0, 1) := by decide +kernel
theorem dX7_odd_14 : decode cX7_odd 14 = .ok (.iconst 2, 1) := by decide +kernel
theorem dX7_odd_15 : decode cX7_odd 15 = .ok (.invokestatic 50, 3) := by decide +kernel
theorem dX7_odd_18 : decode cX7_odd 18 = .ok (.ifCond .ne 7, 3) := by decide +kernel
theorem dX7_odd_21 : decode cX7_odd 21 = .ok (.ldc2_w 255, 3) := by decide +kernel
theorem dX7_odd_24 : decode cX7_odd 24 = .ok (.lreturn, 1) := by decide +kernel
theorem dX7_odd_25 : decode cX7_odd 25 = .ok (.iconst (-1), 1) := by decide +kernel
theorem dX7_odd_26 : decode cX7_odd 26 = .ok (.istore_n 2, 1) := by decide +kernel
theorem dX7_odd_27 : decode cX7_odd 27 = .ok (.lconst 0, 1) := by decide +kernel
theorem dX7_odd_28 : decode cX7_odd 28 = .ok (.lstore_n 3, 1) := by decide +kernel
theorem dX7_odd_29 : decode cX7_odd 29 = .ok (.lconst 1, 1) := by decide +kernel
theorem dX7_odd_30 : decode cX7_odd 30 = .ok (.lstore 5, 2) := by decide +kernel
theorem dX7_odd_32 : decode cX7_odd 32 = .ok (.iconst 0, 1) := by decide +kernel
theorem dX7_odd_33 : decode cX7_odd 33 = .ok (.istore 7, 2) := by decide +kernel
theorem dX7_odd_35 : decode cX7_odd 35 = .ok (.iload 7, 2) := by decide +kernel
theorem dX7_odd_37 : decode cX7_odd 37 = .ok (.bipush 60, 2) := by decide +kernel
theorem dX7_odd_39 : decode cX7_odd 39 = .ok (.if_icmp .ge 23, 3) := by decide +kernel
theorem dX7_odd_42 : decode cX7_odd 42 = .ok (.aload_n 0, 1) := by decide +kernel
theorem dX7_odd_43 : decode cX7_odd 43 = .ok (.getfield 13, 3) := by decide +kernel
theorem dX7_odd_46 : decode cX7_odd 46 = .ok (.iload 7, 2) := by decide +kernel
theorem dX7_odd_48 : decode cX7_odd 48 = .ok (.aload_n 0, 1) := by decide +kernel
theorem dX7_odd_49 : decode cX7_odd 49 = .ok (.getfield 7, 3) := by decide +kernel
theorem dX7_odd_52 : decode cX7_odd 52 = .ok (.iload 7, 2) := by decide +kernel
theorem dX7_odd_54 : decode cX7_odd 54 = .ok (.iaload, 1) := by decide +kernel
theorem dX7_odd_55 : decode cX7_odd 55 = .ok (.iastore, 1) := by decide +kernel
theorem dX7_odd_56 : decode cX7_odd 56 = .ok (.iinc 7 1, 3) := by decide +kernel
theorem dX7_odd_59 : decode cX7_odd 59 = .ok (.goto (-24), 3) := by decide +kernel
theorem dX7_odd_62 : decode cX7_odd 62 = .ok (.aload_n 0, 1) := by decide +kernel
theorem dX7_odd_63 : decode cX7_odd 63 = .ok (.invokevirtual 58, 3) := by decide +kernel
theorem dX7_odd_66 : decode cX7_odd 66 = .ok (.istore 7, 2) := by decide +kernel
theorem dX7_odd_68 : decode cX7_odd 68 = .ok (.iconst 0, 1) := by decide +kernel
theorem dX7_odd_69 : decode cX7_odd 69 = .ok (.istore 8, 2) := by decide +kernel
theorem dX7_odd_71 : decode cX7_odd 71 = .ok (.iload 8, 2) := by decide +kernel
theorem dX7_odd_73 : decode cX7_odd 73 = .ok (.iload 7, 2) := by decide +kernel
theorem dX7_odd_75 : decode cX7_odd 75 = .ok (.if_icmp .ge 88, 3) := by decide +kernel
theorem dX7_odd_78 : decode cX7_odd 78 = .ok (.aload_n 0, 1) := by decide +kernel
theorem dX7_odd_79 : decode cX7_odd 79 = .ok (.iload 8, 2) := by decide +kernel
theorem dX7_odd_81 : decode cX7_odd 81 = .ok (.invokevirtual 69, 3) := by decide +kernel
theorem dX7_odd_84 : decode cX7_odd 84 = .ok (.aload_n 0, 1) := by decide +kernel
theorem dX7_odd_85 : decode cX7_odd 85 = .ok (.invokevirtual 209, 3) := by decide +kernel
theorem dX7_odd_88 : decode cX7_odd 88 = .ok (.iconst 0, 1) := by decide +kernel
theorem dX7_odd_89 : decode cX7_odd 89 = .ok (.istore 9, 2) := by decide +kernel
theorem dX7_odd_91 : decode cX7_odd 91 = .ok (.iload 9, 2) := by decide +kernel
theorem dX7_odd_93 : decode cX7_odd 93 = .ok (.bipush 60, 2) := by decide +kernel
theorem dX7_odd_95 : decode cX7_odd 95 = .ok (.if_icmp .ge 23, 3) := by decide +kernel
theorem dX7_odd_98 : decode cX7_odd 98 = .ok (.aload_n 0, 1) := by decide +kernel
theorem dX7_odd_99 : decode cX7_odd 99 = .ok (.getfield 7, 3) := by decide +kernel
theorem dX7_odd_102 : decode cX7_odd 102 = .ok (.iload 9, 2) := by decide +kernel
theorem dX7_odd_104 : decode cX7_odd 104 = .ok (.aload_n 0, 1) := by decide +kernel
theorem dX7_odd_105 : decode cX7_odd 105 = .ok (.getfield 13, 3) := by decide +kernel
theorem dX7_odd_108 : decode cX7_odd 108 = .ok (.iload 9, 2) := by decide +kernel
theorem dX7_odd_110 : decode cX7_odd 110 = .ok (.iaload, 1) := by decide +kernel
theorem dX7_odd_111 : decode cX7_odd 111 = .ok (.iastore, 1) := by decide +kernel
theorem dX7_odd_112 : decode cX7_odd 112 = .ok (.iinc 9 1, 3) := by decide +kernel
theorem dX7_odd_115 : decode cX7_odd 115 = .ok (.goto (-24), 3) := by decide +kernel
theorem dX7_odd_118 : decode cX7_odd 118 = .ok (.iload_n 2, 1) := by decide +kernel
theorem dX7_odd_119 : decode cX7_odd 119 = .ok (.iconst (-1), 1) := by decide +kernel
theorem dX7_odd_120 : decode cX7_odd 120 = .ok (.if_icmp .eq 23, 3) := by decide +kernel
theorem dX7_odd_123 : decode cX7_odd 123 = .ok (.aload_n 0, 1) := by decide +kernel
theorem dX7_odd_124 : decode cX7_odd 124 = .ok (.getfield 206, 3) := by decide +kernel
theorem dX7_odd_127 : decode cX7_odd 127 = .ok (.aload_n 0, 1) := by decide +kernel
theorem dX7_odd_128 : decode cX7_odd 128 = .ok (.getfield 159, 3) := by decide +kernel
theorem dX7_odd_131 : decode cX7_odd 131 = .ok (.lload_n 3, 1) := by decide +kernel
theorem dX7_odd_132 : decode cX7_odd 132 = .ok (.lload 5, 2) := by decide +kernel
theorem dX7_odd_134 : decode cX7_odd 134 = .ok (.invokestatic 248, 3) := by decide +kernel
theorem dX7_odd_137 : decode cX7_odd 137 = .ok (.ifCond .lt 6, 3) := by decide +kernel
theorem dX7_odd_140 : decode cX7_odd 140 = .ok (.goto 17, 3) := by decide +kernel
theorem dX7_odd_143 : decode cX7_odd 143 = .ok (.iload 8, 2) := by decide +kernel
theorem dX7_odd_145 : decode cX7_odd 145 = .ok (.istore_n 2, 1) := by decide +kernel
theorem dX7_odd_146 : decode cX7_odd 146 = .ok (.aload_n 0, 1) := by decide +kernel
theorem dX7_odd_147 : decode cX7_odd 147 = .ok (.getfield 206, 3) := by decide +kernel
theorem dX7_odd_150 : decode cX7_odd 150 = .ok (.lstore_n 3, 1) := by decide +kernel
theorem dX7_odd_151 : decode cX7_odd 151 = .ok (.aload_n 0, 1) := by decide +kernel
theorem dX7_odd_152 : decode cX7_odd 152 = .ok (.getfield 159, 3) := by decide +kernel
theorem dX7_odd_155 : decode cX7_odd 155 = .ok (.lstore 5, 2) := by decide +kernel
theorem dX7_odd_157 : decode cX7_odd 157 = .ok (.iinc 8 1, 3) := by decide +kernel
theorem dX7_odd_160 : decode cX7_odd 160 = .ok (.goto (-89), 3) := by decide +kernel
theorem dX7_odd_163 : decode cX7_odd 163 = .ok (.iload_n 1, 1) := by decide +kernel
theorem dX7_odd_164 : decode cX7_odd 164 = .ok (.ifCond .ne 8, 3) := by decide +kernel
theorem dX7_odd_167 : decode cX7_odd 167 = .ok (.iload_n 2, 1) := by decide +kernel
theorem dX7_odd_168 : decode cX7_odd 168 = .ok (.i2l, 1) := by decide +kernel
theorem dX7_odd_169 : decode cX7_odd 169 = .ok (.goto 19, 3) := by decide +kernel
theorem dX7_odd_172 : decode cX7_odd 172 = .ok (.lload_n 3, 1) := by decide +kernel
theorem dX7_odd_173 : decode cX7_odd 173 = .ok (.lload 5, 2) := by decide +kernel
theorem dX7_odd_175 : decode cX7_odd 175 = .ok (.iload_n 1, 1) := by decide +kernel
theorem dX7_odd_176 : decode cX7_odd 176 = .ok (.iconst 2, 1) := by decide +kernel
theorem dX7_odd_177 : decode cX7_odd 177 = .ok (.if_icmp .ne 7, 3) := by decide +kernel
theorem dX7_odd_180 : decode cX7_odd 180 = .ok (.iconst 1, 1) := by decide +kernel
theorem dX7_odd_181 : decode cX7_odd 181 = .ok (.goto 4, 3) := by decide +kernel
theorem dX7_odd_184 : decode cX7_odd 184 = .ok (.iconst 0, 1) := by decide +kernel
theorem dX7_odd_185 : decode cX7_odd 185 = .ok (.invokestatic 196, 3) := by decide +kernel
theorem dX7_odd_188 : decode cX7_odd 188 = .ok (.lreturn, 1) := by decide +kernel
theorem dX7_even_0 : decode cX7_even 0 = .ok (.aload_n 0, 1) := by decide +kernel
theorem dX7_even_1 : decode cX7_even 1 = .ok (.iconst 0, 1) := by decide +kernel
theorem dX7_even_2 : decode cX7_even 2 = .ok (.putfield 43, 3) := by decide +kernel
theorem dX7_even_5 : decode cX7_even 5 = .ok (.iload_n 1, 1) := by decide +kernel
theorem dX7_even_6 : decode cX7_even 6 = .ok (.iconst 1, 1) := by decide +kernel
theorem dX7_even_7 : decode cX7_even 7 = .ok (.iconst 3, 1) := by decide +kernel
theorem dX7_even_8 : decode cX7_even 8 = .ok (.invokestatic 50, 3) := by decide +kernel
theorem dX7_even_11 : decode cX7_even 11 = .ok (.ifCond .eq 12, 3) := by decide +kernel
theorem dX7_even_14 : decode cX7_even 14 = .ok (.iload_n 2, 1) := by decide +kernel
theorem dX7_even_15 : decode cX7_even 15 = .ok (.iconst 0, 1) := by decide +kernel
theorem dX7_even_16 : decode cX7_even 16 = .ok (.iconst 1, 1) := by decide +kernel
theorem dX7_even_17 : decode cX7_even 17 = .ok (.invokestatic 50, 3) := by decide +kernel
theorem dX7_even_20 : decode cX7_even 20 = .ok (.ifCond .ne 5, 3) := by decide +kernel
theorem dX7_even_23 : decode cX7_even 23 = .ok (.iconst (-1), 1) := by decide +kernel
theorem dX7_even_24 : decode cX7_even 24 = .ok (.ireturn, 1) := by decide +kernel
theorem dX7_even_25 : decode cX7_even 25 = .ok (.aload_n 0, 1) := by decide +kernel
theorem dX7_even_26 : decode cX7_even 26 = .ok (.invokevirtual 183, 3) := by decide +kernel
theorem dX7_even_29 : decode cX7_even 29 = .ok (.iconst 0, 1) := by decide +kernel
theorem dX7_even_30 : decode cX7_even 30 = .ok (.istore_n 3, 1) := by decide +kernel
theorem dX7_even_31 : decode cX7_even 31 = .ok (.iconst 0, 1) := by decide +kernel
theorem dX7_even_32 : decode cX7_even 32 = .ok (.istore 4, 2) := by decide +kernel
theorem dX7_even_34 : decode cX7_even 34 = .ok (.lconst 0, 1) := by decide +kernel
theorem dX7_even_35 : decode cX7_even 35 = .ok (.lstore 5, 2) := by decide +kernel
theorem dX7_even_37 : decode cX7_even 37 = .ok (.iconst 1, 1) := by decide +kernel
theorem dX7_even_38 : decode cX7_even 38 = .ok (.istore 7, 2) := by decide +kernel
theorem dX7_even_40 : decode cX7_even 40 = .ok (.iload 7, 2) := by decide +kernel
theorem dX7_even_42 : decode cX7_even 42 = .ok (.iconst 1, 1) := by decide +kernel
theorem dX7_even_43 : decode cX7_even 43 = .ok (.aload_n 0, 1) := by decide +kernel
theorem dX7_even_44 : decode cX7_even 44 = .ok (.invokevirtual 46, 3) := by decide +kernel
theorem dX7_even_47 : decode cX7_even 47 = .ok (.ishl, 1) := by decide +kernel
theorem dX7_even_48 : decode cX7_even 48 = .ok (.if_icmp .ge 96, 3) := by decide +kernel
theorem dX7_even_51 : decode cX7_even 51 = .ok (.iconst 1, 1) := by decide +kernel
theorem dX7_even_52 : decode cX7_even 52 = .ok (.istore 8, 2) := by decide +kernel
theorem dX7_even_54 : decode cX7_even 54 = .ok (.iload 8, 2) := by decide +kernel
theorem dX7_even_56 : decode cX7_even 56 = .ok (.iconst 1, 1) := by decide +kernel
theorem dX7_even_57 : decode cX7_even 57 = .ok (.aload_n 0, 1) := by decide +kernel
theorem dX7_even_58 : decode cX7_even 58 = .ok (.invokevirtual 46, 3) := by decide +kernel
theorem dX7_even_61 : decode cX7_even 61 = .ok (.ishl, 1) := by decide +kernel
theorem dX7_even_62 : decode cX7_even 62 = .ok (.if_icmp .ge 76, 3) := by decide +kernel
theorem dX7_even_65 : decode cX7_even 65 = .ok (.aload_n 0, 1) := by decide +kernel
theorem dX7_even_66 : decode cX7_even 66 = .ok (.iload 7, 2) := by decide +kernel
theorem dX7_even_68 : decode cX7_even 68 = .ok (.iload 8, 2) := by decide +kernel
theorem dX7_even_70 : decode cX7_even 70 = .ok (.iload_n 1, 1) := by decide +kernel
theorem dX7_even_71 : decode cX7_even 71 = .ok (.invokevirtual 257, 3) := by decide +kernel
theorem dX7_even_74 : decode cX7_even 74 = .ok (.ifCond .ne 6, 3) := by decide +kernel
theorem dX7_even_77 : decode cX7_even 77 = .ok (.goto 55, 3) := by decide +kernel
theorem dX7_even_80 : decode cX7_even 80 = .ok (.aload_n 0, 1) := by decide +kernel
theorem dX7_even_81 : decode cX7_even 81 = .ok (.iload 7, 2) := by decide +kernel
theorem dX7_even_83 : decode cX7_even 83 = .ok (.iload 8, 2) := by decide +kernel
theorem dX7_even_85 : decode cX7_even 85 = .ok (.iconst 0, 1) := by decide +kernel
theorem dX7_even_86 : decode cX7_even 86 = .ok (.invokevirtual 149, 3) := by decide +kernel
theorem dX7_even_89 : decode cX7_even 89 = .ok (.aload_n 0, 1) := by decide +kernel
theorem dX7_even_90 : decode cX7_even 90 = .ok (.invokevirtual 189, 3) := by decide +kernel
theorem dX7_even_93 : decode cX7_even 93 = .ok (.ifCond .eq 39, 3) := by decide +kernel
theorem dX7_even_96 : decode cX7_even 96 = .ok (.iload_n 3, 1) := by decide +kernel
theorem dX7_even_97 : decode cX7_even 97 = .ok (.ifCond .le 19, 3) := by decide +kernel
theorem dX7_even_100 : decode cX7_even 100 = .ok (.aload_n 0, 1) := by decide +kernel
theorem dX7_even_101 : decode cX7_even 101 = .ok (.invokevirtual 192, 3) := by decide +kernel
theorem dX7_even_104 : decode cX7_even 104 = .ok (.invokestatic 173, 3) := by decide +kernel
theorem dX7_even_107 : decode cX7_even 107 = .ok (.lload 5, 2) := by decide +kernel
theorem dX7_even_109 : decode cX7_even 109 = .ok (.lcmp, 1) := by decide +kernel
theorem dX7_even_110 : decode cX7_even 110 = .ok (.ifCond .lt 6, 3) := by decide +kernel
theorem dX7_even_113 : decode cX7_even 113 = .ok (.goto 19, 3) := by decide +kernel
theorem dX7_even_116 : decode cX7_even 116 = .ok (.iload 7, 2) := by decide +kernel
theorem dX7_even_118 : decode cX7_even 118 = .ok (.istore_n 3, 1) := by decide +kernel
theorem dX7_even_119 : decode cX7_even 119 = .ok (.iload 8, 2) := by decide +kernel
theorem dX7_even_121 : decode cX7_even 121 = .ok (.istore 4, 2) := by decide +kernel
theorem dX7_even_123 : decode cX7_even 123 = .ok (.aload_n 0, 1) := by decide +kernel
theorem dX7_even_124 : decode cX7_even 124 = .ok (.invokevirtual 192, 3) := by decide +kernel
theorem dX7_even_127 : decode cX7_even 127 = .ok (.invokestatic 173, 3) := by decide +kernel
theorem dX7_even_130 : decode cX7_even 130 = .ok (.lstore 5, 2) := by decide +kernel
theorem dX7_even_132 : decode cX7_even 132 = .ok (.iinc 8 1, 3) := by decide +kernel
theorem dX7_even_135 : decode cX7_even 135 = .ok (.goto (-81), 3) := by decide +kernel
theorem dX7_even_138 : decode cX7_even 138 = .ok (.iinc 7 1, 3) := by decide +kernel
theorem dX7_even_141 : decode cX7_even 141 = .ok (.goto (-101), 3) := by decide +kernel
theorem dX7_even_144 : decode cX7_even 144 = .ok (.iload_n 3, 1) := by decide +kernel
theorem dX7_even_145 : decode cX7_even 145 = .ok (.ifCond .ne 7, 3) := by decide +kernel
theorem dX7_even_148 : decode cX7_even 148 = .ok (.iconst (-1), 1) := by decide +kernel
theorem dX7_even_149 : decode cX7_even 149 = .ok (.goto 13, 3) := by decide +kernel
theorem dX7_even_152 : decode cX7_even 152 = .ok (.iload_n 2, 1) := by decide +kernel
theorem dX7_even_153 : decode cX7_even 153 = .ok (.ifCond .ne 7, 3) := by decide +kernel
theorem dX7_even_156 : decode cX7_even 156 = .ok (.iload_n 3, 1) := by decide +kernel
theorem dX7_even_157 : decode cX7_even 157 = .ok (.goto 5, 3) := by decide +kernel
theorem dX7_even_160 : decode cX7_even 160 = .ok (.iload 4, 2) := by decide +kernel
theorem dX7_even_162 : decode cX7_even 162 = .ok (.ireturn, 1) := by decide +kernel
