theorem dX6_init_0 : decode cX6_init 0 = .ok (.aload_n 0, 1) := by decide +kernel
theorem dX6_init_1 : decode cX6_init 1 = .ok (.invokespecial 1, 3) := by decide +kernel
theorem dX6_init_4 : decode cX6_init 4 = .ok (.aload_n 0, 1) := by decide +kernel
theorem dX6_init_5 : decode cX6_init 5 = .ok (.new 7, 3) := by decide +kernel
theorem dX6_init_8 : decode cX6_init 8 = .ok (.dup, 1) := by decide +kernel
theorem dX6_init_9 : decode cX6_init 9 = .ok (.invokespecial 9, 3) := by decide +kernel
theorem dX6_init_12 : decode cX6_init 12 = .ok (.putfield 10, 3) := by decide +kernel
theorem dX6_init_15 : decode cX6_init 15 = .ok (.aload_n 0, 1) := by decide +kernel
theorem dX6_init_16 : decode cX6_init 16 = .ok (.new 16, 3) := by decide +kernel
theorem dX6_init_19 : decode cX6_init 19 = .ok (.dup, 1) := by decide +kernel
theorem dX6_init_20 : decode cX6_init 20 = .ok (.invokespecial 18, 3) := by decide +kernel
theorem dX6_init_23 : decode cX6_init 23 = .ok (.putfield 19, 3) := by decide +kernel
theorem dX6_init_26 : decode cX6_init 26 = .ok (.aload_n 0, 1) := by decide +kernel
theorem dX6_init_27 : decode cX6_init 27 = .ok (.new 23, 3) := by decide +kernel
theorem dX6_init_30 : decode cX6_init 30 = .ok (.dup, 1) := by decide +kernel
theorem dX6_init_31 : decode cX6_init 31 = .ok (.invokespecial 25, 3) := by decide +kernel
theorem dX6_init_34 : decode cX6_init 34 = .ok (.putfield 26, 3) := by decide +kernel
theorem dX6_init_37 : decode cX6_init 37 = .ok (.aload_n 0, 1) := by decide +kernel
theorem dX6_init_38 : decode cX6_init 38 = .ok (.new 23, 3) := by decide +kernel
theorem dX6_init_41 : decode cX6_init 41 = .ok (.dup, 1) := by decide +kernel
theorem dX6_init_42 : decode cX6_init 42 = .ok (.invokespecial 25, 3) := by decide +kernel
theorem dX6_init_45 : decode cX6_init 45 = .ok (.putfield 30, 3) := by decide +kernel
theorem dX6_init_48 : decode cX6_init 48 = .ok (.aload_n 0, 1) := by decide +kernel
theorem dX6_init_49 : decode cX6_init 49 = .ok (.new 33, 3) := by decide +kernel
theorem dX6_init_52 : decode cX6_init 52 = .ok (.dup, 1) := by decide +kernel
theorem dX6_init_53 : decode cX6_init 53 = .ok (.invokespecial 35, 3) := by decide +kernel
theorem dX6_init_56 : decode cX6_init 56 = .ok (.putfield 36, 3) := by decide +kernel
theorem dX6_init_59 : decode cX6_init 59 = .ok (.aload_n 0, 1) := by decide +kernel
theorem dX6_init_60 : decode cX6_init 60 = .ok (.new 33, 3) := by decide +kernel
theorem dX6_init_63 : decode cX6_init 63 = .ok (.dup, 1) := by decide +kernel
theorem dX6_init_64 : decode cX6_init 64 = .ok (.invokespecial 35, 3) := by decide +kernel
theorem dX6_init_67 : decode cX6_init 67 = .ok (.putfield 40, 3) := by decide +kernel
theorem dX6_init_70 : decode cX6_init 70 = .ok (.aload_n 0, 1) := by decide +kernel
theorem dX6_init_71 : decode cX6_init 71 = .ok (.new 33, 3) := by decide +kernel
theorem dX6_init_74 : decode cX6_init 74 = .ok (.dup, 1) := by decide +kernel
theorem dX6_init_75 : decode cX6_init 75 = .ok (.invokespecial 35, 3) := by decide +kernel
theorem dX6_init_78 : decode cX6_init 78 = .ok (.putfield 43, 3) := by decide +kernel
theorem dX6_init_81 : decode cX6_init 81 = .ok (.aload_n 0, 1) := by decide +kernel
theorem dX6_init_82 : decode cX6_init 82 = .ok (.new 46, 3) := by decide +kernel
theorem dX6_init_85 : decode cX6_init 85 = .ok (.dup, 1) := by decide +kernel
theorem dX6_init_86 : decode cX6_init 86 = .ok (.invokespecial 48, 3) := by decide +kernel
theorem dX6_init_89 : decode cX6_init 89 = .ok (.putfield 49, 3) := by decide +kernel
theorem dX6_init_92 : decode cX6_init 92 = .ok (.aload_n 0, 1) := by decide +kernel
theorem dX6_init_93 : decode cX6_init 93 = .ok (.bipush 45, 2) := by decide +kernel
theorem dX6_init_95 : decode cX6_init 95 = .ok (.newarray .int, 2) := by decide +kernel
theorem dX6_init_97 : decode cX6_init 97 = .ok (.putfield 53, 3) := by decide +kernel
theorem dX6_init_100 : decode cX6_init 100 = .ok (.aload_n 0, 1) := by decide +kernel
theorem dX6_init_101 : decode cX6_init 101 = .ok (.bipush 45, 2) := by decide +kernel
theorem dX6_init_103 : decode cX6_init 103 = .ok (.newarray .int, 2) := by decide +kernel
theorem dX6_init_105 : decode cX6_init 105 = .ok (.putfield 57, 3) := by decide +kernel
theorem dX6_init_108 : decode cX6_init 108 = .ok (.aload_n 0, 1) := by decide +kernel
theorem dX6_init_109 : decode cX6_init 109 = .ok (.iconst 0, 1) := by decide +kernel
theorem dX6_init_110 : decode cX6_init 110 = .ok (.putfield 60, 3) := by decide +kernel
theorem dX6_init_113 : decode cX6_init 113 = .ok (.aload_n 0, 1) := by decide +kernel
theorem dX6_init_114 : decode cX6_init 114 = .ok (.iconst (-1), 1) := by decide +kernel
theorem dX6_init_115 : decode cX6_init 115 = .ok (.putfield 64, 3) := by decide +kernel
theorem dX6_init_118 : decode cX6_init 118 = .ok (.return_, 1) := by decide +kernel
theorem dX6_feed_0 : decode cX6_feed 0 = .ok (.aload_n 0, 1) := by decide +kernel
theorem dX6_feed_1 : decode cX6_feed 1 = .ok (.getfield 19, 3) := by decide +kernel
theorem dX6_feed_4 : decode cX6_feed 4 = .ok (.getfield 67, 3) := by decide +kernel
theorem dX6_feed_7 : decode cX6_feed 7 = .ok (.astore 6, 2) := by decide +kernel
theorem dX6_feed_9 : decode cX6_feed 9 = .ok (.aload 6, 2) := by decide +kernel
theorem dX6_feed_11 : decode cX6_feed 11 = .ok (.getfield 71, 3) := by decide +kernel
theorem dX6_feed_14 : decode cX6_feed 14 = .ok (.sipush 280, 3) := by decide +kernel
theorem dX6_feed_17 : decode cX6_feed 17 = .ok (.if_icmp .le 5, 3) := by decide +kernel
theorem dX6_feed_20 : decode cX6_feed 20 = .ok (.iconst (-1), 1) := by decide +kernel
theorem dX6_feed_21 : decode cX6_feed 21 = .ok (.ireturn, 1) := by decide +kernel
theorem dX6_feed_22 : decode cX6_feed 22 = .ok (.aload 6, 2) := by decide +kernel
theorem dX6_feed_24 : decode cX6_feed 24 = .ok (.iload_n 1, 1) := by decide +kernel
theorem dX6_feed_25 : decode cX6_feed 25 = .ok (.invokevirtual 76, 3) := by decide +kernel
theorem dX6_feed_28 : decode cX6_feed 28 = .ok (.aload 6, 2) := by decide +kernel
theorem dX6_feed_30 : decode cX6_feed 30 = .ok (.iload_n 2, 1) := by decide +kernel
theorem dX6_feed_31 : decode cX6_feed 31 = .ok (.invokevirtual 76, 3) := by decide +kernel
theorem dX6_feed_34 : decode cX6_feed 34 = .ok (.aload 6, 2) := by decide +kernel
theorem dX6_feed_36 : decode cX6_feed 36 = .ok (.iload_n 3, 1) := by decide +kernel
theorem dX6_feed_37 : decode cX6_feed 37 = .ok (.invokevirtual 76, 3) := by decide +kernel
theorem dX6_feed_40 : decode cX6_feed 40 = .ok (.aload 6, 2) := by decide +kernel
theorem dX6_feed_42 : decode cX6_feed 42 = .ok (.iload 4, 2) := by decide +kernel
theorem dX6_feed_44 : decode cX6_feed 44 = .ok (.invokevirtual 76, 3) := by decide +kernel
theorem dX6_feed_47 : decode cX6_feed 47 = .ok (.aload 6, 2) := by decide +kernel
theorem dX6_feed_49 : decode cX6_feed 49 = .ok (.iload 5, 2) := by decide +kernel
theorem dX6_feed_51 : decode cX6_feed 51 = .ok (.invokevirtual 76, 3) := by decide +kernel
theorem dX6_feed_54 : decode cX6_feed 54 = .ok (.aload 6, 2) := by decide +kernel
theorem dX6_feed_56 : decode cX6_feed 56 = .ok (.getfield 71, 3) := by decide +kernel
theorem dX6_feed_59 : decode cX6_feed 59 = .ok (.ireturn, 1) := by decide +kernel
theorem dX6_end_0 : decode cX6_end 0 = .ok (.iload_n 1, 1) := by decide +kernel
theorem dX6_end_1 : decode cX6_end 1 = .ok (.ifCond .lt 17, 3) := by decide +kernel
theorem dX6_end_4 : decode cX6_end 4 = .ok (.iload_n 1, 1) := by decide +kernel
theorem dX6_end_5 : decode cX6_end 5 = .ok (.aload_n 0, 1) := by decide +kernel
theorem dX6_end_6 : decode cX6_end 6 = .ok (.getfield 19, 3) := by decide +kernel
theorem dX6_end_9 : decode cX6_end 9 = .ok (.getfield 67, 3) := by decide +kernel
theorem dX6_end_12 : decode cX6_end 12 = .ok (.getfield 71, 3) := by decide +kernel
theorem dX6_end_15 : decode cX6_end 15 = .ok (.if_icmp .le 5, 3) := by decide +kernel
theorem dX6_end_18 : decode cX6_end 18 = .ok (.iconst 0, 1) := by decide +kernel
theorem dX6_end_19 : decode cX6_end 19 = .ok (.ireturn, 1) := by decide +kernel
theorem dX6_end_20 : decode cX6_end 20 = .ok (.aload_n 0, 1) := by decide +kernel
theorem dX6_end_21 : decode cX6_end 21 = .ok (.getfield 19, 3) := by decide +kernel
theorem dX6_end_24 : decode cX6_end 24 = .ok (.getfield 67, 3) := by decide +kernel
theorem dX6_end_27 : decode cX6_end 27 = .ok (.iload_n 1, 1) := by decide +kernel
theorem dX6_end_28 : decode cX6_end 28 = .ok (.putfield 71, 3) := by decide +kernel
theorem dX6_end_31 : decode cX6_end 31 = .ok (.iconst 1, 1) := by decide +kernel
theorem dX6_end_32 : decode cX6_end 32 = .ok (.ireturn, 1) := by decide +kernel
theorem dX6_tell_0 : decode cX6_tell 0 = .ok (.aload_n 0, 1) := by decide +kernel
theorem dX6_tell_1 : decode cX6_tell 1 = .ok (.getfield 19, 3) := by decide +kernel
theorem dX6_tell_4 : decode cX6_tell 4 = .ok (.getfield 80, 3) := by decide +kernel
theorem dX6_tell_7 : decode cX6_tell 7 = .ok (.aload_n 0, 1) := by decide +kernel
theorem dX6_tell_8 : decode cX6_tell 8 = .ok (.getfield 10, 3) := by decide +kernel
theorem dX6_tell_11 : decode cX6_tell 11 = .ok (.invokevirtual 83, 3) := by decide +kernel
theorem dX6_tell_14 : decode cX6_tell 14 = .ok (.aload_n 0, 1) := by decide +kernel
theorem dX6_tell_15 : decode cX6_tell 15 = .ok (.getfield 19, 3) := by decide +kernel
theorem dX6_tell_18 : decode cX6_tell 18 = .ok (.invokevirtual 87, 3) := by decide +kernel
theorem dX6_tell_21 : decode cX6_tell 21 = .ok (.istore_n 1, 1) := by decide +kernel
theorem dX6_tell_22 : decode cX6_tell 22 = .ok (.aload_n 0, 1) := by decide +kernel
theorem dX6_tell_23 : decode cX6_tell 23 = .ok (.getfield 19, 3) := by decide +kernel
theorem dX6_tell_26 : decode cX6_tell 26 = .ok (.getfield 67, 3) := by decide +kernel
theorem dX6_tell_29 : decode cX6_tell 29 = .ok (.iconst 0, 1) := by decide +kernel
theorem dX6_tell_30 : decode cX6_tell 30 = .ok (.putfield 71, 3) := by decide +kernel
theorem dX6_tell_33 : decode cX6_tell 33 = .ok (.aload_n 0, 1) := by decide +kernel
theorem dX6_tell_34 : decode cX6_tell 34 = .ok (.aload_n 0, 1) := by decide +kernel
theorem dX6_tell_35 : decode cX6_tell 35 = .ok (.getfield 19, 3) := by decide +kernel
theorem dX6_tell_38 : decode cX6_tell 38 = .ok (.getfield 91, 3) := by decide +kernel
theorem dX6_tell_41 : decode cX6_tell 41 = .ok (.putfield 60, 3) := by decide +kernel
theorem dX6_tell_44 : decode cX6_tell 44 = .ok (.iload_n 1, 1) := by decide +kernel
theorem dX6_tell_45 : decode cX6_tell 45 = .ok (.ifCond .ne 16, 3) := by decide +kernel
theorem dX6_tell_48 : decode cX6_tell 48 = .ok (.aload_n 0, 1) := by decide +kernel
theorem dX6_tell_49 : decode cX6_tell 49 = .ok (.aload_n 0, 1) := by decide +kernel
theorem dX6_tell_50 : decode cX6_tell 50 = .ok (.getfield 19, 3) := by decide +kernel
theorem dX6_tell_53 : decode cX6_tell 53 = .ok (.getfield 94, 3) := by decide +kernel
theorem dX6_tell_56 : decode cX6_tell 56 = .ok (.putfield 64, 3) := by decide +kernel
theorem dX6_tell_59 : decode cX6_tell 59 = .ok (.iconst (-1), 1) := by decide +kernel
theorem dX6_tell_60 : decode cX6_tell 60 = .ok (.ireturn, 1) := by decide +kernel
theorem dX6_tell_61 : decode cX6_tell 61 = .ok (.aload_n 0, 1) := by decide +kernel
theorem dX6_tell_62 : decode cX6_tell 62 = .ok (.iconst (-1), 1) := by decide +kernel
theorem dX6_tell_63 : decode cX6_tell 63 = .ok (.putfield 64, 3) := by decide +kernel
theorem dX6_tell_66 : decode cX6_tell 66 = .ok (.aload_n 0, 1) := by decide +kernel
theorem dX6_tell_67 : decode cX6_tell 67 = .ok (.getfield 10, 3) := by decide +kernel
theorem dX6_tell_70 : decode cX6_tell 70 = .ok (.aload_n 0, 1) := by decide +kernel
theorem dX6_tell_71 : decode cX6_tell 71 = .ok (.getfield 19, 3) := by decide +kernel
theorem dX6_tell_74 : decode cX6_tell 74 = .ok (.getfield 80, 3) := by decide +kernel
theorem dX6_tell_77 : decode cX6_tell 77 = .ok (.invokevirtual 83, 3) := by decide +kernel
theorem dX6_tell_80 : decode cX6_tell 80 = .ok (.aload_n 0, 1) := by decide +kernel
theorem dX6_tell_81 : decode cX6_tell 81 = .ok (.invokevirtual 97, 3) := by decide +kernel
theorem dX6_tell_84 : decode cX6_tell 84 = .ok (.aload_n 0, 1) := by decide +kernel
theorem dX6_tell_85 : decode cX6_tell 85 = .ok (.getfield 19, 3) := by decide +kernel
theorem dX6_tell_88 : decode cX6_tell 88 = .ok (.getfield 94, 3) := by decide +kernel
theorem dX6_tell_91 : decode cX6_tell 91 = .ok (.ireturn, 1) := by decide +kernel
theorem dX6_fault_0 : decode cX6_fault 0 = .ok (.iload_n 1, 1) := by decide +kernel
theorem dX6_fault_1 : decode cX6_fault 1 = .ok (.ifCond .ne 8, 3) := by decide +kernel
theorem dX6_fault_4 : decode cX6_fault 4 = .ok (.aload_n 0, 1) := by decide +kernel
theorem dX6_fault_5 : decode cX6_fault 5 = .ok (.getfield 60, 3) := by decide +kernel
theorem dX6_fault_8 : decode cX6_fault 8 = .ok (.ireturn, 1) := by decide +kernel
theorem dX6_fault_9 : decode cX6_fault 9 = .ok (.iload_n 1, 1) := by decide +kernel
theorem dX6_fault_10 : decode cX6_fault 10 = .ok (.iconst 1, 1) := by decide +kernel
theorem dX6_fault_11 : decode cX6_fault 11 = .ok (.if_icmp .ne 10, 3) := by decide +kernel
theorem dX6_fault_14 : decode cX6_fault 14 = .ok (.aload_n 0, 1) := by decide +kernel
theorem dX6_fault_15 : decode cX6_fault 15 = .ok (.getfield 64, 3) := by decide +kernel
theorem dX6_fault_18 : decode cX6_fault 18 = .ok (.goto 4, 3) := by decide +kernel
theorem dX6_fault_21 : decode cX6_fault 21 = .ok (.iconst (-1), 1) := by decide +kernel
theorem dX6_fault_22 : decode cX6_fault 22 = .ok (.ireturn, 1) := by decide +kernel
theorem dX6_crew_0 : decode cX6_crew 0 = .ok (.iload_n 1, 1) := by decide +kernel
theorem dX6_crew_1 : decode cX6_crew 1 = .ok (.invokestatic 100, 3) := by decide +kernel
theorem dX6_crew_4 : decode cX6_crew 4 = .ok (.ifCond .ne 5, 3) := by decide +kernel
theorem dX6_crew_7 : decode cX6_crew 7 = .ok (.iconst 0, 1) := by decide +kernel
theorem dX6_crew_8 : decode cX6_crew 8 = .ok (.ireturn, 1) := by decide +kernel
theorem dX6_crew_9 : decode cX6_crew 9 = .ok (.aload_n 0, 1) := by decide +kernel
theorem dX6_crew_10 : decode cX6_crew 10 = .ok (.getfield 10, 3) := by decide +kernel
theorem dX6_crew_13 : decode cX6_crew 13 = .ok (.iload_n 1, 1) := by decide +kernel
theorem dX6_crew_14 : decode cX6_crew 14 = .ok (.invokevirtual 104, 3) := by decide +kernel
theorem dX6_crew_17 : decode cX6_crew 17 = .ok (.aload_n 0, 1) := by decide +kernel
theorem dX6_crew_18 : decode cX6_crew 18 = .ok (.invokevirtual 97, 3) := by decide +kernel
theorem dX6_crew_21 : decode cX6_crew 21 = .ok (.iconst 1, 1) := by decide +kernel
theorem dX6_crew_22 : decode cX6_crew 22 = .ok (.ireturn, 1) := by decide +kernel
theorem dX6_limit_0 : decode cX6_limit 0 = .ok (.iload_n 1, 1) := by decide +kernel
theorem dX6_limit_1 : decode cX6_limit 1 = .ok (.invokestatic 107, 3) := by decide +kernel
theorem dX6_limit_4 : decode cX6_limit 4 = .ok (.ifCond .eq 14, 3) := by decide +kernel
theorem dX6_limit_7 : decode cX6_limit 7 = .ok (.iload_n 1, 1) := by decide +kernel
theorem dX6_limit_8 : decode cX6_limit 8 = .ok (.aload_n 0, 1) := by decide +kernel
theorem dX6_limit_9 : decode cX6_limit 9 = .ok (.getfield 10, 3) := by decide +kernel
theorem dX6_limit_12 : decode cX6_limit 12 = .ok (.getfield 110, 3) := by decide +kernel
theorem dX6_limit_15 : decode cX6_limit 15 = .ok (.if_icmp .ne 5, 3) := by decide +kernel
theorem dX6_limit_18 : decode cX6_limit 18 = .ok (.iconst 0, 1) := by decide +kernel
theorem dX6_limit_19 : decode cX6_limit 19 = .ok (.ireturn, 1) := by decide +kernel
theorem dX6_limit_20 : decode cX6_limit 20 = .ok (.aload_n 0, 1) := by decide +kernel
theorem dX6_limit_21 : decode cX6_limit 21 = .ok (.getfield 10, 3) := by decide +kernel
theorem dX6_limit_24 : decode cX6_limit 24 = .ok (.iload_n 1, 1) := by decide +kernel
theorem dX6_limit_25 : decode cX6_limit 25 = .ok (.putfield 110, 3) := by decide +kernel
theorem dX6_limit_28 : decode cX6_limit 28 = .ok (.iconst 1, 1) := by decide +kernel
theorem dX6_limit_29 : decode cX6_limit 29 = .ok (.ireturn, 1) := by decide +kernel
theorem dX6_race_0 : decode cX6_race 0 = .ok (.aload_n 0, 1) := by decide +kernel
theorem dX6_race_1 : decode cX6_race 1 = .ok (.getfield 10, 3) := by decide +kernel
theorem dX6_race_4 : decode cX6_race 4 = .ok (.iload_n 1, 1) := by decide +kernel
theorem dX6_race_5 : decode cX6_race 5 = .ok (.iload_n 2, 1) := by decide +kernel
theorem dX6_race_6 : decode cX6_race 6 = .ok (.iload 4, 2) := by decide +kernel
theorem dX6_race_8 : decode cX6_race 8 = .ok (.invokevirtual 113, 3) := by decide +kernel
theorem dX6_race_11 : decode cX6_race 11 = .ok (.ifCond .eq 17, 3) := by decide +kernel
theorem dX6_race_14 : decode cX6_race 14 = .ok (.iload_n 3, 1) := by decide +kernel
theorem dX6_race_15 : decode cX6_race 15 = .ok (.sipush (-999), 3) := by decide +kernel
theorem dX6_race_18 : decode cX6_race 18 = .ok (.if_icmp .lt 10, 3) := by decide +kernel
theorem dX6_race_21 : decode cX6_race 21 = .ok (.iload_n 3, 1) := by decide +kernel
theorem dX6_race_22 : decode cX6_race 22 = .ok (.sipush 999, 3) := by decide +kernel
theorem dX6_race_25 : decode cX6_race 25 = .ok (.if_icmp .le 5, 3) := by decide +kernel
theorem dX6_race_28 : decode cX6_race 28 = .ok (.iconst (-1), 1) := by decide +kernel
theorem dX6_race_29 : decode cX6_race 29 = .ok (.ireturn, 1) := by decide +kernel
theorem dX6_race_30 : decode cX6_race 30 = .ok (.aload_n 0, 1) := by decide +kernel
theorem dX6_race_31 : decode cX6_race 31 = .ok (.getfield 10, 3) := by decide +kernel
theorem dX6_race_34 : decode cX6_race 34 = .ok (.invokevirtual 117, 3) := by decide +kernel
theorem dX6_race_37 : decode cX6_race 37 = .ok (.ifCond .eq 6, 3) := by decide +kernel
theorem dX6_race_40 : decode cX6_race 40 = .ok (.bipush (-2), 2) := by decide +kernel
theorem dX6_race_42 : decode cX6_race 42 = .ok (.ireturn, 1) := by decide +kernel
theorem dX6_race_43 : decode cX6_race 43 = .ok (.aload_n 0, 1) := by decide +kernel
theorem dX6_race_44 : decode cX6_race 44 = .ok (.getfield 10, 3) := by decide +kernel
theorem dX6_race_47 : decode cX6_race 47 = .ok (.iload_n 1, 1) := by decide +kernel
theorem dX6_race_48 : decode cX6_race 48 = .ok (.iload_n 2, 1) := by decide +kernel
theorem dX6_race_49 : decode cX6_race 49 = .ok (.iload_n 3, 1) := by decide +kernel
theorem dX6_race_50 : decode cX6_race 50 = .ok (.iload 4, 2) := by decide +kernel
theorem dX6_race_52 : decode cX6_race 52 = .ok (.invokevirtual 120, 3) := by decide +kernel
theorem dX6_race_55 : decode cX6_race 55 = .ok (.aload_n 0, 1) := by decide +kernel
theorem dX6_race_56 : decode cX6_race 56 = .ok (.invokevirtual 97, 3) := by decide +kernel
theorem dX6_race_59 : decode cX6_race 59 = .ok (.aload_n 0, 1) := by decide +kernel
theorem dX6_race_60 : decode cX6_race 60 = .ok (.getfield 10, 3) := by decide +kernel
theorem dX6_race_63 : decode cX6_race 63 = .ok (.getfield 123, 3) := by decide +kernel
theorem dX6_race_66 : decode cX6_race 66 = .ok (.iconst 1, 1) := by decide +kernel
theorem dX6_race_67 : decode cX6_race 67 = .ok (.isub, 1) := by decide +kernel
theorem dX6_race_68 : decode cX6_race 68 = .ok (.ireturn, 1) := by decide +kernel
theorem dX6_strike_0 : decode cX6_strike 0 = .ok (.aload_n 0, 1) := by decide +kernel
theorem dX6_strike_1 : decode cX6_strike 1 = .ok (.getfield 10, 3) := by decide +kernel
theorem dX6_strike_4 : decode cX6_strike 4 = .ok (.iload_n 1, 1) := by decide +kernel
theorem dX6_strike_5 : decode cX6_strike 5 = .ok (.invokevirtual 126, 3) := by decide +kernel
theorem dX6_strike_8 : decode cX6_strike 8 = .ok (.ifCond .ne 5, 3) := by decide +kernel
theorem dX6_strike_11 : decode cX6_strike 11 = .ok (.iconst (-1), 1) := by decide +kernel
theorem dX6_strike_12 : decode cX6_strike 12 = .ok (.ireturn, 1) := by decide +kernel
theorem dX6_strike_13 : decode cX6_strike 13 = .ok (.aload_n 0, 1) := by decide +kernel
theorem dX6_strike_14 : decode cX6_strike 14 = .ok (.getfield 10, 3) := by decide +kernel
theorem dX6_strike_17 : decode cX6_strike 17 = .ok (.iload_n 1, 1) := by decide +kernel
theorem dX6_strike_18 : decode cX6_strike 18 = .ok (.invokevirtual 129, 3) := by decide +kernel
theorem dX6_strike_21 : decode cX6_strike 21 = .ok (.aload_n 0, 1) := by decide +kernel
theorem dX6_strike_22 : decode cX6_strike 22 = .ok (.invokevirtual 97, 3) := by decide +kernel
theorem dX6_strike_25 : decode cX6_strike 25 = .ok (.aload_n 0, 1) := by decide +kernel
theorem dX6_strike_26 : decode cX6_strike 26 = .ok (.getfield 10, 3) := by decide +kernel
theorem dX6_strike_29 : decode cX6_strike 29 = .ok (.getfield 123, 3) := by decide +kernel
theorem dX6_strike_32 : decode cX6_strike 32 = .ok (.ireturn, 1) := by decide +kernel
theorem dX6_count_0 : decode cX6_count 0 = .ok (.iload_n 1, 1) := by decide +kernel
theorem dX6_count_1 : decode cX6_count 1 = .ok (.tableswitch 106 0 6 #[43, 51, 59, 67, 78, 93, 98], 43) := by decide +kernel
theorem dX6_count_44 : decode cX6_count 44 = .ok (.aload_n 0, 1) := by decide +kernel
theorem dX6_count_45 : decode cX6_count 45 = .ok (.getfield 10, 3) := by decide +kernel
theorem dX6_count_48 : decode cX6_count 48 = .ok (.getfield 132, 3) := by decide +kernel
theorem dX6_count_51 : decode cX6_count 51 = .ok (.ireturn, 1) := by decide +kernel
theorem dX6_count_52 : decode cX6_count 52 = .ok (.aload_n 0, 1) := by decide +kernel
theorem dX6_count_53 : decode cX6_count 53 = .ok (.getfield 10, 3) := by decide +kernel
theorem dX6_count_56 : decode cX6_count 56 = .ok (.getfield 123, 3) := by decide +kernel
theorem dX6_count_59 : decode cX6_count 59 = .ok (.ireturn, 1) := by decide +kernel
theorem dX6_count_60 : decode cX6_count 60 = .ok (.aload_n 0, 1) := by decide +kernel
theorem dX6_count_61 : decode cX6_count 61 = .ok (.getfield 10, 3) := by decide +kernel
theorem dX6_count_64 : decode cX6_count 64 = .ok (.getfield 110, 3) := by decide +kernel
theorem dX6_count_67 : decode cX6_count 67 = .ok (.ireturn, 1) := by decide +kernel
theorem dX6_count_68 : decode cX6_count 68 = .ok (.aload_n 0, 1) := by decide +kernel
theorem dX6_count_69 : decode cX6_count 69 = .ok (.getfield 19, 3) := by decide +kernel
theorem dX6_count_72 : decode cX6_count 72 = .ok (.getfield 67, 3) := by decide +kernel
theorem dX6_count_75 : decode cX6_count 75 = .ok (.getfield 71, 3) := by decide +kernel
theorem dX6_count_78 : decode cX6_count 78 = .ok (.ireturn, 1) := by decide +kernel
theorem dX6_count_79 : decode cX6_count 79 = .ok (.aload_n 0, 1) := by decide +kernel
theorem dX6_count_80 : decode cX6_count 80 = .ok (.getfield 26, 3) := by decide +kernel
theorem dX6_count_83 : decode cX6_count 83 = .ok (.aload_n 0, 1) := by decide +kernel
theorem dX6_count_84 : decode cX6_count 84 = .ok (.getfield 10, 3) := by decide +kernel
theorem dX6_count_87 : decode cX6_count 87 = .ok (.getfield 132, 3) := by decide +kernel
theorem dX6_count_90 : decode cX6_count 90 = .ok (.invokevirtual 135, 3) := by decide +kernel
theorem dX6_count_93 : decode cX6_count 93 = .ok (.ireturn, 1) := by decide +kernel
theorem dX6_count_94 : decode cX6_count 94 = .ok (.aload_n 0, 1) := by decide +kernel
theorem dX6_count_95 : decode cX6_count 95 = .ok (.invokevirtual 139, 3) := by decide +kernel
theorem dX6_count_98 : decode cX6_count 98 = .ok (.ireturn, 1) := by decide +kernel
theorem dX6_count_99 : decode cX6_count 99 = .ok (.aload_n 0, 1) := by decide +kernel
theorem dX6_count_100 : decode cX6_count 100 = .ok (.getfield 26, 3) := by decide +kernel
theorem dX6_count_103 : decode cX6_count 103 = .ok (.getfield 143, 3) := by decide +kernel
theorem dX6_count_106 : decode cX6_count 106 = .ok (.ireturn, 1) := by decide +kernel
theorem dX6_count_107 : decode cX6_count 107 = .ok (.iconst (-1), 1) := by decide +kernel
theorem dX6_count_108 : decode cX6_count 108 = .ok (.ireturn, 1) := by decide +kernel
theorem dX6_raced_0 : decode cX6_raced 0 = .ok (.aload_n 0, 1) := by decide +kernel
theorem dX6_raced_1 : decode cX6_raced 1 = .ok (.getfield 10, 3) := by decide +kernel
theorem dX6_raced_4 : decode cX6_raced 4 = .ok (.iload_n 1, 1) := by decide +kernel
theorem dX6_raced_5 : decode cX6_raced 5 = .ok (.invokevirtual 126, 3) := by decide +kernel
theorem dX6_raced_8 : decode cX6_raced 8 = .ok (.ifCond .ne 13, 3) := by decide +kernel
theorem dX6_raced_11 : decode cX6_raced 11 = .ok (.new 146, 3) := by decide +kernel
theorem dX6_raced_14 : decode cX6_raced 14 = .ok (.dup, 1) := by decide +kernel
theorem dX6_raced_15 : decode cX6_raced 15 = .ok (.ldc 148, 2) := by decide +kernel
theorem dX6_raced_17 : decode cX6_raced 17 = .ok (.invokespecial 150, 3) := by decide +kernel
theorem dX6_raced_20 : decode cX6_raced 20 = .ok (.athrow, 1) := by decide +kernel
theorem dX6_raced_21 : decode cX6_raced 21 = .ok (.iload_n 2, 1) := by decide +kernel
theorem dX6_raced_22 : decode cX6_raced 22 = .ok (.tableswitch 70 0 3 #[30, 40, 50, 60], 30) := by decide +kernel
theorem dX6_raced_52 : decode cX6_raced 52 = .ok (.aload_n 0, 1) := by decide +kernel
theorem dX6_raced_53 : decode cX6_raced 53 = .ok (.getfield 10, 3) := by decide +kernel
theorem dX6_raced_56 : decode cX6_raced 56 = .ok (.getfield 153, 3) := by decide +kernel
theorem dX6_raced_59 : decode cX6_raced 59 = .ok (.iload_n 1, 1) := by decide +kernel
theorem dX6_raced_60 : decode cX6_raced 60 = .ok (.iaload, 1) := by decide +kernel
theorem dX6_raced_61 : decode cX6_raced 61 = .ok (.ireturn, 1) := by decide +kernel
theorem dX6_raced_62 : decode cX6_raced 62 = .ok (.aload_n 0, 1) := by decide +kernel
theorem dX6_raced_63 : decode cX6_raced 63 = .ok (.getfield 10, 3) := by decide +kernel
theorem dX6_raced_66 : decode cX6_raced 66 = .ok (.getfield 156, 3) := by decide +kernel
theorem dX6_raced_69 : decode cX6_raced 69 = .ok (.iload_n 1, 1) := by decide +kernel
theorem dX6_raced_70 : decode cX6_raced 70 = .ok (.iaload, 1) := by decide +kernel
theorem dX6_raced_71 : decode cX6_raced 71 = .ok (.ireturn, 1) := by decide +kernel
theorem dX6_raced_72 : decode cX6_raced 72 = .ok (.aload_n 0, 1) := by decide +kernel
theorem dX6_raced_73 : decode cX6_raced 73 = .ok (.getfield 10, 3) := by decide +kernel
theorem dX6_raced_76 : decode cX6_raced 76 = .ok (.getfield 159, 3) := by decide +kernel
theorem dX6_raced_79 : decode cX6_raced 79 = .ok (.iload_n 1, 1) := by decide +kernel
theorem dX6_raced_80 : decode cX6_raced 80 = .ok (.iaload, 1) := by decide +kernel
theorem dX6_raced_81 : decode cX6_raced 81 = .ok (.ireturn, 1) := by decide +kernel
theorem dX6_raced_82 : decode cX6_raced 82 = .ok (.aload_n 0, 1) := by decide +kernel
theorem dX6_raced_83 : decode cX6_raced 83 = .ok (.getfield 10, 3) := by decide +kernel
theorem dX6_raced_86 : decode cX6_raced 86 = .ok (.getfield 162, 3) := by decide +kernel
theorem dX6_raced_89 : decode cX6_raced 89 = .ok (.iload_n 1, 1) := by decide +kernel
theorem dX6_raced_90 : decode cX6_raced 90 = .ok (.iaload, 1) := by decide +kernel
theorem dX6_raced_91 : decode cX6_raced 91 = .ok (.ireturn, 1) := by decide +kernel
theorem dX6_raced_92 : decode cX6_raced 92 = .ok (.new 146, 3) := by decide +kernel
theorem dX6_raced_95 : decode cX6_raced 95 = .ok (.dup, 1) := by decide +kernel
theorem dX6_raced_96 : decode cX6_raced 96 = .ok (.ldc 165, 2) := by decide +kernel
theorem dX6_raced_98 : decode cX6_raced 98 = .ok (.invokespecial 150, 3) := by decide +kernel
theorem dX6_raced_101 : decode cX6_raced 101 = .ok (.athrow, 1) := by decide +kernel
theorem dX6_difference_0 : decode cX6_difference 0 = .ok (.aload_n 0, 1) := by decide +kernel
theorem dX6_difference_1 : decode cX6_difference 1 = .ok (.getfield 10, 3) := by decide +kernel
theorem dX6_difference_4 : decode cX6_difference 4 = .ok (.iload_n 1, 1) := by decide +kernel
theorem dX6_difference_5 : decode cX6_difference 5 = .ok (.invokevirtual 167, 3) := by decide +kernel
theorem dX6_difference_8 : decode cX6_difference 8 = .ok (.ifCond .eq 14, 3) := by decide +kernel
theorem dX6_difference_11 : decode cX6_difference 11 = .ok (.aload_n 0, 1) := by decide +kernel
theorem dX6_difference_12 : decode cX6_difference 12 = .ok (.getfield 10, 3) := by decide +kernel
theorem dX6_difference_15 : decode cX6_difference 15 = .ok (.iload_n 2, 1) := by decide +kernel
theorem dX6_difference_16 : decode cX6_difference 16 = .ok (.invokevirtual 167, 3) := by decide +kernel
theorem dX6_difference_19 : decode cX6_difference 19 = .ok (.ifCond .ne 7, 3) := by decide +kernel
theorem dX6_difference_22 : decode cX6_difference 22 = .ok (.ldc2_w 170, 3) := by decide +kernel
theorem dX6_difference_25 : decode cX6_difference 25 = .ok (.lreturn, 1) := by decide +kernel
theorem dX6_difference_26 : decode cX6_difference 26 = .ok (.aload_n 0, 1) := by decide +kernel
theorem dX6_difference_27 : decode cX6_difference 27 = .ok (.iconst 1, 1) := by decide +kernel
theorem dX6_difference_28 : decode cX6_difference 28 = .ok (.iload_n 1, 1) := by decide +kernel
theorem dX6_difference_29 : decode cX6_difference 29 = .ok (.ishl, 1) := by decide +kernel
theorem dX6_difference_30 : decode cX6_difference 30 = .ok (.iconst 1, 1) := by decide +kernel
theorem dX6_difference_31 : decode cX6_difference 31 = .ok (.iload_n 2, 1) := by decide +kernel
theorem dX6_difference_32 : decode cX6_difference 32 = .ok (.ishl, 1) := by decide +kernel
theorem dX6_difference_33 : decode cX6_difference 33 = .ok (.iconst 0, 1) := by decide +kernel
theorem dX6_difference_34 : decode cX6_difference 34 = .ok (.iconst 0, 1) := by decide +kernel
theorem dX6_difference_35 : decode cX6_difference 35 = .ok (.iload_n 3, 1) := by decide +kernel
theorem dX6_difference_36 : decode cX6_difference 36 = .ok (.invokevirtual 172, 3) := by decide +kernel
theorem dX6_difference_39 : decode cX6_difference 39 = .ok (.lreturn, 1) := by decide +kernel
theorem dX6_doubt_0 : decode cX6_doubt 0 = .ok (.aload_n 0, 1) := by decide +kernel
theorem dX6_doubt_1 : decode cX6_doubt 1 = .ok (.getfield 10, 3) := by decide +kernel
theorem dX6_doubt_4 : decode cX6_doubt 4 = .ok (.iload_n 1, 1) := by decide +kernel
theorem dX6_doubt_5 : decode cX6_doubt 5 = .ok (.invokevirtual 167, 3) := by decide +kernel
theorem dX6_doubt_8 : decode cX6_doubt 8 = .ok (.ifCond .eq 14, 3) := by decide +kernel
theorem dX6_doubt_11 : decode cX6_doubt 11 = .ok (.aload_n 0, 1) := by decide +kernel
theorem dX6_doubt_12 : decode cX6_doubt 12 = .ok (.getfield 10, 3) := by decide +kernel
theorem dX6_doubt_15 : decode cX6_doubt 15 = .ok (.iload_n 2, 1) := by decide +kernel
theorem dX6_doubt_16 : decode cX6_doubt 16 = .ok (.invokevirtual 167, 3) := by decide +kernel
theorem dX6_doubt_19 : decode cX6_doubt 19 = .ok (.ifCond .ne 7, 3) := by decide +kernel
theorem dX6_doubt_22 : decode cX6_doubt 22 = .ok (.ldc2_w 170, 3) := by decide +kernel
theorem dX6_doubt_25 : decode cX6_doubt 25 = .ok (.lreturn, 1) := by decide +kernel
theorem dX6_doubt_26 : decode cX6_doubt 26 = .ok (.aload_n 0, 1) := by decide +kernel
theorem dX6_doubt_27 : decode cX6_doubt 27 = .ok (.iconst 1, 1) := by decide +kernel
theorem dX6_doubt_28 : decode cX6_doubt 28 = .ok (.iload_n 1, 1) := by decide +kernel
theorem dX6_doubt_29 : decode cX6_doubt 29 = .ok (.ishl, 1) := by decide +kernel
theorem dX6_doubt_30 : decode cX6_doubt 30 = .ok (.iconst 1, 1) := by decide +kernel
theorem dX6_doubt_31 : decode cX6_doubt 31 = .ok (.iload_n 2, 1) := by decide +kernel
theorem dX6_doubt_32 : decode cX6_doubt 32 = .ok (.ishl, 1) := by decide +kernel
theorem dX6_doubt_33 : decode cX6_doubt 33 = .ok (.iconst 0, 1) := by decide +kernel
theorem dX6_doubt_34 : decode cX6_doubt 34 = .ok (.iconst 1, 1) := by decide +kernel
theorem dX6_doubt_35 : decode cX6_doubt 35 = .ok (.iload_n 3, 1) := by decide +kernel
theorem dX6_doubt_36 : decode cX6_doubt 36 = .ok (.invokevirtual 172, 3) := by decide +kernel
theorem dX6_doubt_39 : decode cX6_doubt 39 = .ok (.lreturn, 1) := by decide +kernel
theorem dX6_drift_0 : decode cX6_drift 0 = .ok (.aload_n 0, 1) := by decide +kernel
theorem dX6_drift_1 : decode cX6_drift 1 = .ok (.iconst 0, 1) := by decide +kernel
theorem dX6_drift_2 : decode cX6_drift 2 = .ok (.iconst 0, 1) := by decide +kernel
theorem dX6_drift_3 : decode cX6_drift 3 = .ok (.iconst 1, 1) := by decide +kernel
theorem dX6_drift_4 : decode cX6_drift 4 = .ok (.iconst 0, 1) := by decide +kernel
theorem dX6_drift_5 : decode cX6_drift 5 = .ok (.iload_n 1, 1) := by decide +kernel
theorem dX6_drift_6 : decode cX6_drift 6 = .ok (.invokevirtual 172, 3) := by decide +kernel
theorem dX6_drift_9 : decode cX6_drift 9 = .ok (.lreturn, 1) := by decide +kernel
theorem dX6_rest_0 : decode cX6_rest 0 = .ok (.aload_n 0, 1) := by decide +kernel
theorem dX6_rest_1 : decode cX6_rest 1 = .ok (.getfield 10, 3) := by decide +kernel
theorem dX6_rest_4 : decode cX6_rest 4 = .ok (.iload_n 1, 1) := by decide +kernel
theorem dX6_rest_5 : decode cX6_rest 5 = .ok (.invokevirtual 126, 3) := by decide +kernel
theorem dX6_rest_8 : decode cX6_rest 8 = .ok (.ifCond .ne 7, 3) := by decide +kernel
theorem dX6_rest_11 : decode cX6_rest 11 = .ok (.ldc2_w 170, 3) := by decide +kernel
theorem dX6_rest_14 : decode cX6_rest 14 = .ok (.lreturn, 1) := by decide +kernel
theorem dX6_rest_15 : decode cX6_rest 15 = .ok (.aload_n 0, 1) := by decide +kernel
theorem dX6_rest_16 : decode cX6_rest 16 = .ok (.aload_n 0, 1) := by decide +kernel
theorem dX6_rest_17 : decode cX6_rest 17 = .ok (.iload_n 1, 1) := by decide +kernel
theorem dX6_rest_18 : decode cX6_rest 18 = .ok (.invokevirtual 176, 3) := by decide +kernel
theorem dX6_rest_21 : decode cX6_rest 21 = .ok (.aload_n 0, 1) := by decide +kernel
theorem dX6_rest_22 : decode cX6_rest 22 = .ok (.getfield 26, 3) := by decide +kernel
theorem dX6_rest_25 : decode cX6_rest 25 = .ok (.getfield 180, 3) := by decide +kernel
theorem dX6_rest_28 : decode cX6_rest 28 = .ok (.iload_n 2, 1) := by decide +kernel
theorem dX6_rest_29 : decode cX6_rest 29 = .ok (.invokevirtual 184, 3) := by decide +kernel
theorem dX6_rest_32 : decode cX6_rest 32 = .ok (.lreturn, 1) := by decide +kernel
theorem dX6_sum_0 : decode cX6_sum 0 = .ok (.aload_n 0, 1) := by decide +kernel
theorem dX6_sum_1 : decode cX6_sum 1 = .ok (.aload_n 0, 1) := by decide +kernel
theorem dX6_sum_2 : decode cX6_sum 2 = .ok (.getfield 26, 3) := by decide +kernel
theorem dX6_sum_5 : decode cX6_sum 5 = .ok (.invokevirtual 188, 3) := by decide +kernel
theorem dX6_sum_8 : decode cX6_sum 8 = .ok (.aload_n 0, 1) := by decide +kernel
theorem dX6_sum_9 : decode cX6_sum 9 = .ok (.getfield 26, 3) := by decide +kernel
theorem dX6_sum_12 : decode cX6_sum 12 = .ok (.getfield 180, 3) := by decide +kernel
theorem dX6_sum_15 : decode cX6_sum 15 = .ok (.iload_n 1, 1) := by decide +kernel
theorem dX6_sum_16 : decode cX6_sum 16 = .ok (.invokevirtual 184, 3) := by decide +kernel
theorem dX6_sum_19 : decode cX6_sum 19 = .ok (.lreturn, 1) := by decide +kernel
theorem dX6_guess_0 : decode cX6_guess 0 = .ok (.aload_n 0, 1) := by decide +kernel
theorem dX6_guess_1 : decode cX6_guess 1 = .ok (.getfield 10, 3) := by decide +kernel
theorem dX6_guess_4 : decode cX6_guess 4 = .ok (.iload_n 1, 1) := by decide +kernel
theorem dX6_guess_5 : decode cX6_guess 5 = .ok (.iload_n 2, 1) := by decide +kernel
theorem dX6_guess_6 : decode cX6_guess 6 = .ok (.iload_n 3, 1) := by decide +kernel
theorem dX6_guess_7 : decode cX6_guess 7 = .ok (.invokevirtual 113, 3) := by decide +kernel
theorem dX6_guess_10 : decode cX6_guess 10 = .ok (.ifCond .ne 7, 3) := by decide +kernel
theorem dX6_guess_13 : decode cX6_guess 13 = .ok (.ldc2_w 170, 3) := by decide +kernel
theorem dX6_guess_16 : decode cX6_guess 16 = .ok (.lreturn, 1) := by decide +kernel
theorem dX6_guess_17 : decode cX6_guess 17 = .ok (.aload_n 0, 1) := by decide +kernel
theorem dX6_guess_18 : decode cX6_guess 18 = .ok (.iload_n 1, 1) := by decide +kernel
theorem dX6_guess_19 : decode cX6_guess 19 = .ok (.iload_n 2, 1) := by decide +kernel
theorem dX6_guess_20 : decode cX6_guess 20 = .ok (.iload_n 3, 1) := by decide +kernel
theorem dX6_guess_21 : decode cX6_guess 21 = .ok (.iload 4, 2) := by decide +kernel
theorem dX6_guess_23 : decode cX6_guess 23 = .ok (.iload 5, 2) := by decide +kernel
theorem dX6_guess_25 : decode cX6_guess 25 = .ok (.invokevirtual 172, 3) := by decide +kernel
theorem dX6_guess_28 : decode cX6_guess 28 = .ok (.lreturn, 1) := by decide +kernel
theorem dX6_rank_0 : decode cX6_rank 0 = .ok (.aload_n 0, 1) := by decide +kernel
theorem dX6_rank_1 : decode cX6_rank 1 = .ok (.getfield 10, 3) := by decide +kernel
theorem dX6_rank_4 : decode cX6_rank 4 = .ok (.iload_n 1, 1) := by decide +kernel
theorem dX6_rank_5 : decode cX6_rank 5 = .ok (.invokevirtual 167, 3) := by decide +kernel
theorem dX6_rank_8 : decode cX6_rank 8 = .ok (.ifCond .ne 5, 3) := by decide +kernel
theorem dX6_rank_11 : decode cX6_rank 11 = .ok (.iconst (-1), 1) := by decide +kernel
theorem dX6_rank_12 : decode cX6_rank 12 = .ok (.ireturn, 1) := by decide +kernel
theorem dX6_rank_13 : decode cX6_rank 13 = .ok (.iload_n 2, 1) := by decide +kernel
theorem dX6_rank_14 : decode cX6_rank 14 = .ok (.tableswitch 68 0 3 #[30, 40, 56, 62], 30) := by decide +kernel
theorem dX6_rank_44 : decode cX6_rank 44 = .ok (.aload_n 0, 1) := by decide +kernel
theorem dX6_rank_45 : decode cX6_rank 45 = .ok (.iload_n 1, 1) := by decide +kernel
theorem dX6_rank_46 : decode cX6_rank 46 = .ok (.iconst 0, 1) := by decide +kernel
theorem dX6_rank_47 : decode cX6_rank 47 = .ok (.invokevirtual 192, 3) := by decide +kernel
theorem dX6_rank_50 : decode cX6_rank 50 = .ok (.invokestatic 196, 3) := by decide +kernel
theorem dX6_rank_53 : decode cX6_rank 53 = .ok (.ireturn, 1) := by decide +kernel
theorem dX6_rank_54 : decode cX6_rank 54 = .ok (.aload_n 0, 1) := by decide +kernel
theorem dX6_rank_55 : decode cX6_rank 55 = .ok (.iload_n 1, 1) := by decide +kernel
theorem dX6_rank_56 : decode cX6_rank 56 = .ok (.aload_n 0, 1) := by decide +kernel
theorem dX6_rank_57 : decode cX6_rank 57 = .ok (.getfield 10, 3) := by decide +kernel
theorem dX6_rank_60 : decode cX6_rank 60 = .ok (.getfield 110, 3) := by decide +kernel
theorem dX6_rank_63 : decode cX6_rank 63 = .ok (.invokevirtual 192, 3) := by decide +kernel
theorem dX6_rank_66 : decode cX6_rank 66 = .ok (.invokestatic 196, 3) := by decide +kernel
theorem dX6_rank_69 : decode cX6_rank 69 = .ok (.ireturn, 1) := by decide +kernel
theorem dX6_rank_70 : decode cX6_rank 70 = .ok (.aload_n 0, 1) := by decide +kernel
theorem dX6_rank_71 : decode cX6_rank 71 = .ok (.iload_n 1, 1) := by decide +kernel
theorem dX6_rank_72 : decode cX6_rank 72 = .ok (.invokevirtual 201, 3) := by decide +kernel
theorem dX6_rank_75 : decode cX6_rank 75 = .ok (.ireturn, 1) := by decide +kernel
theorem dX6_rank_76 : decode cX6_rank 76 = .ok (.aload_n 0, 1) := by decide +kernel
theorem dX6_rank_77 : decode cX6_rank 77 = .ok (.iload_n 1, 1) := by decide +kernel
theorem dX6_rank_78 : decode cX6_rank 78 = .ok (.invokevirtual 204, 3) := by decide +kernel
theorem dX6_rank_81 : decode cX6_rank 81 = .ok (.ireturn, 1) := by decide +kernel
theorem dX6_rank_82 : decode cX6_rank 82 = .ok (.iconst (-1), 1) := by decide +kernel
theorem dX6_rank_83 : decode cX6_rank 83 = .ok (.ireturn, 1) := by decide +kernel
theorem dX6_suit_0 : decode cX6_suit 0 = .ok (.aload_n 0, 1) := by decide +kernel
theorem dX6_suit_1 : decode cX6_suit 1 = .ok (.iload_n 1, 1) := by decide +kernel
theorem dX6_suit_2 : decode cX6_suit 2 = .ok (.iload_n 2, 1) := by decide +kernel
theorem dX6_suit_3 : decode cX6_suit 3 = .ok (.invokevirtual 207, 3) := by decide +kernel
theorem dX6_suit_6 : decode cX6_suit 6 = .ok (.ifCond .ne 7, 3) := by decide +kernel
theorem dX6_suit_9 : decode cX6_suit 9 = .ok (.ldc2_w 170, 3) := by decide +kernel
theorem dX6_suit_12 : decode cX6_suit 12 = .ok (.lreturn, 1) := by decide +kernel
theorem dX6_suit_13 : decode cX6_suit 13 = .ok (.iconst 1, 1) := by decide +kernel
theorem dX6_suit_14 : decode cX6_suit 14 = .ok (.iload_n 1, 1) := by decide +kernel
theorem dX6_suit_15 : decode cX6_suit 15 = .ok (.ishl, 1) := by decide +kernel
theorem dX6_suit_16 : decode cX6_suit 16 = .ok (.iconst 1, 1) := by decide +kernel
theorem dX6_suit_17 : decode cX6_suit 17 = .ok (.iload_n 2, 1) := by decide +kernel
theorem dX6_suit_18 : decode cX6_suit 18 = .ok (.ishl, 1) := by decide +kernel
theorem dX6_suit_19 : decode cX6_suit 19 = .ok (.ior, 1) := by decide +kernel
theorem dX6_suit_20 : decode cX6_suit 20 = .ok (.istore 4, 2) := by decide +kernel
theorem dX6_suit_22 : decode cX6_suit 22 = .ok (.lconst 0, 1) := by decide +kernel
theorem dX6_suit_23 : decode cX6_suit 23 = .ok (.lstore 5, 2) := by decide +kernel
theorem dX6_suit_25 : decode cX6_suit 25 = .ok (.iconst 0, 1) := by decide +kernel
theorem dX6_suit_26 : decode cX6_suit 26 = .ok (.istore 7, 2) := by decide +kernel
theorem dX6_suit_28 : decode cX6_suit 28 = .ok (.iload 7, 2) := by decide +kernel
theorem dX6_suit_30 : decode cX6_suit 30 = .ok (.aload_n 0, 1) := by decide +kernel
theorem dX6_suit_31 : decode cX6_suit 31 = .ok (.getfield 10, 3) := by decide +kernel
theorem dX6_suit_34 : decode cX6_suit 34 = .ok (.getfield 123, 3) := by decide +kernel
theorem dX6_suit_37 : decode cX6_suit 37 = .ok (.if_icmp .ge 70, 3) := by decide +kernel
theorem dX6_suit_40 : decode cX6_suit 40 = .ok (.aload_n 0, 1) := by decide +kernel
theorem dX6_suit_41 : decode cX6_suit 41 = .ok (.getfield 10, 3) := by decide +kernel
theorem dX6_suit_44 : decode cX6_suit 44 = .ok (.getfield 153, 3) := by decide +kernel
theorem dX6_suit_47 : decode cX6_suit 47 = .ok (.iload 7, 2) := by decide +kernel
theorem dX6_suit_49 : decode cX6_suit 49 = .ok (.iaload, 1) := by decide +kernel
theorem dX6_suit_50 : decode cX6_suit 50 = .ok (.iload 4, 2) := by decide +kernel
theorem dX6_suit_52 : decode cX6_suit 52 = .ok (.iand, 1) := by decide +kernel
theorem dX6_suit_53 : decode cX6_suit 53 = .ok (.iload 4, 2) := by decide +kernel
theorem dX6_suit_55 : decode cX6_suit 55 = .ok (.if_icmp .ne 17, 3) := by decide +kernel
theorem dX6_suit_58 : decode cX6_suit 58 = .ok (.lload 5, 2) := by decide +kernel
theorem dX6_suit_60 : decode cX6_suit 60 = .ok (.aload_n 0, 1) := by decide +kernel
theorem dX6_suit_61 : decode cX6_suit 61 = .ok (.iload 7, 2) := by decide +kernel
theorem dX6_suit_63 : decode cX6_suit 63 = .ok (.invokevirtual 176, 3) := by decide +kernel
theorem dX6_suit_66 : decode cX6_suit 66 = .ok (.ladd, 1) := by decide +kernel
theorem dX6_suit_67 : decode cX6_suit 67 = .ok (.lstore 5, 2) := by decide +kernel
theorem dX6_suit_69 : decode cX6_suit 69 = .ok (.goto 32, 3) := by decide +kernel
theorem dX6_suit_72 : decode cX6_suit 72 = .ok (.aload_n 0, 1) := by decide +kernel
theorem dX6_suit_73 : decode cX6_suit 73 = .ok (.getfield 10, 3) := by decide +kernel
theorem dX6_suit_76 : decode cX6_suit 76 = .ok (.getfield 156, 3) := by decide +kernel
theorem dX6_suit_79 : decode cX6_suit 79 = .ok (.iload 7, 2) := by decide +kernel
theorem dX6_suit_81 : decode cX6_suit 81 = .ok (.iaload, 1) := by decide +kernel
theorem dX6_suit_82 : decode cX6_suit 82 = .ok (.iload 4, 2) := by decide +kernel
theorem dX6_suit_84 : decode cX6_suit 84 = .ok (.iand, 1) := by decide +kernel
theorem dX6_suit_85 : decode cX6_suit 85 = .ok (.iload 4, 2) := by decide +kernel
theorem dX6_suit_87 : decode cX6_suit 87 = .ok (.if_icmp .ne 14, 3) := by decide +kernel
theorem dX6_suit_90 : decode cX6_suit 90 = .ok (.lload 5, 2) := by decide +kernel
theorem dX6_suit_92 : decode cX6_suit 92 = .ok (.aload_n 0, 1) := by decide +kernel
theorem dX6_suit_93 : decode cX6_suit 93 = .ok (.iload 7, 2) := by decide +kernel
theorem dX6_suit_95 : decode cX6_suit 95 = .ok (.invokevirtual 176, 3) := by decide +kernel
theorem dX6_suit_98 : decode cX6_suit 98 = .ok (.lsub, 1) := by decide +kernel
theorem dX6_suit_99 : decode cX6_suit 99 = .ok (.lstore 5, 2) := by decide +kernel
theorem dX6_suit_101 : decode cX6_suit 101 = .ok (.iinc 7 1, 3) := by decide +kernel
theorem dX6_suit_104 : decode cX6_suit 104 = .ok (.goto (-76), 3) := by decide +kernel
theorem dX6_suit_107 : decode cX6_suit 107 = .ok (.aload_n 0, 1) := by decide +kernel
theorem dX6_suit_108 : decode cX6_suit 108 = .ok (.lload 5, 2) := by decide +kernel
theorem dX6_suit_110 : decode cX6_suit 110 = .ok (.aload_n 0, 1) := by decide +kernel
theorem dX6_suit_111 : decode cX6_suit 111 = .ok (.getfield 26, 3) := by decide +kernel
theorem dX6_suit_114 : decode cX6_suit 114 = .ok (.getfield 180, 3) := by decide +kernel
theorem dX6_suit_117 : decode cX6_suit 117 = .ok (.iload_n 3, 1) := by decide +kernel
theorem dX6_suit_118 : decode cX6_suit 118 = .ok (.invokevirtual 184, 3) := by decide +kernel
theorem dX6_suit_121 : decode cX6_suit 121 = .ok (.lreturn, 1) := by decide +kernel
theorem dX6_swaps_0 : decode cX6_swaps 0 = .ok (.aload_n 0, 1) := by decide +kernel
theorem dX6_swaps_1 : decode cX6_swaps 1 = .ok (.iload_n 1, 1) := by decide +kernel
theorem dX6_swaps_2 : decode cX6_swaps 2 = .ok (.iload_n 2, 1) := by decide +kernel
theorem dX6_swaps_3 : decode cX6_swaps 3 = .ok (.invokevirtual 207, 3) := by decide +kernel
theorem dX6_swaps_6 : decode cX6_swaps 6 = .ok (.ifCond .eq 12, 3) := by decide +kernel
theorem dX6_swaps_9 : decode cX6_swaps 9 = .ok (.iload_n 3, 1) := by decide +kernel
theorem dX6_swaps_10 : decode cX6_swaps 10 = .ok (.ifCond .lt 8, 3) := by decide +kernel
theorem dX6_swaps_13 : decode cX6_swaps 13 = .ok (.iload_n 3, 1) := by decide +kernel
theorem dX6_swaps_14 : decode cX6_swaps 14 = .ok (.iconst 2, 1) := by decide +kernel
theorem dX6_swaps_15 : decode cX6_swaps 15 = .ok (.if_icmp .le 7, 3) := by decide +kernel
theorem dX6_swaps_18 : decode cX6_swaps 18 = .ok (.ldc2_w 170, 3) := by decide +kernel
theorem dX6_swaps_21 : decode cX6_swaps 21 = .ok (.lreturn, 1) := by decide +kernel
theorem dX6_swaps_22 : decode cX6_swaps 22 = .ok (.iconst 0, 1) := by decide +kernel
theorem dX6_swaps_23 : decode cX6_swaps 23 = .ok (.istore 4, 2) := by decide +kernel
theorem dX6_swaps_25 : decode cX6_swaps 25 = .ok (.iconst 0, 1) := by decide +kernel
theorem dX6_swaps_26 : decode cX6_swaps 26 = .ok (.istore 5, 2) := by decide +kernel
theorem dX6_swaps_28 : decode cX6_swaps 28 = .ok (.iconst 0, 1) := by decide +kernel
theorem dX6_swaps_29 : decode cX6_swaps 29 = .ok (.istore 6, 2) := by decide +kernel
theorem dX6_swaps_31 : decode cX6_swaps 31 = .ok (.iload 6, 2) := by decide +kernel
theorem dX6_swaps_33 : decode cX6_swaps 33 = .ok (.aload_n 0, 1) := by decide +kernel
theorem dX6_swaps_34 : decode cX6_swaps 34 = .ok (.getfield 10, 3) := by decide +kernel
theorem dX6_swaps_37 : decode cX6_swaps 37 = .ok (.getfield 123, 3) := by decide +kernel
theorem dX6_swaps_40 : decode cX6_swaps 40 = .ok (.if_icmp .ge 75, 3) := by decide +kernel
theorem dX6_swaps_43 : decode cX6_swaps 43 = .ok (.iconst 0, 1) := by decide +kernel
theorem dX6_swaps_44 : decode cX6_swaps 44 = .ok (.istore 7, 2) := by decide +kernel
theorem dX6_swaps_46 : decode cX6_swaps 46 = .ok (.iload 7, 2) := by decide +kernel
theorem dX6_swaps_48 : decode cX6_swaps 48 = .ok (.aload_n 0, 1) := by decide +kernel
theorem dX6_swaps_49 : decode cX6_swaps 49 = .ok (.getfield 10, 3) := by decide +kernel
theorem dX6_swaps_52 : decode cX6_swaps 52 = .ok (.getfield 123, 3) := by decide +kernel
theorem dX6_swaps_55 : decode cX6_swaps 55 = .ok (.if_icmp .ge 54, 3) := by decide +kernel
theorem dX6_swaps_58 : decode cX6_swaps 58 = .ok (.aload_n 0, 1) := by decide +kernel
theorem dX6_swaps_59 : decode cX6_swaps 59 = .ok (.getfield 10, 3) := by decide +kernel
theorem dX6_swaps_62 : decode cX6_swaps 62 = .ok (.iload 6, 2) := by decide +kernel
theorem dX6_swaps_64 : decode cX6_swaps 64 = .ok (.iload 7, 2) := by decide +kernel
theorem dX6_swaps_66 : decode cX6_swaps 66 = .ok (.iload_n 1, 1) := by decide +kernel
theorem dX6_swaps_67 : decode cX6_swaps 67 = .ok (.iload_n 2, 1) := by decide +kernel
theorem dX6_swaps_68 : decode cX6_swaps 68 = .ok (.invokevirtual 211, 3) := by decide +kernel
theorem dX6_swaps_71 : decode cX6_swaps 71 = .ok (.ifCond .eq 32, 3) := by decide +kernel
theorem dX6_swaps_74 : decode cX6_swaps 74 = .ok (.iinc 4 1, 3) := by decide +kernel
theorem dX6_swaps_77 : decode cX6_swaps 77 = .ok (.iload 5, 2) := by decide +kernel
theorem dX6_swaps_79 : decode cX6_swaps 79 = .ok (.aload_n 0, 1) := by decide +kernel
theorem dX6_swaps_80 : decode cX6_swaps 80 = .ok (.getfield 10, 3) := by decide +kernel
theorem dX6_swaps_83 : decode cX6_swaps 83 = .ok (.getfield 159, 3) := by decide +kernel
theorem dX6_swaps_86 : decode cX6_swaps 86 = .ok (.iload 6, 2) := by decide +kernel
theorem dX6_swaps_88 : decode cX6_swaps 88 = .ok (.iaload, 1) := by decide +kernel
theorem dX6_swaps_89 : decode cX6_swaps 89 = .ok (.aload_n 0, 1) := by decide +kernel
theorem dX6_swaps_90 : decode cX6_swaps 90 = .ok (.getfield 10, 3) := by decide +kernel
theorem dX6_swaps_93 : decode cX6_swaps 93 = .ok (.getfield 159, 3) := by decide +kernel
theorem dX6_swaps_96 : decode cX6_swaps 96 = .ok (.iload 7, 2) := by decide +kernel
theorem dX6_swaps_98 : decode cX6_swaps 98 = .ok (.iaload, 1) := by decide +kernel
theorem dX6_swaps_99 : decode cX6_swaps 99 = .ok (.isub, 1) := by decide +kernel
theorem dX6_swaps_100 : decode cX6_swaps 100 = .ok (.iadd, 1) := by decide +kernel
theorem dX6_swaps_101 : decode cX6_swaps 101 = .ok (.istore 5, 2) := by decide +kernel
theorem dX6_swaps_103 : decode cX6_swaps 103 = .ok (.iinc 7 1, 3) := by decide +kernel
theorem dX6_swaps_106 : decode cX6_swaps 106 = .ok (.goto (-60), 3) := by decide +kernel
theorem dX6_swaps_109 : decode cX6_swaps 109 = .ok (.iinc 6 1, 3) := by decide +kernel
theorem dX6_swaps_112 : decode cX6_swaps 112 = .ok (.goto (-81), 3) := by decide +kernel
theorem dX6_swaps_115 : decode cX6_swaps 115 = .ok (.iload_n 3, 1) := by decide +kernel
theorem dX6_swaps_116 : decode cX6_swaps 116 = .ok (.ifCond .ne 7, 3) := by decide +kernel
theorem dX6_swaps_119 : decode cX6_swaps 119 = .ok (.iload 4, 2) := by decide +kernel
theorem dX6_swaps_121 : decode cX6_swaps 121 = .ok (.i2l, 1) := by decide +kernel
theorem dX6_swaps_122 : decode cX6_swaps 122 = .ok (.lreturn, 1) := by decide +kernel
theorem dX6_swaps_123 : decode cX6_swaps 123 = .ok (.iload 4, 2) := by decide +kernel
theorem dX6_swaps_125 : decode cX6_swaps 125 = .ok (.ifCond .ne 9, 3) := by decide +kernel
theorem dX6_swaps_128 : decode cX6_swaps 128 = .ok (.ldc2_w 170, 3) := by decide +kernel
theorem dX6_swaps_131 : decode cX6_swaps 131 = .ok (.goto 27, 3) := by decide +kernel
theorem dX6_swaps_134 : decode cX6_swaps 134 = .ok (.aload_n 0, 1) := by decide +kernel
theorem dX6_swaps_135 : decode cX6_swaps 135 = .ok (.iload 5, 2) := by decide +kernel
theorem dX6_swaps_137 : decode cX6_swaps 137 = .ok (.i2l, 1) := by decide +kernel
theorem dX6_swaps_138 : decode cX6_swaps 138 = .ok (.ldc2_w 215, 3) := by decide +kernel
theorem dX6_swaps_141 : decode cX6_swaps 141 = .ok (.iload 4, 2) := by decide +kernel
theorem dX6_swaps_143 : decode cX6_swaps 143 = .ok (.i2l, 1) := by decide +kernel
theorem dX6_swaps_144 : decode cX6_swaps 144 = .ok (.lmul, 1) := by decide +kernel
theorem dX6_swaps_145 : decode cX6_swaps 145 = .ok (.iload_n 3, 1) := by decide +kernel
theorem dX6_swaps_146 : decode cX6_swaps 146 = .ok (.iconst 2, 1) := by decide +kernel
theorem dX6_swaps_147 : decode cX6_swaps 147 = .ok (.if_icmp .ne 7, 3) := by decide +kernel
theorem dX6_swaps_150 : decode cX6_swaps 150 = .ok (.iconst 1, 1) := by decide +kernel
theorem dX6_swaps_151 : decode cX6_swaps 151 = .ok (.goto 4, 3) := by decide +kernel
theorem dX6_swaps_154 : decode cX6_swaps 154 = .ok (.iconst 0, 1) := by decide +kernel
theorem dX6_swaps_155 : decode cX6_swaps 155 = .ok (.invokevirtual 184, 3) := by decide +kernel
theorem dX6_swaps_158 : decode cX6_swaps 158 = .ok (.lreturn, 1) := by decide +kernel
theorem dX6_next_0 : decode cX6_next 0 = .ok (.iload_n 2, 1) := by decide +kernel
theorem dX6_next_1 : decode cX6_next 1 = .ok (.ifCond .lt 16, 3) := by decide +kernel
theorem dX6_next_4 : decode cX6_next 4 = .ok (.iload_n 2, 1) := by decide +kernel
theorem dX6_next_5 : decode cX6_next 5 = .ok (.iconst 4, 1) := by decide +kernel
theorem dX6_next_6 : decode cX6_next 6 = .ok (.if_icmp .gt 11, 3) := by decide +kernel
theorem dX6_next_9 : decode cX6_next 9 = .ok (.aload_n 0, 1) := by decide +kernel
theorem dX6_next_10 : decode cX6_next 10 = .ok (.iload_n 1, 1) := by decide +kernel
theorem dX6_next_11 : decode cX6_next 11 = .ok (.invokevirtual 217, 3) := by decide +kernel
theorem dX6_next_14 : decode cX6_next 14 = .ok (.ifCond .ne 7, 3) := by decide +kernel
theorem dX6_next_17 : decode cX6_next 17 = .ok (.ldc2_w 220, 3) := by decide +kernel
theorem dX6_next_20 : decode cX6_next 20 = .ok (.lreturn, 1) := by decide +kernel
theorem dX6_next_21 : decode cX6_next 21 = .ok (.iload_n 2, 1) := by decide +kernel
theorem dX6_next_22 : decode cX6_next 22 = .ok (.tableswitch 68 0 3 #[30, 39, 48, 57], 30) := by decide +kernel
theorem dX6_next_52 : decode cX6_next 52 = .ok (.aload_n 0, 1) := by decide +kernel
theorem dX6_next_53 : decode cX6_next 53 = .ok (.getfield 49, 3) := by decide +kernel
theorem dX6_next_56 : decode cX6_next 56 = .ok (.getfield 222, 3) := by decide +kernel
theorem dX6_next_59 : decode cX6_next 59 = .ok (.i2l, 1) := by decide +kernel
theorem dX6_next_60 : decode cX6_next 60 = .ok (.lreturn, 1) := by decide +kernel
theorem dX6_next_61 : decode cX6_next 61 = .ok (.aload_n 0, 1) := by decide +kernel
theorem dX6_next_62 : decode cX6_next 62 = .ok (.getfield 49, 3) := by decide +kernel
theorem dX6_next_65 : decode cX6_next 65 = .ok (.getfield 225, 3) := by decide +kernel
theorem dX6_next_68 : decode cX6_next 68 = .ok (.i2l, 1) := by decide +kernel
theorem dX6_next_69 : decode cX6_next 69 = .ok (.lreturn, 1) := by decide +kernel
theorem dX6_next_70 : decode cX6_next 70 = .ok (.aload_n 0, 1) := by decide +kernel
theorem dX6_next_71 : decode cX6_next 71 = .ok (.getfield 49, 3) := by decide +kernel
theorem dX6_next_74 : decode cX6_next 74 = .ok (.getfield 228, 3) := by decide +kernel
theorem dX6_next_77 : decode cX6_next 77 = .ok (.i2l, 1) := by decide +kernel
theorem dX6_next_78 : decode cX6_next 78 = .ok (.lreturn, 1) := by decide +kernel
theorem dX6_next_79 : decode cX6_next 79 = .ok (.aload_n 0, 1) := by decide +kernel
theorem dX6_next_80 : decode cX6_next 80 = .ok (.getfield 49, 3) := by decide +kernel
theorem dX6_next_83 : decode cX6_next 83 = .ok (.getfield 231, 3) := by decide +kernel
theorem dX6_next_86 : decode cX6_next 86 = .ok (.getfield 234, 3) := by decide +kernel
theorem dX6_next_89 : decode cX6_next 89 = .ok (.lreturn, 1) := by decide +kernel
theorem dX6_next_90 : decode cX6_next 90 = .ok (.aload_n 0, 1) := by decide +kernel
theorem dX6_next_91 : decode cX6_next 91 = .ok (.getfield 49, 3) := by decide +kernel
theorem dX6_next_94 : decode cX6_next 94 = .ok (.getfield 231, 3) := by decide +kernel
theorem dX6_next_97 : decode cX6_next 97 = .ok (.getfield 237, 3) := by decide +kernel
theorem dX6_next_100 : decode cX6_next 100 = .ok (.lreturn, 1) := by decide +kernel
theorem dX6_fewest_0 : decode cX6_fewest 0 = .ok (.iload_n 1, 1) := by decide +kernel
theorem dX6_fewest_1 : decode cX6_fewest 1 = .ok (.iconst 1, 1) := by decide +kernel
theorem dX6_fewest_2 : decode cX6_fewest 2 = .ok (.if_icmp .lt 8, 3) := by decide +kernel
theorem dX6_fewest_5 : decode cX6_fewest 5 = .ok (.iload_n 1, 1) := by decide +kernel
theorem dX6_fewest_6 : decode cX6_fewest 6 = .ok (.iconst 3, 1) := by decide +kernel
theorem dX6_fewest_7 : decode cX6_fewest 7 = .ok (.if_icmp .le 5, 3) := by decide +kernel
theorem dX6_fewest_10 : decode cX6_fewest 10 = .ok (.iconst (-1), 1) := by decide +kernel
theorem dX6_fewest_11 : decode cX6_fewest 11 = .ok (.ireturn, 1) := by decide +kernel
theorem dX6_fewest_12 : decode cX6_fewest 12 = .ok (.aload_n 0, 1) := by decide +kernel
theorem dX6_fewest_13 : decode cX6_fewest 13 = .ok (.getfield 30, 3) := by decide +kernel
theorem dX6_fewest_16 : decode cX6_fewest 16 = .ok (.aload_n 0, 1) := by decide +kernel
theorem dX6_fewest_17 : decode cX6_fewest 17 = .ok (.getfield 26, 3) := by decide +kernel
theorem dX6_fewest_20 : decode cX6_fewest 20 = .ok (.invokevirtual 240, 3) := by decide +kernel
theorem dX6_fewest_23 : decode cX6_fewest 23 = .ok (.aload_n 0, 1) := by decide +kernel
theorem dX6_fewest_24 : decode cX6_fewest 24 = .ok (.getfield 30, 3) := by decide +kernel
theorem dX6_fewest_27 : decode cX6_fewest 27 = .ok (.invokevirtual 244, 3) := by decide +kernel
theorem dX6_fewest_30 : decode cX6_fewest 30 = .ok (.aload_n 0, 1) := by decide +kernel
theorem dX6_fewest_31 : decode cX6_fewest 31 = .ok (.iload_n 1, 1) := by decide +kernel
theorem dX6_fewest_32 : decode cX6_fewest 32 = .ok (.invokevirtual 247, 3) := by decide +kernel
theorem dX6_fewest_35 : decode cX6_fewest 35 = .ok (.istore_n 2, 1) := by decide +kernel
theorem dX6_fewest_36 : decode cX6_fewest 36 = .ok (.iconst 0, 1) := by decide +kernel
theorem dX6_fewest_37 : decode cX6_fewest 37 = .ok (.istore_n 3, 1) := by decide +kernel
theorem dX6_fewest_38 : decode cX6_fewest 38 = .ok (.iconst 0, 1) := by decide +kernel
theorem dX6_fewest_39 : decode cX6_fewest 39 = .ok (.istore 4, 2) := by decide +kernel
theorem dX6_fewest_41 : decode cX6_fewest 41 = .ok (.iload 4, 2) := by decide +kernel
theorem dX6_fewest_43 : decode cX6_fewest 43 = .ok (.iload_n 2, 1) := by decide +kernel
theorem dX6_fewest_44 : decode cX6_fewest 44 = .ok (.if_icmp .ge 60, 3) := by decide +kernel
theorem dX6_fewest_47 : decode cX6_fewest 47 = .ok (.aload_n 0, 1) := by decide +kernel
theorem dX6_fewest_48 : decode cX6_fewest 48 = .ok (.getfield 30, 3) := by decide +kernel
theorem dX6_fewest_51 : decode cX6_fewest 51 = .ok (.aload_n 0, 1) := by decide +kernel
theorem dX6_fewest_52 : decode cX6_fewest 52 = .ok (.getfield 53, 3) := by decide +kernel
theorem dX6_fewest_55 : decode cX6_fewest 55 = .ok (.iload 4, 2) := by decide +kernel
theorem dX6_fewest_57 : decode cX6_fewest 57 = .ok (.iaload, 1) := by decide +kernel
theorem dX6_fewest_58 : decode cX6_fewest 58 = .ok (.aload_n 0, 1) := by decide +kernel
theorem dX6_fewest_59 : decode cX6_fewest 59 = .ok (.getfield 57, 3) := by decide +kernel
theorem dX6_fewest_62 : decode cX6_fewest 62 = .ok (.iload 4, 2) := by decide +kernel
theorem dX6_fewest_64 : decode cX6_fewest 64 = .ok (.iaload, 1) := by decide +kernel
theorem dX6_fewest_65 : decode cX6_fewest 65 = .ok (.iconst 0, 1) := by decide +kernel
theorem dX6_fewest_66 : decode cX6_fewest 66 = .ok (.iconst 0, 1) := by decide +kernel
theorem dX6_fewest_67 : decode cX6_fewest 67 = .ok (.invokevirtual 250, 3) := by decide +kernel
theorem dX6_fewest_70 : decode cX6_fewest 70 = .ok (.aload_n 0, 1) := by decide +kernel
theorem dX6_fewest_71 : decode cX6_fewest 71 = .ok (.getfield 30, 3) := by decide +kernel
theorem dX6_fewest_74 : decode cX6_fewest 74 = .ok (.invokevirtual 253, 3) := by decide +kernel
theorem dX6_fewest_77 : decode cX6_fewest 77 = .ok (.ifCond .ne 21, 3) := by decide +kernel
theorem dX6_fewest_80 : decode cX6_fewest 80 = .ok (.aload_n 0, 1) := by decide +kernel
theorem dX6_fewest_81 : decode cX6_fewest 81 = .ok (.getfield 30, 3) := by decide +kernel
theorem dX6_fewest_84 : decode cX6_fewest 84 = .ok (.iconst 1, 1) := by decide +kernel
theorem dX6_fewest_85 : decode cX6_fewest 85 = .ok (.invokevirtual 256, 3) := by decide +kernel
theorem dX6_fewest_88 : decode cX6_fewest 88 = .ok (.aload_n 0, 1) := by decide +kernel
theorem dX6_fewest_89 : decode cX6_fewest 89 = .ok (.getfield 30, 3) := by decide +kernel
theorem dX6_fewest_92 : decode cX6_fewest 92 = .ok (.invokevirtual 244, 3) := by decide +kernel
theorem dX6_fewest_95 : decode cX6_fewest 95 = .ok (.iinc 3 1, 3) := by decide +kernel
theorem dX6_fewest_98 : decode cX6_fewest 98 = .ok (.iinc 4 1, 3) := by decide +kernel
theorem dX6_fewest_101 : decode cX6_fewest 101 = .ok (.goto (-60), 3) := by decide +kernel
theorem dX6_fewest_104 : decode cX6_fewest 104 = .ok (.aload_n 0, 1) := by decide +kernel
theorem dX6_fewest_105 : decode cX6_fewest 105 = .ok (.getfield 10, 3) := by decide +kernel
theorem dX6_fewest_108 : decode cX6_fewest 108 = .ok (.getfield 132, 3) := by decide +kernel
theorem dX6_fewest_111 : decode cX6_fewest 111 = .ok (.aload_n 0, 1) := by decide +kernel
theorem dX6_fewest_112 : decode cX6_fewest 112 = .ok (.getfield 10, 3) := by decide +kernel
theorem dX6_fewest_115 : decode cX6_fewest 115 = .ok (.getfield 132, 3) := by decide +kernel
theorem dX6_fewest_118 : decode cX6_fewest 118 = .ok (.iconst 1, 1) := by decide +kernel
theorem dX6_fewest_119 : decode cX6_fewest 119 = .ok (.isub, 1) := by decide +kernel
theorem dX6_fewest_120 : decode cX6_fewest 120 = .ok (.imul, 1) := by decide +kernel
theorem dX6_fewest_121 : decode cX6_fewest 121 = .ok (.iconst 2, 1) := by decide +kernel
theorem dX6_fewest_122 : decode cX6_fewest 122 = .ok (.idiv, 1) := by decide +kernel
theorem dX6_fewest_123 : decode cX6_fewest 123 = .ok (.istore 4, 2) := by decide +kernel
theorem dX6_fewest_125 : decode cX6_fewest 125 = .ok (.aload_n 0, 1) := by decide +kernel
theorem dX6_fewest_126 : decode cX6_fewest 126 = .ok (.getfield 30, 3) := by decide +kernel
theorem dX6_fewest_129 : decode cX6_fewest 129 = .ok (.aload_n 0, 1) := by decide +kernel
theorem dX6_fewest_130 : decode cX6_fewest 130 = .ok (.getfield 10, 3) := by decide +kernel
theorem dX6_fewest_133 : decode cX6_fewest 133 = .ok (.getfield 132, 3) := by decide +kernel
theorem dX6_fewest_136 : decode cX6_fewest 136 = .ok (.invokevirtual 135, 3) := by decide +kernel
theorem dX6_fewest_139 : decode cX6_fewest 139 = .ok (.iload 4, 2) := by decide +kernel
theorem dX6_fewest_141 : decode cX6_fewest 141 = .ok (.if_icmp .ne 7, 3) := by decide +kernel
theorem dX6_fewest_144 : decode cX6_fewest 144 = .ok (.iload_n 3, 1) := by decide +kernel
theorem dX6_fewest_145 : decode cX6_fewest 145 = .ok (.goto 4, 3) := by decide +kernel
theorem dX6_fewest_148 : decode cX6_fewest 148 = .ok (.iconst (-1), 1) := by decide +kernel
theorem dX6_fewest_149 : decode cX6_fewest 149 = .ok (.ireturn, 1) := by decide +kernel
theorem dX6_odd_0 : decode cX6_odd 0 = .ok (.iload_n 1, 1) := by decide +kernel
theorem dX6_odd_1 : decode cX6_odd 1 = .ok (.ifCond .lt 18, 3) := by decide +kernel
theorem dX6_odd_4 : decode cX6_odd 4 = .ok (.iload_n 1, 1) := by decide +kernel
theorem dX6_odd_5 : decode cX6_odd 5 = .ok (.iconst 2, 1) := by decide +kernel
theorem dX6_odd_6 : decode cX6_odd 6 = .ok (.if_icmp .gt 13, 3) := by decide +kernel
theorem dX6_odd_9 : decode cX6_odd 9 = .ok (.aload_n 0, 1) := by decide +kernel
theorem dX6_odd_10 : decode cX6_odd 10 = .ok (.getfield 10, 3) := by decide +kernel
theorem dX6_odd_13 : decode cX6_odd 13 = .ok (.getfield 123, 3) := by decide +kernel
theorem dX6_odd_16 : decode cX6_odd 16 = .ok (.ifCond .ne 7, 3) := by decide +kernel
theorem dX6_odd_19 : decode cX6_odd 19 = .ok (.ldc2_w 220, 3) := by decide +kernel
theorem dX6_odd_22 : decode cX6_odd 22 = .ok (.lreturn, 1) := by decide +kernel
theorem dX6_odd_23 : decode cX6_odd 23 = .ok (.iconst 0, 1) := by decide +kernel
theorem dX6_odd_24 : decode cX6_odd 24 = .ok (.istore_n 2, 1) := by decide +kernel
theorem dX6_odd_25 : decode cX6_odd 25 = .ok (.iconst 0, 1) := by decide +kernel
theorem dX6_odd_26 : decode cX6_odd 26 = .ok (.istore_n 3, 1) := by decide +kernel
theorem dX6_odd_27 : decode cX6_odd 27 = .ok (.iload_n 3, 1) := by decide +kernel
theorem dX6_odd_28 : decode cX6_odd 28 = .ok (.aload_n 0, 1) := by decide +kernel
theorem dX6_odd_29 : decode cX6_odd 29 = .ok (.getfield 10, 3) := by decide +kernel
theorem dX6_odd_32 : decode cX6_odd 32 = .ok (.getfield 123, 3) := by decide +kernel
theorem dX6_odd_35 : decode cX6_odd 35 = .ok (.if_icmp .ge 141, 3) := by decide +kernel
theorem dX6_odd_38 : decode cX6_odd 38 = .ok (.aload_n 0, 1) := by decide +kernel
theorem dX6_odd_39 : decode cX6_odd 39 = .ok (.getfield 30, 3) := by decide +kernel
theorem dX6_odd_42 : decode cX6_odd 42 = .ok (.aload_n 0, 1) := by decide +kernel
theorem dX6_odd_43 : decode cX6_odd 43 = .ok (.getfield 26, 3) := by decide +kernel
theorem dX6_odd_46 : decode cX6_odd 46 = .ok (.invokevirtual 240, 3) := by decide +kernel
theorem dX6_odd_49 : decode cX6_odd 49 = .ok (.aload_n 0, 1) := by decide +kernel
theorem dX6_odd_50 : decode cX6_odd 50 = .ok (.getfield 30, 3) := by decide +kernel
theorem dX6_odd_53 : decode cX6_odd 53 = .ok (.aload_n 0, 1) := by decide +kernel
theorem dX6_odd_54 : decode cX6_odd 54 = .ok (.getfield 26, 3) := by decide +kernel
theorem dX6_odd_57 : decode cX6_odd 57 = .ok (.invokevirtual 259, 3) := by decide +kernel
theorem dX6_odd_60 : decode cX6_odd 60 = .ok (.aload_n 0, 1) := by decide +kernel
theorem dX6_odd_61 : decode cX6_odd 61 = .ok (.getfield 30, 3) := by decide +kernel
theorem dX6_odd_64 : decode cX6_odd 64 = .ok (.aload_n 0, 1) := by decide +kernel
theorem dX6_odd_65 : decode cX6_odd 65 = .ok (.getfield 10, 3) := by decide +kernel
theorem dX6_odd_68 : decode cX6_odd 68 = .ok (.getfield 153, 3) := by decide +kernel
theorem dX6_odd_71 : decode cX6_odd 71 = .ok (.iload_n 3, 1) := by decide +kernel
theorem dX6_odd_72 : decode cX6_odd 72 = .ok (.iaload, 1) := by decide +kernel
theorem dX6_odd_73 : decode cX6_odd 73 = .ok (.aload_n 0, 1) := by decide +kernel
theorem dX6_odd_74 : decode cX6_odd 74 = .ok (.getfield 10, 3) := by decide +kernel
theorem dX6_odd_77 : decode cX6_odd 77 = .ok (.getfield 156, 3) := by decide +kernel
theorem dX6_odd_80 : decode cX6_odd 80 = .ok (.iload_n 3, 1) := by decide +kernel
theorem dX6_odd_81 : decode cX6_odd 81 = .ok (.iaload, 1) := by decide +kernel
theorem dX6_odd_82 : decode cX6_odd 82 = .ok (.aload_n 0, 1) := by decide +kernel
theorem dX6_odd_83 : decode cX6_odd 83 = .ok (.getfield 10, 3) := by decide +kernel
theorem dX6_odd_86 : decode cX6_odd 86 = .ok (.getfield 162, 3) := by decide +kernel
theorem dX6_odd_89 : decode cX6_odd 89 = .ok (.iload_n 3, 1) := by decide +kernel
theorem dX6_odd_90 : decode cX6_odd 90 = .ok (.iaload, 1) := by decide +kernel
theorem dX6_odd_91 : decode cX6_odd 91 = .ok (.aload_n 0, 1) := by decide +kernel
theorem dX6_odd_92 : decode cX6_odd 92 = .ok (.getfield 10, 3) := by decide +kernel
theorem dX6_odd_95 : decode cX6_odd 95 = .ok (.getfield 159, 3) := by decide +kernel
theorem dX6_odd_98 : decode cX6_odd 98 = .ok (.iload_n 3, 1) := by decide +kernel
theorem dX6_odd_99 : decode cX6_odd 99 = .ok (.iaload, 1) := by decide +kernel
theorem dX6_odd_100 : decode cX6_odd 100 = .ok (.invokevirtual 250, 3) := by decide +kernel
theorem dX6_odd_103 : decode cX6_odd 103 = .ok (.aload_n 0, 1) := by decide +kernel
theorem dX6_odd_104 : decode cX6_odd 104 = .ok (.getfield 30, 3) := by decide +kernel
theorem dX6_odd_107 : decode cX6_odd 107 = .ok (.iconst (-1), 1) := by decide +kernel
theorem dX6_odd_108 : decode cX6_odd 108 = .ok (.invokevirtual 256, 3) := by decide +kernel
theorem dX6_odd_111 : decode cX6_odd 111 = .ok (.aload_n 0, 1) := by decide +kernel
theorem dX6_odd_112 : decode cX6_odd 112 = .ok (.getfield 30, 3) := by decide +kernel
theorem dX6_odd_115 : decode cX6_odd 115 = .ok (.invokevirtual 244, 3) := by decide +kernel
theorem dX6_odd_118 : decode cX6_odd 118 = .ok (.aload_n 0, 1) := by decide +kernel
theorem dX6_odd_119 : decode cX6_odd 119 = .ok (.getfield 40, 3) := by decide +kernel
theorem dX6_odd_122 : decode cX6_odd 122 = .ok (.aload_n 0, 1) := by decide +kernel
theorem dX6_odd_123 : decode cX6_odd 123 = .ok (.getfield 30, 3) := by decide +kernel
theorem dX6_odd_126 : decode cX6_odd 126 = .ok (.invokevirtual 188, 3) := by decide +kernel
theorem dX6_odd_129 : decode cX6_odd 129 = .ok (.aload_n 0, 1) := by decide +kernel
theorem dX6_odd_130 : decode cX6_odd 130 = .ok (.getfield 30, 3) := by decide +kernel
theorem dX6_odd_133 : decode cX6_odd 133 = .ok (.getfield 180, 3) := by decide +kernel
theorem dX6_odd_136 : decode cX6_odd 136 = .ok (.invokevirtual 262, 3) := by decide +kernel
theorem dX6_odd_139 : decode cX6_odd 139 = .ok (.iload_n 3, 1) := by decide +kernel
theorem dX6_odd_140 : decode cX6_odd 140 = .ok (.ifCond .eq 17, 3) := by decide +kernel
theorem dX6_odd_143 : decode cX6_odd 143 = .ok (.aload_n 0, 1) := by decide +kernel
theorem dX6_odd_144 : decode cX6_odd 144 = .ok (.getfield 40, 3) := by decide +kernel
theorem dX6_odd_147 : decode cX6_odd 147 = .ok (.aload_n 0, 1) := by decide +kernel
theorem dX6_odd_148 : decode cX6_odd 148 = .ok (.getfield 43, 3) := by decide +kernel
theorem dX6_odd_151 : decode cX6_odd 151 = .ok (.invokevirtual 266, 3) := by decide +kernel
theorem dX6_odd_154 : decode cX6_odd 154 = .ok (.ifCond .eq 16, 3) := by decide +kernel
theorem dX6_odd_157 : decode cX6_odd 157 = .ok (.iload_n 3, 1) := by decide +kernel
theorem dX6_odd_158 : decode cX6_odd 158 = .ok (.istore_n 2, 1) := by decide +kernel
theorem dX6_odd_159 : decode cX6_odd 159 = .ok (.aload_n 0, 1) := by decide +kernel
theorem dX6_odd_160 : decode cX6_odd 160 = .ok (.getfield 43, 3) := by decide +kernel
theorem dX6_odd_163 : decode cX6_odd 163 = .ok (.aload_n 0, 1) := by decide +kernel
theorem dX6_odd_164 : decode cX6_odd 164 = .ok (.getfield 40, 3) := by decide +kernel
theorem dX6_odd_167 : decode cX6_odd 167 = .ok (.invokevirtual 270, 3) := by decide +kernel
theorem dX6_odd_170 : decode cX6_odd 170 = .ok (.iinc 3 1, 3) := by decide +kernel
theorem dX6_odd_173 : decode cX6_odd 173 = .ok (.goto (-146), 3) := by decide +kernel
theorem dX6_odd_176 : decode cX6_odd 176 = .ok (.iload_n 1, 1) := by decide +kernel
theorem dX6_odd_177 : decode cX6_odd 177 = .ok (.ifCond .ne 6, 3) := by decide +kernel
theorem dX6_odd_180 : decode cX6_odd 180 = .ok (.iload_n 2, 1) := by decide +kernel
theorem dX6_odd_181 : decode cX6_odd 181 = .ok (.i2l, 1) := by decide +kernel
theorem dX6_odd_182 : decode cX6_odd 182 = .ok (.lreturn, 1) := by decide +kernel
theorem dX6_odd_183 : decode cX6_odd 183 = .ok (.iload_n 1, 1) := by decide +kernel
theorem dX6_odd_184 : decode cX6_odd 184 = .ok (.iconst 1, 1) := by decide +kernel
theorem dX6_odd_185 : decode cX6_odd 185 = .ok (.if_icmp .ne 13, 3) := by decide +kernel
theorem dX6_odd_188 : decode cX6_odd 188 = .ok (.aload_n 0, 1) := by decide +kernel
theorem dX6_odd_189 : decode cX6_odd 189 = .ok (.getfield 43, 3) := by decide +kernel
theorem dX6_odd_192 : decode cX6_odd 192 = .ok (.getfield 234, 3) := by decide +kernel
theorem dX6_odd_195 : decode cX6_odd 195 = .ok (.goto 10, 3) := by decide +kernel
theorem dX6_odd_198 : decode cX6_odd 198 = .ok (.aload_n 0, 1) := by decide +kernel
theorem dX6_odd_199 : decode cX6_odd 199 = .ok (.getfield 43, 3) := by decide +kernel
theorem dX6_odd_202 : decode cX6_odd 202 = .ok (.getfield 237, 3) := by decide +kernel
theorem dX6_odd_205 : decode cX6_odd 205 = .ok (.lreturn, 1) := by decide +kernel
theorem dX6_even_0 : decode cX6_even 0 = .ok (.iload_n 2, 1) := by decide +kernel
theorem dX6_even_1 : decode cX6_even 1 = .ok (.ifCond .lt 16, 3) := by decide +kernel
theorem dX6_even_4 : decode cX6_even 4 = .ok (.iload_n 2, 1) := by decide +kernel
theorem dX6_even_5 : decode cX6_even 5 = .ok (.iconst 1, 1) := by decide +kernel
theorem dX6_even_6 : decode cX6_even 6 = .ok (.if_icmp .gt 11, 3) := by decide +kernel
theorem dX6_even_9 : decode cX6_even 9 = .ok (.aload_n 0, 1) := by decide +kernel
theorem dX6_even_10 : decode cX6_even 10 = .ok (.iload_n 1, 1) := by decide +kernel
theorem dX6_even_11 : decode cX6_even 11 = .ok (.invokevirtual 273, 3) := by decide +kernel
theorem dX6_even_14 : decode cX6_even 14 = .ok (.ifCond .ne 5, 3) := by decide +kernel
theorem dX6_even_17 : decode cX6_even 17 = .ok (.iconst (-1), 1) := by decide +kernel
theorem dX6_even_18 : decode cX6_even 18 = .ok (.ireturn, 1) := by decide +kernel
theorem dX6_even_19 : decode cX6_even 19 = .ok (.iload_n 2, 1) := by decide +kernel
theorem dX6_even_20 : decode cX6_even 20 = .ok (.ifCond .ne 13, 3) := by decide +kernel
theorem dX6_even_23 : decode cX6_even 23 = .ok (.aload_n 0, 1) := by decide +kernel
theorem dX6_even_24 : decode cX6_even 24 = .ok (.getfield 49, 3) := by decide +kernel
theorem dX6_even_27 : decode cX6_even 27 = .ok (.getfield 222, 3) := by decide +kernel
theorem dX6_even_30 : decode cX6_even 30 = .ok (.goto 10, 3) := by decide +kernel
theorem dX6_even_33 : decode cX6_even 33 = .ok (.aload_n 0, 1) := by decide +kernel
theorem dX6_even_34 : decode cX6_even 34 = .ok (.getfield 49, 3) := by decide +kernel
theorem dX6_even_37 : decode cX6_even 37 = .ok (.getfield 225, 3) := by decide +kernel
theorem dX6_even_40 : decode cX6_even 40 = .ok (.ireturn, 1) := by decide +kernel
theorem dX6_judge_0 : decode cX6_judge 0 = .ok (.aload_n 0, 1) := by decide +kernel
theorem dX6_judge_1 : decode cX6_judge 1 = .ok (.getfield 26, 3) := by decide +kernel
theorem dX6_judge_4 : decode cX6_judge 4 = .ok (.invokevirtual 276, 3) := by decide +kernel
theorem dX6_judge_7 : decode cX6_judge 7 = .ok (.iconst 0, 1) := by decide +kernel
theorem dX6_judge_8 : decode cX6_judge 8 = .ok (.istore_n 1, 1) := by decide +kernel
theorem dX6_judge_9 : decode cX6_judge 9 = .ok (.iload_n 1, 1) := by decide +kernel
theorem dX6_judge_10 : decode cX6_judge 10 = .ok (.aload_n 0, 1) := by decide +kernel
theorem dX6_judge_11 : decode cX6_judge 11 = .ok (.getfield 10, 3) := by decide +kernel
theorem dX6_judge_14 : decode cX6_judge 14 = .ok (.getfield 123, 3) := by decide +kernel
theorem dX6_judge_17 : decode cX6_judge 17 = .ok (.if_icmp .ge 60, 3) := by decide +kernel
theorem dX6_judge_20 : decode cX6_judge 20 = .ok (.aload_n 0, 1) := by decide +kernel
theorem dX6_judge_21 : decode cX6_judge 21 = .ok (.getfield 26, 3) := by decide +kernel
theorem dX6_judge_24 : decode cX6_judge 24 = .ok (.aload_n 0, 1) := by decide +kernel
theorem dX6_judge_25 : decode cX6_judge 25 = .ok (.getfield 10, 3) := by decide +kernel
theorem dX6_judge_28 : decode cX6_judge 28 = .ok (.getfield 153, 3) := by decide +kernel
theorem dX6_judge_31 : decode cX6_judge 31 = .ok (.iload_n 1, 1) := by decide +kernel
theorem dX6_judge_32 : decode cX6_judge 32 = .ok (.iaload, 1) := by decide +kernel
theorem dX6_judge_33 : decode cX6_judge 33 = .ok (.aload_n 0, 1) := by decide +kernel
theorem dX6_judge_34 : decode cX6_judge 34 = .ok (.getfield 10, 3) := by decide +kernel
theorem dX6_judge_37 : decode cX6_judge 37 = .ok (.getfield 156, 3) := by decide +kernel
theorem dX6_judge_40 : decode cX6_judge 40 = .ok (.iload_n 1, 1) := by decide +kernel
theorem dX6_judge_41 : decode cX6_judge 41 = .ok (.iaload, 1) := by decide +kernel
theorem dX6_judge_42 : decode cX6_judge 42 = .ok (.aload_n 0, 1) := by decide +kernel
theorem dX6_judge_43 : decode cX6_judge 43 = .ok (.getfield 10, 3) := by decide +kernel
theorem dX6_judge_46 : decode cX6_judge 46 = .ok (.getfield 162, 3) := by decide +kernel
theorem dX6_judge_49 : decode cX6_judge 49 = .ok (.iload_n 1, 1) := by decide +kernel
theorem dX6_judge_50 : decode cX6_judge 50 = .ok (.iaload, 1) := by decide +kernel
theorem dX6_judge_51 : decode cX6_judge 51 = .ok (.aload_n 0, 1) := by decide +kernel
theorem dX6_judge_52 : decode cX6_judge 52 = .ok (.getfield 10, 3) := by decide +kernel
theorem dX6_judge_55 : decode cX6_judge 55 = .ok (.getfield 159, 3) := by decide +kernel
theorem dX6_judge_58 : decode cX6_judge 58 = .ok (.iload_n 1, 1) := by decide +kernel
theorem dX6_judge_59 : decode cX6_judge 59 = .ok (.iaload, 1) := by decide +kernel
theorem dX6_judge_60 : decode cX6_judge 60 = .ok (.invokevirtual 250, 3) := by decide +kernel
theorem dX6_judge_63 : decode cX6_judge 63 = .ok (.aload_n 0, 1) := by decide +kernel
theorem dX6_judge_64 : decode cX6_judge 64 = .ok (.getfield 26, 3) := by decide +kernel
theorem dX6_judge_67 : decode cX6_judge 67 = .ok (.iconst 1, 1) := by decide +kernel
theorem dX6_judge_68 : decode cX6_judge 68 = .ok (.invokevirtual 256, 3) := by decide +kernel
theorem dX6_judge_71 : decode cX6_judge 71 = .ok (.iinc 1 1, 3) := by decide +kernel
theorem dX6_judge_74 : decode cX6_judge 74 = .ok (.goto (-65), 3) := by decide +kernel
theorem dX6_judge_77 : decode cX6_judge 77 = .ok (.aload_n 0, 1) := by decide +kernel
theorem dX6_judge_78 : decode cX6_judge 78 = .ok (.getfield 26, 3) := by decide +kernel
theorem dX6_judge_81 : decode cX6_judge 81 = .ok (.invokevirtual 244, 3) := by decide +kernel
theorem dX6_judge_84 : decode cX6_judge 84 = .ok (.return_, 1) := by decide +kernel
theorem dX6_areTwo_0 : decode cX6_areTwo 0 = .ok (.aload_n 0, 1) := by decide +kernel
theorem dX6_areTwo_1 : decode cX6_areTwo 1 = .ok (.getfield 10, 3) := by decide +kernel
theorem dX6_areTwo_4 : decode cX6_areTwo 4 = .ok (.iload_n 1, 1) := by decide +kernel
theorem dX6_areTwo_5 : decode cX6_areTwo 5 = .ok (.invokevirtual 167, 3) := by decide +kernel
theorem dX6_areTwo_8 : decode cX6_areTwo 8 = .ok (.ifCond .eq 23, 3) := by decide +kernel
theorem dX6_areTwo_11 : decode cX6_areTwo 11 = .ok (.aload_n 0, 1) := by decide +kernel
theorem dX6_areTwo_12 : decode cX6_areTwo 12 = .ok (.getfield 10, 3) := by decide +kernel
theorem dX6_areTwo_15 : decode cX6_areTwo 15 = .ok (.iload_n 2, 1) := by decide +kernel
theorem dX6_areTwo_16 : decode cX6_areTwo 16 = .ok (.invokevirtual 167, 3) := by decide +kernel
theorem dX6_areTwo_19 : decode cX6_areTwo 19 = .ok (.ifCond .eq 12, 3) := by decide +kernel
theorem dX6_areTwo_22 : decode cX6_areTwo 22 = .ok (.iload_n 1, 1) := by decide +kernel
theorem dX6_areTwo_23 : decode cX6_areTwo 23 = .ok (.iload_n 2, 1) := by decide +kernel
theorem dX6_areTwo_24 : decode cX6_areTwo 24 = .ok (.if_icmp .eq 7, 3) := by decide +kernel
theorem dX6_areTwo_27 : decode cX6_areTwo 27 = .ok (.iconst 1, 1) := by decide +kernel
theorem dX6_areTwo_28 : decode cX6_areTwo 28 = .ok (.goto 4, 3) := by decide +kernel
theorem dX6_areTwo_31 : decode cX6_areTwo 31 = .ok (.iconst 0, 1) := by decide +kernel
theorem dX6_areTwo_32 : decode cX6_areTwo 32 = .ok (.ireturn, 1) := by decide +kernel
theorem dX6_tellFraction_0 : decode cX6_tellFraction 0 = .ok (.aload_n 0, 1) := by decide +kernel
theorem dX6_tellFraction_1 : decode cX6_tellFraction 1 = .ok (.getfield 36, 3) := by decide +kernel
theorem dX6_tellFraction_4 : decode cX6_tellFraction 4 = .ok (.lload_n 1, 1) := by decide +kernel
theorem dX6_tellFraction_5 : decode cX6_tellFraction 5 = .ok (.lload_n 3, 1) := by decide +kernel
theorem dX6_tellFraction_6 : decode cX6_tellFraction 6 = .ok (.invokevirtual 262, 3) := by decide +kernel
theorem dX6_tellFraction_9 : decode cX6_tellFraction 9 = .ok (.iload 5, 2) := by decide +kernel
theorem dX6_tellFraction_11 : decode cX6_tellFraction 11 = .ok (.ifCond .eq 13, 3) := by decide +kernel
theorem dX6_tellFraction_14 : decode cX6_tellFraction 14 = .ok (.aload_n 0, 1) := by decide +kernel
theorem dX6_tellFraction_15 : decode cX6_tellFraction 15 = .ok (.getfield 36, 3) := by decide +kernel
theorem dX6_tellFraction_18 : decode cX6_tellFraction 18 = .ok (.getfield 237, 3) := by decide +kernel
theorem dX6_tellFraction_21 : decode cX6_tellFraction 21 = .ok (.goto 10, 3) := by decide +kernel
theorem dX6_tellFraction_24 : decode cX6_tellFraction 24 = .ok (.aload_n 0, 1) := by decide +kernel
theorem dX6_tellFraction_25 : decode cX6_tellFraction 25 = .ok (.getfield 36, 3) := by decide +kernel
theorem dX6_tellFraction_28 : decode cX6_tellFraction 28 = .ok (.getfield 234, 3) := by decide +kernel
theorem dX6_tellFraction_31 : decode cX6_tellFraction 31 = .ok (.lreturn, 1) := by decide +kernel
theorem dX6_tellForm_0 : decode cX6_tellForm 0 = .ok (.aload_n 0, 1) := by decide +kernel
theorem dX6_tellForm_1 : decode cX6_tellForm 1 = .ok (.getfield 26, 3) := by decide +kernel
theorem dX6_tellForm_4 : decode cX6_tellForm 4 = .ok (.iload_n 1, 1) := by decide +kernel
theorem dX6_tellForm_5 : decode cX6_tellForm 5 = .ok (.iload_n 2, 1) := by decide +kernel
theorem dX6_tellForm_6 : decode cX6_tellForm 6 = .ok (.iload_n 3, 1) := by decide +kernel
theorem dX6_tellForm_7 : decode cX6_tellForm 7 = .ok (.iconst 0, 1) := by decide +kernel
theorem dX6_tellForm_8 : decode cX6_tellForm 8 = .ok (.invokevirtual 250, 3) := by decide +kernel
theorem dX6_tellForm_11 : decode cX6_tellForm 11 = .ok (.aload_n 0, 1) := by decide +kernel
theorem dX6_tellForm_12 : decode cX6_tellForm 12 = .ok (.getfield 26, 3) := by decide +kernel
theorem dX6_tellForm_15 : decode cX6_tellForm 15 = .ok (.invokevirtual 253, 3) := by decide +kernel
theorem dX6_tellForm_18 : decode cX6_tellForm 18 = .ok (.ifCond .ne 7, 3) := by decide +kernel
theorem dX6_tellForm_21 : decode cX6_tellForm 21 = .ok (.ldc2_w 170, 3) := by decide +kernel
theorem dX6_tellForm_24 : decode cX6_tellForm 24 = .ok (.lreturn, 1) := by decide +kernel
theorem dX6_tellForm_25 : decode cX6_tellForm 25 = .ok (.aload_n 0, 1) := by decide +kernel
theorem dX6_tellForm_26 : decode cX6_tellForm 26 = .ok (.iload 4, 2) := by decide +kernel
theorem dX6_tellForm_28 : decode cX6_tellForm 28 = .ok (.ifCond .eq 13, 3) := by decide +kernel
theorem dX6_tellForm_31 : decode cX6_tellForm 31 = .ok (.aload_n 0, 1) := by decide +kernel
theorem dX6_tellForm_32 : decode cX6_tellForm 32 = .ok (.getfield 26, 3) := by decide +kernel
theorem dX6_tellForm_35 : decode cX6_tellForm 35 = .ok (.invokevirtual 279, 3) := by decide +kernel
theorem dX6_tellForm_38 : decode cX6_tellForm 38 = .ok (.goto 10, 3) := by decide +kernel
theorem dX6_tellForm_41 : decode cX6_tellForm 41 = .ok (.aload_n 0, 1) := by decide +kernel
theorem dX6_tellForm_42 : decode cX6_tellForm 42 = .ok (.getfield 26, 3) := by decide +kernel
theorem dX6_tellForm_45 : decode cX6_tellForm 45 = .ok (.invokevirtual 282, 3) := by decide +kernel
theorem dX6_tellForm_48 : decode cX6_tellForm 48 = .ok (.aload_n 0, 1) := by decide +kernel
theorem dX6_tellForm_49 : decode cX6_tellForm 49 = .ok (.getfield 26, 3) := by decide +kernel
theorem dX6_tellForm_52 : decode cX6_tellForm 52 = .ok (.getfield 180, 3) := by decide +kernel
theorem dX6_tellForm_55 : decode cX6_tellForm 55 = .ok (.iload 5, 2) := by decide +kernel
theorem dX6_tellForm_57 : decode cX6_tellForm 57 = .ok (.invokevirtual 184, 3) := by decide +kernel
theorem dX6_tellForm_60 : decode cX6_tellForm 60 = .ok (.lreturn, 1) := by decide +kernel
theorem dX6_scaledRest_0 : decode cX6_scaledRest 0 = .ok (.aload_n 0, 1) := by decide +kernel
theorem dX6_scaledRest_1 : decode cX6_scaledRest 1 = .ok (.getfield 26, 3) := by decide +kernel
theorem dX6_scaledRest_4 : decode cX6_scaledRest 4 = .ok (.aload_n 0, 1) := by decide +kernel
theorem dX6_scaledRest_5 : decode cX6_scaledRest 5 = .ok (.getfield 10, 3) := by decide +kernel
theorem dX6_scaledRest_8 : decode cX6_scaledRest 8 = .ok (.getfield 153, 3) := by decide +kernel
theorem dX6_scaledRest_11 : decode cX6_scaledRest 11 = .ok (.iload_n 1, 1) := by decide +kernel
theorem dX6_scaledRest_12 : decode cX6_scaledRest 12 = .ok (.iaload, 1) := by decide +kernel
theorem dX6_scaledRest_13 : decode cX6_scaledRest 13 = .ok (.aload_n 0, 1) := by decide +kernel
theorem dX6_scaledRest_14 : decode cX6_scaledRest 14 = .ok (.getfield 10, 3) := by decide +kernel
theorem dX6_scaledRest_17 : decode cX6_scaledRest 17 = .ok (.getfield 156, 3) := by decide +kernel
theorem dX6_scaledRest_20 : decode cX6_scaledRest 20 = .ok (.iload_n 1, 1) := by decide +kernel
theorem dX6_scaledRest_21 : decode cX6_scaledRest 21 = .ok (.iaload, 1) := by decide +kernel
theorem dX6_scaledRest_22 : decode cX6_scaledRest 22 = .ok (.aload_n 0, 1) := by decide +kernel
theorem dX6_scaledRest_23 : decode cX6_scaledRest 23 = .ok (.getfield 10, 3) := by decide +kernel
theorem dX6_scaledRest_26 : decode cX6_scaledRest 26 = .ok (.getfield 162, 3) := by decide +kernel
theorem dX6_scaledRest_29 : decode cX6_scaledRest 29 = .ok (.iload_n 1, 1) := by decide +kernel
theorem dX6_scaledRest_30 : decode cX6_scaledRest 30 = .ok (.iaload, 1) := by decide +kernel
theorem dX6_scaledRest_31 : decode cX6_scaledRest 31 = .ok (.iconst 0, 1) := by decide +kernel
theorem dX6_scaledRest_32 : decode cX6_scaledRest 32 = .ok (.invokevirtual 250, 3) := by decide +kernel
theorem dX6_scaledRest_35 : decode cX6_scaledRest 35 = .ok (.aload_n 0, 1) := by decide +kernel
theorem dX6_scaledRest_36 : decode cX6_scaledRest 36 = .ok (.getfield 10, 3) := by decide +kernel
theorem dX6_scaledRest_39 : decode cX6_scaledRest 39 = .ok (.getfield 159, 3) := by decide +kernel
theorem dX6_scaledRest_42 : decode cX6_scaledRest 42 = .ok (.iload_n 1, 1) := by decide +kernel
theorem dX6_scaledRest_43 : decode cX6_scaledRest 43 = .ok (.iaload, 1) := by decide +kernel
theorem dX6_scaledRest_44 : decode cX6_scaledRest 44 = .ok (.i2l, 1) := by decide +kernel
theorem dX6_scaledRest_45 : decode cX6_scaledRest 45 = .ok (.aload_n 0, 1) := by decide +kernel
theorem dX6_scaledRest_46 : decode cX6_scaledRest 46 = .ok (.getfield 26, 3) := by decide +kernel
theorem dX6_scaledRest_49 : decode cX6_scaledRest 49 = .ok (.getfield 180, 3) := by decide +kernel
theorem dX6_scaledRest_52 : decode cX6_scaledRest 52 = .ok (.lmul, 1) := by decide +kernel
theorem dX6_scaledRest_53 : decode cX6_scaledRest 53 = .ok (.aload_n 0, 1) := by decide +kernel
theorem dX6_scaledRest_54 : decode cX6_scaledRest 54 = .ok (.getfield 26, 3) := by decide +kernel
theorem dX6_scaledRest_57 : decode cX6_scaledRest 57 = .ok (.invokevirtual 282, 3) := by decide +kernel
theorem dX6_scaledRest_60 : decode cX6_scaledRest 60 = .ok (.lsub, 1) := by decide +kernel
theorem dX6_scaledRest_61 : decode cX6_scaledRest 61 = .ok (.lreturn, 1) := by decide +kernel
theorem dX6_groupOf_0 : decode cX6_groupOf 0 = .ok (.iconst 0, 1) := by decide +kernel
theorem dX6_groupOf_1 : decode cX6_groupOf 1 = .ok (.istore_n 2, 1) := by decide +kernel
theorem dX6_groupOf_2 : decode cX6_groupOf 2 = .ok (.iconst 0, 1) := by decide +kernel
theorem dX6_groupOf_3 : decode cX6_groupOf 3 = .ok (.istore_n 3, 1) := by decide +kernel
theorem dX6_groupOf_4 : decode cX6_groupOf 4 = .ok (.iload_n 3, 1) := by decide +kernel
theorem dX6_groupOf_5 : decode cX6_groupOf 5 = .ok (.aload_n 0, 1) := by decide +kernel
theorem dX6_groupOf_6 : decode cX6_groupOf 6 = .ok (.getfield 10, 3) := by decide +kernel
theorem dX6_groupOf_9 : decode cX6_groupOf 9 = .ok (.getfield 132, 3) := by decide +kernel
theorem dX6_groupOf_12 : decode cX6_groupOf 12 = .ok (.if_icmp .ge 40, 3) := by decide +kernel
theorem dX6_groupOf_15 : decode cX6_groupOf 15 = .ok (.aload_n 0, 1) := by decide +kernel
theorem dX6_groupOf_16 : decode cX6_groupOf 16 = .ok (.getfield 26, 3) := by decide +kernel
theorem dX6_groupOf_19 : decode cX6_groupOf 19 = .ok (.iconst 1, 1) := by decide +kernel
theorem dX6_groupOf_20 : decode cX6_groupOf 20 = .ok (.iload_n 1, 1) := by decide +kernel
theorem dX6_groupOf_21 : decode cX6_groupOf 21 = .ok (.ishl, 1) := by decide +kernel
theorem dX6_groupOf_22 : decode cX6_groupOf 22 = .ok (.iconst 1, 1) := by decide +kernel
theorem dX6_groupOf_23 : decode cX6_groupOf 23 = .ok (.iload_n 3, 1) := by decide +kernel
theorem dX6_groupOf_24 : decode cX6_groupOf 24 = .ok (.ishl, 1) := by decide +kernel
theorem dX6_groupOf_25 : decode cX6_groupOf 25 = .ok (.iconst 0, 1) := by decide +kernel
theorem dX6_groupOf_26 : decode cX6_groupOf 26 = .ok (.iconst 0, 1) := by decide +kernel
theorem dX6_groupOf_27 : decode cX6_groupOf 27 = .ok (.invokevirtual 250, 3) := by decide +kernel
theorem dX6_groupOf_30 : decode cX6_groupOf 30 = .ok (.aload_n 0, 1) := by decide +kernel
theorem dX6_groupOf_31 : decode cX6_groupOf 31 = .ok (.getfield 26, 3) := by decide +kernel
theorem dX6_groupOf_34 : decode cX6_groupOf 34 = .ok (.invokevirtual 253, 3) := by decide +kernel
theorem dX6_groupOf_37 : decode cX6_groupOf 37 = .ok (.ifCond .eq 9, 3) := by decide +kernel
theorem dX6_groupOf_40 : decode cX6_groupOf 40 = .ok (.iload_n 2, 1) := by decide +kernel
theorem dX6_groupOf_41 : decode cX6_groupOf 41 = .ok (.iconst 1, 1) := by decide +kernel
theorem dX6_groupOf_42 : decode cX6_groupOf 42 = .ok (.iload_n 3, 1) := by decide +kernel
theorem dX6_groupOf_43 : decode cX6_groupOf 43 = .ok (.ishl, 1) := by decide +kernel
theorem dX6_groupOf_44 : decode cX6_groupOf 44 = .ok (.ior, 1) := by decide +kernel
theorem dX6_groupOf_45 : decode cX6_groupOf 45 = .ok (.istore_n 2, 1) := by decide +kernel
theorem dX6_groupOf_46 : decode cX6_groupOf 46 = .ok (.iinc 3 1, 3) := by decide +kernel
theorem dX6_groupOf_49 : decode cX6_groupOf 49 = .ok (.goto (-45), 3) := by decide +kernel
theorem dX6_groupOf_52 : decode cX6_groupOf 52 = .ok (.iload_n 2, 1) := by decide +kernel
theorem dX6_groupOf_53 : decode cX6_groupOf 53 = .ok (.ireturn, 1) := by decide +kernel
theorem dX6_countGroups_0 : decode cX6_countGroups 0 = .ok (.iconst 0, 1) := by decide +kernel
theorem dX6_countGroups_1 : decode cX6_countGroups 1 = .ok (.istore_n 1, 1) := by decide +kernel
theorem dX6_countGroups_2 : decode cX6_countGroups 2 = .ok (.iconst 0, 1) := by decide +kernel
theorem dX6_countGroups_3 : decode cX6_countGroups 3 = .ok (.istore_n 2, 1) := by decide +kernel
theorem dX6_countGroups_4 : decode cX6_countGroups 4 = .ok (.iload_n 2, 1) := by decide +kernel
theorem dX6_countGroups_5 : decode cX6_countGroups 5 = .ok (.aload_n 0, 1) := by decide +kernel
theorem dX6_countGroups_6 : decode cX6_countGroups 6 = .ok (.getfield 10, 3) := by decide +kernel
theorem dX6_countGroups_9 : decode cX6_countGroups 9 = .ok (.getfield 132, 3) := by decide +kernel
theorem dX6_countGroups_12 : decode cX6_countGroups 12 = .ok (.if_icmp .ge 28, 3) := by decide +kernel
theorem dX6_countGroups_15 : decode cX6_countGroups 15 = .ok (.iconst 1, 1) := by decide +kernel
theorem dX6_countGroups_16 : decode cX6_countGroups 16 = .ok (.iload_n 2, 1) := by decide +kernel
theorem dX6_countGroups_17 : decode cX6_countGroups 17 = .ok (.ishl, 1) := by decide +kernel
theorem dX6_countGroups_18 : decode cX6_countGroups 18 = .ok (.iconst 1, 1) := by decide +kernel
theorem dX6_countGroups_19 : decode cX6_countGroups 19 = .ok (.isub, 1) := by decide +kernel
theorem dX6_countGroups_20 : decode cX6_countGroups 20 = .ok (.istore_n 3, 1) := by decide +kernel
theorem dX6_countGroups_21 : decode cX6_countGroups 21 = .ok (.aload_n 0, 1) := by decide +kernel
theorem dX6_countGroups_22 : decode cX6_countGroups 22 = .ok (.iload_n 2, 1) := by decide +kernel
theorem dX6_countGroups_23 : decode cX6_countGroups 23 = .ok (.invokevirtual 204, 3) := by decide +kernel
theorem dX6_countGroups_26 : decode cX6_countGroups 26 = .ok (.iload_n 3, 1) := by decide +kernel
theorem dX6_countGroups_27 : decode cX6_countGroups 27 = .ok (.iand, 1) := by decide +kernel
theorem dX6_countGroups_28 : decode cX6_countGroups 28 = .ok (.ifCond .ne 6, 3) := by decide +kernel
theorem dX6_countGroups_31 : decode cX6_countGroups 31 = .ok (.iinc 1 1, 3) := by decide +kernel
theorem dX6_countGroups_34 : decode cX6_countGroups 34 = .ok (.iinc 2 1, 3) := by decide +kernel
theorem dX6_countGroups_37 : decode cX6_countGroups 37 = .ok (.goto (-33), 3) := by decide +kernel
theorem dX6_countGroups_40 : decode cX6_countGroups 40 = .ok (.iload_n 1, 1) := by decide +kernel
theorem dX6_countGroups_41 : decode cX6_countGroups 41 = .ok (.ireturn, 1) := by decide +kernel
theorem dX6_isAhead_0 : decode cX6_isAhead 0 = .ok (.aload_n 0, 1) := by decide +kernel
theorem dX6_isAhead_1 : decode cX6_isAhead 1 = .ok (.getfield 26, 3) := by decide +kernel
theorem dX6_isAhead_4 : decode cX6_isAhead 4 = .ok (.iconst 1, 1) := by decide +kernel
theorem dX6_isAhead_5 : decode cX6_isAhead 5 = .ok (.iload_n 1, 1) := by decide +kernel
theorem dX6_isAhead_6 : decode cX6_isAhead 6 = .ok (.ishl, 1) := by decide +kernel
theorem dX6_isAhead_7 : decode cX6_isAhead 7 = .ok (.iconst 1, 1) := by decide +kernel
theorem dX6_isAhead_8 : decode cX6_isAhead 8 = .ok (.iload_n 2, 1) := by decide +kernel
theorem dX6_isAhead_9 : decode cX6_isAhead 9 = .ok (.ishl, 1) := by decide +kernel
theorem dX6_isAhead_10 : decode cX6_isAhead 10 = .ok (.iconst 0, 1) := by decide +kernel
theorem dX6_isAhead_11 : decode cX6_isAhead 11 = .ok (.iconst 0, 1) := by decide +kernel
theorem dX6_isAhead_12 : decode cX6_isAhead 12 = .ok (.invokevirtual 250, 3) := by decide +kernel
theorem dX6_isAhead_15 : decode cX6_isAhead 15 = .ok (.aload_n 0, 1) := by decide +kernel
theorem dX6_isAhead_16 : decode cX6_isAhead 16 = .ok (.getfield 26, 3) := by decide +kernel
theorem dX6_isAhead_19 : decode cX6_isAhead 19 = .ok (.invokevirtual 253, 3) := by decide +kernel
theorem dX6_isAhead_22 : decode cX6_isAhead 22 = .ok (.ifCond .eq 28, 3) := by decide +kernel
theorem dX6_isAhead_25 : decode cX6_isAhead 25 = .ok (.aload_n 0, 1) := by decide +kernel
theorem dX6_isAhead_26 : decode cX6_isAhead 26 = .ok (.getfield 26, 3) := by decide +kernel
theorem dX6_isAhead_29 : decode cX6_isAhead 29 = .ok (.invokevirtual 282, 3) := by decide +kernel
theorem dX6_isAhead_32 : decode cX6_isAhead 32 = .ok (.iload_n 3, 1) := by decide +kernel
theorem dX6_isAhead_33 : decode cX6_isAhead 33 = .ok (.i2l, 1) := by decide +kernel
theorem dX6_isAhead_34 : decode cX6_isAhead 34 = .ok (.aload_n 0, 1) := by decide +kernel
theorem dX6_isAhead_35 : decode cX6_isAhead 35 = .ok (.getfield 26, 3) := by decide +kernel
theorem dX6_isAhead_38 : decode cX6_isAhead 38 = .ok (.invokevirtual 279, 3) := by decide +kernel
theorem dX6_isAhead_41 : decode cX6_isAhead 41 = .ok (.lmul, 1) := by decide +kernel
theorem dX6_isAhead_42 : decode cX6_isAhead 42 = .ok (.lcmp, 1) := by decide +kernel
theorem dX6_isAhead_43 : decode cX6_isAhead 43 = .ok (.ifCond .le 7, 3) := by decide +kernel
theorem dX6_isAhead_46 : decode cX6_isAhead 46 = .ok (.iconst 1, 1) := by decide +kernel
theorem dX6_isAhead_47 : decode cX6_isAhead 47 = .ok (.goto 4, 3) := by decide +kernel
theorem dX6_isAhead_50 : decode cX6_isAhead 50 = .ok (.iconst 0, 1) := by decide +kernel
theorem dX6_isAhead_51 : decode cX6_isAhead 51 = .ok (.ireturn, 1) := by decide +kernel
theorem dX6_thoseAheadOf_0 : decode cX6_thoseAheadOf 0 = .ok (.iconst 0, 1) := by decide +kernel
theorem dX6_thoseAheadOf_1 : decode cX6_thoseAheadOf 1 = .ok (.istore_n 3, 1) := by decide +kernel
theorem dX6_thoseAheadOf_2 : decode cX6_thoseAheadOf 2 = .ok (.iconst 0, 1) := by decide +kernel
theorem dX6_thoseAheadOf_3 : decode cX6_thoseAheadOf 3 = .ok (.istore 4, 2) := by decide +kernel
theorem dX6_thoseAheadOf_5 : decode cX6_thoseAheadOf 5 = .ok (.iload 4, 2) := by decide +kernel
theorem dX6_thoseAheadOf_7 : decode cX6_thoseAheadOf 7 = .ok (.aload_n 0, 1) := by decide +kernel
theorem dX6_thoseAheadOf_8 : decode cX6_thoseAheadOf 8 = .ok (.getfield 10, 3) := by decide +kernel
theorem dX6_thoseAheadOf_11 : decode cX6_thoseAheadOf 11 = .ok (.getfield 132, 3) := by decide +kernel
theorem dX6_thoseAheadOf_14 : decode cX6_thoseAheadOf 14 = .ok (.if_icmp .ge 27, 3) := by decide +kernel
theorem dX6_thoseAheadOf_17 : decode cX6_thoseAheadOf 17 = .ok (.aload_n 0, 1) := by decide +kernel
theorem dX6_thoseAheadOf_18 : decode cX6_thoseAheadOf 18 = .ok (.iload 4, 2) := by decide +kernel
theorem dX6_thoseAheadOf_20 : decode cX6_thoseAheadOf 20 = .ok (.iload_n 1, 1) := by decide +kernel
theorem dX6_thoseAheadOf_21 : decode cX6_thoseAheadOf 21 = .ok (.iload_n 2, 1) := by decide +kernel
theorem dX6_thoseAheadOf_22 : decode cX6_thoseAheadOf 22 = .ok (.invokevirtual 285, 3) := by decide +kernel
theorem dX6_thoseAheadOf_25 : decode cX6_thoseAheadOf 25 = .ok (.ifCond .eq 10, 3) := by decide +kernel
theorem dX6_thoseAheadOf_28 : decode cX6_thoseAheadOf 28 = .ok (.iload_n 3, 1) := by decide +kernel
theorem dX6_thoseAheadOf_29 : decode cX6_thoseAheadOf 29 = .ok (.iconst 1, 1) := by decide +kernel
theorem dX6_thoseAheadOf_30 : decode cX6_thoseAheadOf 30 = .ok (.iload 4, 2) := by decide +kernel
theorem dX6_thoseAheadOf_32 : decode cX6_thoseAheadOf 32 = .ok (.ishl, 1) := by decide +kernel
theorem dX6_thoseAheadOf_33 : decode cX6_thoseAheadOf 33 = .ok (.ior, 1) := by decide +kernel
theorem dX6_thoseAheadOf_34 : decode cX6_thoseAheadOf 34 = .ok (.istore_n 3, 1) := by decide +kernel
theorem dX6_thoseAheadOf_35 : decode cX6_thoseAheadOf 35 = .ok (.iinc 4 1, 3) := by decide +kernel
theorem dX6_thoseAheadOf_38 : decode cX6_thoseAheadOf 38 = .ok (.goto (-33), 3) := by decide +kernel
theorem dX6_thoseAheadOf_41 : decode cX6_thoseAheadOf 41 = .ok (.iload_n 3, 1) := by decide +kernel
theorem dX6_thoseAheadOf_42 : decode cX6_thoseAheadOf 42 = .ok (.ireturn, 1) := by decide +kernel
theorem dX6_countSurelyBehind_0 : decode cX6_countSurelyBehind 0 = .ok (.iconst 0, 1) := by decide +kernel
theorem dX6_countSurelyBehind_1 : decode cX6_countSurelyBehind 1 = .ok (.istore_n 2, 1) := by decide +kernel
theorem dX6_countSurelyBehind_2 : decode cX6_countSurelyBehind 2 = .ok (.iconst 0, 1) := by decide +kernel
theorem dX6_countSurelyBehind_3 : decode cX6_countSurelyBehind 3 = .ok (.istore_n 3, 1) := by decide +kernel
theorem dX6_countSurelyBehind_4 : decode cX6_countSurelyBehind 4 = .ok (.iload_n 3, 1) := by decide +kernel
theorem dX6_countSurelyBehind_5 : decode cX6_countSurelyBehind 5 = .ok (.aload_n 0, 1) := by decide +kernel
theorem dX6_countSurelyBehind_6 : decode cX6_countSurelyBehind 6 = .ok (.getfield 10, 3) := by decide +kernel
theorem dX6_countSurelyBehind_9 : decode cX6_countSurelyBehind 9 = .ok (.getfield 132, 3) := by decide +kernel
theorem dX6_countSurelyBehind_12 : decode cX6_countSurelyBehind 12 = .ok (.if_icmp .ge 28, 3) := by decide +kernel
theorem dX6_countSurelyBehind_15 : decode cX6_countSurelyBehind 15 = .ok (.aload_n 0, 1) := by decide +kernel
theorem dX6_countSurelyBehind_16 : decode cX6_countSurelyBehind 16 = .ok (.iload_n 1, 1) := by decide +kernel
theorem dX6_countSurelyBehind_17 : decode cX6_countSurelyBehind 17 = .ok (.iload_n 3, 1) := by decide +kernel
theorem dX6_countSurelyBehind_18 : decode cX6_countSurelyBehind 18 = .ok (.aload_n 0, 1) := by decide +kernel
theorem dX6_countSurelyBehind_19 : decode cX6_countSurelyBehind 19 = .ok (.getfield 10, 3) := by decide +kernel
theorem dX6_countSurelyBehind_22 : decode cX6_countSurelyBehind 22 = .ok (.getfield 110, 3) := by decide +kernel
theorem dX6_countSurelyBehind_25 : decode cX6_countSurelyBehind 25 = .ok (.invokevirtual 285, 3) := by decide +kernel
theorem dX6_countSurelyBehind_28 : decode cX6_countSurelyBehind 28 = .ok (.ifCond .eq 6, 3) := by decide +kernel
theorem dX6_countSurelyBehind_31 : decode cX6_countSurelyBehind 31 = .ok (.iinc 2 1, 3) := by decide +kernel
theorem dX6_countSurelyBehind_34 : decode cX6_countSurelyBehind 34 = .ok (.iinc 3 1, 3) := by decide +kernel
theorem dX6_countSurelyBehind_37 : decode cX6_countSurelyBehind 37 = .ok (.goto (-33), 3) := by decide +kernel
theorem dX6_countSurelyBehind_40 : decode cX6_countSurelyBehind 40 = .ok (.iload_n 2, 1) := by decide +kernel
theorem dX6_countSurelyBehind_41 : decode cX6_countSurelyBehind 41 = .ok (.ireturn, 1) := by decide +kernel
theorem dX6_listMatches_0 : decode cX6_listMatches 0 = .ok (.iconst 1, 1) := by decide +kernel
theorem dX6_listMatches_1 : decode cX6_listMatches 1 = .ok (.aload_n 0, 1) := by decide +kernel
theorem dX6_listMatches_2 : decode cX6_listMatches 2 = .ok (.getfield 10, 3) := by decide +kernel
theorem dX6_listMatches_5 : decode cX6_listMatches 5 = .ok (.getfield 132, 3) := by decide +kernel
theorem dX6_listMatches_8 : decode cX6_listMatches 8 = .ok (.ishl, 1) := by decide +kernel
theorem dX6_listMatches_9 : decode cX6_listMatches 9 = .ok (.istore_n 2, 1) := by decide +kernel
theorem dX6_listMatches_10 : decode cX6_listMatches 10 = .ok (.iconst 0, 1) := by decide +kernel
theorem dX6_listMatches_11 : decode cX6_listMatches 11 = .ok (.istore_n 3, 1) := by decide +kernel
theorem dX6_listMatches_12 : decode cX6_listMatches 12 = .ok (.iconst 1, 1) := by decide +kernel
theorem dX6_listMatches_13 : decode cX6_listMatches 13 = .ok (.istore 4, 2) := by decide +kernel
theorem dX6_listMatches_15 : decode cX6_listMatches 15 = .ok (.iload 4, 2) := by decide +kernel
theorem dX6_listMatches_17 : decode cX6_listMatches 17 = .ok (.iload_n 2, 1) := by decide +kernel
theorem dX6_listMatches_18 : decode cX6_listMatches 18 = .ok (.if_icmp .ge 72, 3) := by decide +kernel
theorem dX6_listMatches_21 : decode cX6_listMatches 21 = .ok (.iload 4, 2) := by decide +kernel
theorem dX6_listMatches_23 : decode cX6_listMatches 23 = .ok (.invokestatic 196, 3) := by decide +kernel
theorem dX6_listMatches_26 : decode cX6_listMatches 26 = .ok (.iload_n 1, 1) := by decide +kernel
theorem dX6_listMatches_27 : decode cX6_listMatches 27 = .ok (.if_icmp .eq 6, 3) := by decide +kernel
theorem dX6_listMatches_30 : decode cX6_listMatches 30 = .ok (.goto 54, 3) := by decide +kernel
theorem dX6_listMatches_33 : decode cX6_listMatches 33 = .ok (.iconst 1, 1) := by decide +kernel
theorem dX6_listMatches_34 : decode cX6_listMatches 34 = .ok (.istore 5, 2) := by decide +kernel
theorem dX6_listMatches_36 : decode cX6_listMatches 36 = .ok (.iload 5, 2) := by decide +kernel
theorem dX6_listMatches_38 : decode cX6_listMatches 38 = .ok (.iload_n 2, 1) := by decide +kernel
theorem dX6_listMatches_39 : decode cX6_listMatches 39 = .ok (.if_icmp .ge 45, 3) := by decide +kernel
theorem dX6_listMatches_42 : decode cX6_listMatches 42 = .ok (.iload_n 3, 1) := by decide +kernel
theorem dX6_listMatches_43 : decode cX6_listMatches 43 = .ok (.bipush 45, 2) := by decide +kernel
theorem dX6_listMatches_45 : decode cX6_listMatches 45 = .ok (.if_icmp .ge 39, 3) := by decide +kernel
theorem dX6_listMatches_48 : decode cX6_listMatches 48 = .ok (.aload_n 0, 1) := by decide +kernel
theorem dX6_listMatches_49 : decode cX6_listMatches 49 = .ok (.iload 4, 2) := by decide +kernel
theorem dX6_listMatches_51 : decode cX6_listMatches 51 = .ok (.iload 5, 2) := by decide +kernel
theorem dX6_listMatches_53 : decode cX6_listMatches 53 = .ok (.invokevirtual 288, 3) := by decide +kernel
theorem dX6_listMatches_56 : decode cX6_listMatches 56 = .ok (.ifCond .eq 22, 3) := by decide +kernel
theorem dX6_listMatches_59 : decode cX6_listMatches 59 = .ok (.aload_n 0, 1) := by decide +kernel
theorem dX6_listMatches_60 : decode cX6_listMatches 60 = .ok (.getfield 53, 3) := by decide +kernel
theorem dX6_listMatches_63 : decode cX6_listMatches 63 = .ok (.iload_n 3, 1) := by decide +kernel
theorem dX6_listMatches_64 : decode cX6_listMatches 64 = .ok (.iload 4, 2) := by decide +kernel
theorem dX6_listMatches_66 : decode cX6_listMatches 66 = .ok (.iastore, 1) := by decide +kernel
theorem dX6_listMatches_67 : decode cX6_listMatches 67 = .ok (.aload_n 0, 1) := by decide +kernel
theorem dX6_listMatches_68 : decode cX6_listMatches 68 = .ok (.getfield 57, 3) := by decide +kernel
theorem dX6_listMatches_71 : decode cX6_listMatches 71 = .ok (.iload_n 3, 1) := by decide +kernel
theorem dX6_listMatches_72 : decode cX6_listMatches 72 = .ok (.iload 5, 2) := by decide +kernel
theorem dX6_listMatches_74 : decode cX6_listMatches 74 = .ok (.iastore, 1) := by decide +kernel
theorem dX6_listMatches_75 : decode cX6_listMatches 75 = .ok (.iinc 3 1, 3) := by decide +kernel
theorem dX6_listMatches_78 : decode cX6_listMatches 78 = .ok (.iinc 5 1, 3) := by decide +kernel
theorem dX6_listMatches_81 : decode cX6_listMatches 81 = .ok (.goto (-45), 3) := by decide +kernel
theorem dX6_listMatches_84 : decode cX6_listMatches 84 = .ok (.iinc 4 1, 3) := by decide +kernel
theorem dX6_listMatches_87 : decode cX6_listMatches 87 = .ok (.goto (-72), 3) := by decide +kernel
theorem dX6_listMatches_90 : decode cX6_listMatches 90 = .ok (.iload_n 3, 1) := by decide +kernel
theorem dX6_listMatches_91 : decode cX6_listMatches 91 = .ok (.ireturn, 1) := by decide +kernel
theorem dX6_isMatch_0 : decode cX6_isMatch 0 = .ok (.aload_n 0, 1) := by decide +kernel
theorem dX6_isMatch_1 : decode cX6_isMatch 1 = .ok (.getfield 10, 3) := by decide +kernel
theorem dX6_isMatch_4 : decode cX6_isMatch 4 = .ok (.iload_n 1, 1) := by decide +kernel
theorem dX6_isMatch_5 : decode cX6_isMatch 5 = .ok (.iload_n 2, 1) := by decide +kernel
theorem dX6_isMatch_6 : decode cX6_isMatch 6 = .ok (.iconst 0, 1) := by decide +kernel
theorem dX6_isMatch_7 : decode cX6_isMatch 7 = .ok (.invokevirtual 113, 3) := by decide +kernel
theorem dX6_isMatch_10 : decode cX6_isMatch 10 = .ok (.ifCond .eq 18, 3) := by decide +kernel
theorem dX6_isMatch_13 : decode cX6_isMatch 13 = .ok (.iload_n 1, 1) := by decide +kernel
theorem dX6_isMatch_14 : decode cX6_isMatch 14 = .ok (.iload_n 1, 1) := by decide +kernel
theorem dX6_isMatch_15 : decode cX6_isMatch 15 = .ok (.ineg, 1) := by decide +kernel
theorem dX6_isMatch_16 : decode cX6_isMatch 16 = .ok (.iand, 1) := by decide +kernel
theorem dX6_isMatch_17 : decode cX6_isMatch 17 = .ok (.iload_n 2, 1) := by decide +kernel
theorem dX6_isMatch_18 : decode cX6_isMatch 18 = .ok (.iload_n 2, 1) := by decide +kernel
theorem dX6_isMatch_19 : decode cX6_isMatch 19 = .ok (.ineg, 1) := by decide +kernel
theorem dX6_isMatch_20 : decode cX6_isMatch 20 = .ok (.iand, 1) := by decide +kernel
theorem dX6_isMatch_21 : decode cX6_isMatch 21 = .ok (.if_icmp .ge 7, 3) := by decide +kernel
theorem dX6_isMatch_24 : decode cX6_isMatch 24 = .ok (.iconst 1, 1) := by decide +kernel
theorem dX6_isMatch_25 : decode cX6_isMatch 25 = .ok (.goto 4, 3) := by decide +kernel
theorem dX6_isMatch_28 : decode cX6_isMatch 28 = .ok (.iconst 0, 1) := by decide +kernel
theorem dX6_isMatch_29 : decode cX6_isMatch 29 = .ok (.ireturn, 1) := by decide +kernel
theorem dX6_chooseNext_0 : decode cX6_chooseNext 0 = .ok (.aload_n 0, 1) := by decide +kernel
theorem dX6_chooseNext_1 : decode cX6_chooseNext 1 = .ok (.getfield 49, 3) := by decide +kernel
theorem dX6_chooseNext_4 : decode cX6_chooseNext 4 = .ok (.iconst (-1), 1) := by decide +kernel
theorem dX6_chooseNext_5 : decode cX6_chooseNext 5 = .ok (.putfield 228, 3) := by decide +kernel
theorem dX6_chooseNext_8 : decode cX6_chooseNext 8 = .ok (.aload_n 0, 1) := by decide +kernel
theorem dX6_chooseNext_9 : decode cX6_chooseNext 9 = .ok (.iload_n 1, 1) := by decide +kernel
theorem dX6_chooseNext_10 : decode cX6_chooseNext 10 = .ok (.invokevirtual 247, 3) := by decide +kernel
theorem dX6_chooseNext_13 : decode cX6_chooseNext 13 = .ok (.istore_n 2, 1) := by decide +kernel
theorem dX6_chooseNext_14 : decode cX6_chooseNext 14 = .ok (.iconst 0, 1) := by decide +kernel
theorem dX6_chooseNext_15 : decode cX6_chooseNext 15 = .ok (.istore_n 3, 1) := by decide +kernel
theorem dX6_chooseNext_16 : decode cX6_chooseNext 16 = .ok (.iload_n 3, 1) := by decide +kernel
theorem dX6_chooseNext_17 : decode cX6_chooseNext 17 = .ok (.iload_n 2, 1) := by decide +kernel
theorem dX6_chooseNext_18 : decode cX6_chooseNext 18 = .ok (.if_icmp .ge 193, 3) := by decide +kernel
theorem dX6_chooseNext_21 : decode cX6_chooseNext 21 = .ok (.aload_n 0, 1) := by decide +kernel
theorem dX6_chooseNext_22 : decode cX6_chooseNext 22 = .ok (.getfield 30, 3) := by decide +kernel
theorem dX6_chooseNext_25 : decode cX6_chooseNext 25 = .ok (.aload_n 0, 1) := by decide +kernel
theorem dX6_chooseNext_26 : decode cX6_chooseNext 26 = .ok (.getfield 26, 3) := by decide +kernel
theorem dX6_chooseNext_29 : decode cX6_chooseNext 29 = .ok (.invokevirtual 240, 3) := by decide +kernel
theorem dX6_chooseNext_32 : decode cX6_chooseNext 32 = .ok (.aload_n 0, 1) := by decide +kernel
theorem dX6_chooseNext_33 : decode cX6_chooseNext 33 = .ok (.getfield 30, 3) := by decide +kernel
theorem dX6_chooseNext_36 : decode cX6_chooseNext 36 = .ok (.aload_n 0, 1) := by decide +kernel
theorem dX6_chooseNext_37 : decode cX6_chooseNext 37 = .ok (.getfield 53, 3) := by decide +kernel
theorem dX6_chooseNext_40 : decode cX6_chooseNext 40 = .ok (.iload_n 3, 1) := by decide +kernel
theorem dX6_chooseNext_41 : decode cX6_chooseNext 41 = .ok (.iaload, 1) := by decide +kernel
theorem dX6_chooseNext_42 : decode cX6_chooseNext 42 = .ok (.aload_n 0, 1) := by decide +kernel
theorem dX6_chooseNext_43 : decode cX6_chooseNext 43 = .ok (.getfield 57, 3) := by decide +kernel
theorem dX6_chooseNext_46 : decode cX6_chooseNext 46 = .ok (.iload_n 3, 1) := by decide +kernel
theorem dX6_chooseNext_47 : decode cX6_chooseNext 47 = .ok (.iaload, 1) := by decide +kernel
theorem dX6_chooseNext_48 : decode cX6_chooseNext 48 = .ok (.iconst 0, 1) := by decide +kernel
theorem dX6_chooseNext_49 : decode cX6_chooseNext 49 = .ok (.iconst 0, 1) := by decide +kernel
theorem dX6_chooseNext_50 : decode cX6_chooseNext 50 = .ok (.invokevirtual 250, 3) := by decide +kernel
theorem dX6_chooseNext_53 : decode cX6_chooseNext 53 = .ok (.aload_n 0, 1) := by decide +kernel
theorem dX6_chooseNext_54 : decode cX6_chooseNext 54 = .ok (.getfield 30, 3) := by decide +kernel
theorem dX6_chooseNext_57 : decode cX6_chooseNext 57 = .ok (.iconst 1, 1) := by decide +kernel
theorem dX6_chooseNext_58 : decode cX6_chooseNext 58 = .ok (.invokevirtual 256, 3) := by decide +kernel
theorem dX6_chooseNext_61 : decode cX6_chooseNext 61 = .ok (.aload_n 0, 1) := by decide +kernel
theorem dX6_chooseNext_62 : decode cX6_chooseNext 62 = .ok (.getfield 30, 3) := by decide +kernel
theorem dX6_chooseNext_65 : decode cX6_chooseNext 65 = .ok (.invokevirtual 244, 3) := by decide +kernel
theorem dX6_chooseNext_68 : decode cX6_chooseNext 68 = .ok (.aload_n 0, 1) := by decide +kernel
theorem dX6_chooseNext_69 : decode cX6_chooseNext 69 = .ok (.getfield 30, 3) := by decide +kernel
theorem dX6_chooseNext_72 : decode cX6_chooseNext 72 = .ok (.aload_n 0, 1) := by decide +kernel
theorem dX6_chooseNext_73 : decode cX6_chooseNext 73 = .ok (.getfield 10, 3) := by decide +kernel
theorem dX6_chooseNext_76 : decode cX6_chooseNext 76 = .ok (.getfield 132, 3) := by decide +kernel
theorem dX6_chooseNext_79 : decode cX6_chooseNext 79 = .ok (.invokevirtual 135, 3) := by decide +kernel
theorem dX6_chooseNext_82 : decode cX6_chooseNext 82 = .ok (.istore 4, 2) := by decide +kernel
theorem dX6_chooseNext_84 : decode cX6_chooseNext 84 = .ok (.iload 4, 2) := by decide +kernel
theorem dX6_chooseNext_86 : decode cX6_chooseNext 86 = .ok (.aload_n 0, 1) := by decide +kernel
theorem dX6_chooseNext_87 : decode cX6_chooseNext 87 = .ok (.getfield 49, 3) := by decide +kernel
theorem dX6_chooseNext_90 : decode cX6_chooseNext 90 = .ok (.getfield 228, 3) := by decide +kernel
theorem dX6_chooseNext_93 : decode cX6_chooseNext 93 = .ok (.if_icmp .ge 6, 3) := by decide +kernel
theorem dX6_chooseNext_96 : decode cX6_chooseNext 96 = .ok (.goto 109, 3) := by decide +kernel
theorem dX6_chooseNext_99 : decode cX6_chooseNext 99 = .ok (.aload_n 0, 1) := by decide +kernel
theorem dX6_chooseNext_100 : decode cX6_chooseNext 100 = .ok (.getfield 40, 3) := by decide +kernel
theorem dX6_chooseNext_103 : decode cX6_chooseNext 103 = .ok (.aload_n 0, 1) := by decide +kernel
theorem dX6_chooseNext_104 : decode cX6_chooseNext 104 = .ok (.getfield 30, 3) := by decide +kernel
theorem dX6_chooseNext_107 : decode cX6_chooseNext 107 = .ok (.aload_n 0, 1) := by decide +kernel
theorem dX6_chooseNext_108 : decode cX6_chooseNext 108 = .ok (.getfield 10, 3) := by decide +kernel
theorem dX6_chooseNext_111 : decode cX6_chooseNext 111 = .ok (.getfield 132, 3) := by decide +kernel
theorem dX6_chooseNext_114 : decode cX6_chooseNext 114 = .ok (.invokevirtual 291, 3) := by decide +kernel
theorem dX6_chooseNext_117 : decode cX6_chooseNext 117 = .ok (.aload_n 0, 1) := by decide +kernel
theorem dX6_chooseNext_118 : decode cX6_chooseNext 118 = .ok (.getfield 30, 3) := by decide +kernel
theorem dX6_chooseNext_121 : decode cX6_chooseNext 121 = .ok (.getfield 180, 3) := by decide +kernel
theorem dX6_chooseNext_124 : decode cX6_chooseNext 124 = .ok (.invokevirtual 262, 3) := by decide +kernel
theorem dX6_chooseNext_127 : decode cX6_chooseNext 127 = .ok (.iload 4, 2) := by decide +kernel
theorem dX6_chooseNext_129 : decode cX6_chooseNext 129 = .ok (.aload_n 0, 1) := by decide +kernel
theorem dX6_chooseNext_130 : decode cX6_chooseNext 130 = .ok (.getfield 49, 3) := by decide +kernel
theorem dX6_chooseNext_133 : decode cX6_chooseNext 133 = .ok (.getfield 228, 3) := by decide +kernel
theorem dX6_chooseNext_136 : decode cX6_chooseNext 136 = .ok (.if_icmp .gt 20, 3) := by decide +kernel
theorem dX6_chooseNext_139 : decode cX6_chooseNext 139 = .ok (.aload_n 0, 1) := by decide +kernel
theorem dX6_chooseNext_140 : decode cX6_chooseNext 140 = .ok (.getfield 40, 3) := by decide +kernel
theorem dX6_chooseNext_143 : decode cX6_chooseNext 143 = .ok (.aload_n 0, 1) := by decide +kernel
theorem dX6_chooseNext_144 : decode cX6_chooseNext 144 = .ok (.getfield 49, 3) := by decide +kernel
theorem dX6_chooseNext_147 : decode cX6_chooseNext 147 = .ok (.getfield 231, 3) := by decide +kernel
theorem dX6_chooseNext_150 : decode cX6_chooseNext 150 = .ok (.invokevirtual 266, 3) := by decide +kernel
theorem dX6_chooseNext_153 : decode cX6_chooseNext 153 = .ok (.ifCond .eq 52, 3) := by decide +kernel
theorem dX6_chooseNext_156 : decode cX6_chooseNext 156 = .ok (.aload_n 0, 1) := by decide +kernel
theorem dX6_chooseNext_157 : decode cX6_chooseNext 157 = .ok (.getfield 49, 3) := by decide +kernel
theorem dX6_chooseNext_160 : decode cX6_chooseNext 160 = .ok (.aload_n 0, 1) := by decide +kernel
theorem dX6_chooseNext_161 : decode cX6_chooseNext 161 = .ok (.getfield 53, 3) := by decide +kernel
theorem dX6_chooseNext_164 : decode cX6_chooseNext 164 = .ok (.iload_n 3, 1) := by decide +kernel
theorem dX6_chooseNext_165 : decode cX6_chooseNext 165 = .ok (.iaload, 1) := by decide +kernel
theorem dX6_chooseNext_166 : decode cX6_chooseNext 166 = .ok (.putfield 222, 3) := by decide +kernel
theorem dX6_chooseNext_169 : decode cX6_chooseNext 169 = .ok (.aload_n 0, 1) := by decide +kernel
theorem dX6_chooseNext_170 : decode cX6_chooseNext 170 = .ok (.getfield 49, 3) := by decide +kernel
theorem dX6_chooseNext_173 : decode cX6_chooseNext 173 = .ok (.aload_n 0, 1) := by decide +kernel
theorem dX6_chooseNext_174 : decode cX6_chooseNext 174 = .ok (.getfield 57, 3) := by decide +kernel
theorem dX6_chooseNext_177 : decode cX6_chooseNext 177 = .ok (.iload_n 3, 1) := by decide +kernel
theorem dX6_chooseNext_178 : decode cX6_chooseNext 178 = .ok (.iaload, 1) := by decide +kernel
theorem dX6_chooseNext_179 : decode cX6_chooseNext 179 = .ok (.putfield 225, 3) := by decide +kernel
theorem dX6_chooseNext_182 : decode cX6_chooseNext 182 = .ok (.aload_n 0, 1) := by decide +kernel
theorem dX6_chooseNext_183 : decode cX6_chooseNext 183 = .ok (.getfield 49, 3) := by decide +kernel
theorem dX6_chooseNext_186 : decode cX6_chooseNext 186 = .ok (.iload 4, 2) := by decide +kernel
theorem dX6_chooseNext_188 : decode cX6_chooseNext 188 = .ok (.putfield 228, 3) := by decide +kernel
theorem dX6_chooseNext_191 : decode cX6_chooseNext 191 = .ok (.aload_n 0, 1) := by decide +kernel
theorem dX6_chooseNext_192 : decode cX6_chooseNext 192 = .ok (.getfield 49, 3) := by decide +kernel
theorem dX6_chooseNext_195 : decode cX6_chooseNext 195 = .ok (.getfield 231, 3) := by decide +kernel
theorem dX6_chooseNext_198 : decode cX6_chooseNext 198 = .ok (.aload_n 0, 1) := by decide +kernel
theorem dX6_chooseNext_199 : decode cX6_chooseNext 199 = .ok (.getfield 40, 3) := by decide +kernel
theorem dX6_chooseNext_202 : decode cX6_chooseNext 202 = .ok (.invokevirtual 270, 3) := by decide +kernel
theorem dX6_chooseNext_205 : decode cX6_chooseNext 205 = .ok (.iinc 3 1, 3) := by decide +kernel
theorem dX6_chooseNext_208 : decode cX6_chooseNext 208 = .ok (.goto (-192), 3) := by decide +kernel
theorem dX6_chooseNext_211 : decode cX6_chooseNext 211 = .ok (.iload_n 2, 1) := by decide +kernel
theorem dX6_chooseNext_212 : decode cX6_chooseNext 212 = .ok (.ifCond .le 7, 3) := by decide +kernel
theorem dX6_chooseNext_215 : decode cX6_chooseNext 215 = .ok (.iconst 1, 1) := by decide +kernel
theorem dX6_chooseNext_216 : decode cX6_chooseNext 216 = .ok (.goto 4, 3) := by decide +kernel
theorem dX6_chooseNext_219 : decode cX6_chooseNext 219 = .ok (.iconst 0, 1) := by decide +kernel
theorem dX6_chooseNext_220 : decode cX6_chooseNext 220 = .ok (.ireturn, 1) := by decide +kernel
theorem dX6_chooseEven_0 : decode cX6_chooseEven 0 = .ok (.iconst 0, 1) := by decide +kernel
theorem dX6_chooseEven_1 : decode cX6_chooseEven 1 = .ok (.istore_n 2, 1) := by decide +kernel
theorem dX6_chooseEven_2 : decode cX6_chooseEven 2 = .ok (.lconst 0, 1) := by decide +kernel
theorem dX6_chooseEven_3 : decode cX6_chooseEven 3 = .ok (.lstore_n 3, 1) := by decide +kernel
theorem dX6_chooseEven_4 : decode cX6_chooseEven 4 = .ok (.aload_n 0, 1) := by decide +kernel
theorem dX6_chooseEven_5 : decode cX6_chooseEven 5 = .ok (.iload_n 1, 1) := by decide +kernel
theorem dX6_chooseEven_6 : decode cX6_chooseEven 6 = .ok (.invokevirtual 247, 3) := by decide +kernel
theorem dX6_chooseEven_9 : decode cX6_chooseEven 9 = .ok (.istore 5, 2) := by decide +kernel
theorem dX6_chooseEven_11 : decode cX6_chooseEven 11 = .ok (.iconst 0, 1) := by decide +kernel
theorem dX6_chooseEven_12 : decode cX6_chooseEven 12 = .ok (.istore 6, 2) := by decide +kernel
theorem dX6_chooseEven_14 : decode cX6_chooseEven 14 = .ok (.iload 6, 2) := by decide +kernel
theorem dX6_chooseEven_16 : decode cX6_chooseEven 16 = .ok (.iload 5, 2) := by decide +kernel
theorem dX6_chooseEven_18 : decode cX6_chooseEven 18 = .ok (.if_icmp .ge 101, 3) := by decide +kernel
theorem dX6_chooseEven_21 : decode cX6_chooseEven 21 = .ok (.aload_n 0, 1) := by decide +kernel
theorem dX6_chooseEven_22 : decode cX6_chooseEven 22 = .ok (.getfield 26, 3) := by decide +kernel
theorem dX6_chooseEven_25 : decode cX6_chooseEven 25 = .ok (.aload_n 0, 1) := by decide +kernel
theorem dX6_chooseEven_26 : decode cX6_chooseEven 26 = .ok (.getfield 53, 3) := by decide +kernel
theorem dX6_chooseEven_29 : decode cX6_chooseEven 29 = .ok (.iload 6, 2) := by decide +kernel
theorem dX6_chooseEven_31 : decode cX6_chooseEven 31 = .ok (.iaload, 1) := by decide +kernel
theorem dX6_chooseEven_32 : decode cX6_chooseEven 32 = .ok (.aload_n 0, 1) := by decide +kernel
theorem dX6_chooseEven_33 : decode cX6_chooseEven 33 = .ok (.getfield 57, 3) := by decide +kernel
theorem dX6_chooseEven_36 : decode cX6_chooseEven 36 = .ok (.iload 6, 2) := by decide +kernel
theorem dX6_chooseEven_38 : decode cX6_chooseEven 38 = .ok (.iaload, 1) := by decide +kernel
theorem dX6_chooseEven_39 : decode cX6_chooseEven 39 = .ok (.iconst 0, 1) := by decide +kernel
theorem dX6_chooseEven_40 : decode cX6_chooseEven 40 = .ok (.iconst 0, 1) := by decide +kernel
theorem dX6_chooseEven_41 : decode cX6_chooseEven 41 = .ok (.invokevirtual 250, 3) := by decide +kernel
theorem dX6_chooseEven_44 : decode cX6_chooseEven 44 = .ok (.aload_n 0, 1) := by decide +kernel
theorem dX6_chooseEven_45 : decode cX6_chooseEven 45 = .ok (.getfield 26, 3) := by decide +kernel
theorem dX6_chooseEven_48 : decode cX6_chooseEven 48 = .ok (.invokevirtual 253, 3) := by decide +kernel
theorem dX6_chooseEven_51 : decode cX6_chooseEven 51 = .ok (.ifCond .ne 6, 3) := by decide +kernel
theorem dX6_chooseEven_54 : decode cX6_chooseEven 54 = .ok (.goto 59, 3) := by decide +kernel
theorem dX6_chooseEven_57 : decode cX6_chooseEven 57 = .ok (.aload_n 0, 1) := by decide +kernel
theorem dX6_chooseEven_58 : decode cX6_chooseEven 58 = .ok (.getfield 26, 3) := by decide +kernel
theorem dX6_chooseEven_61 : decode cX6_chooseEven 61 = .ok (.invokevirtual 282, 3) := by decide +kernel
theorem dX6_chooseEven_64 : decode cX6_chooseEven 64 = .ok (.invokestatic 294, 3) := by decide +kernel
theorem dX6_chooseEven_67 : decode cX6_chooseEven 67 = .ok (.lstore 7, 2) := by decide +kernel
theorem dX6_chooseEven_69 : decode cX6_chooseEven 69 = .ok (.iload_n 2, 1) := by decide +kernel
theorem dX6_chooseEven_70 : decode cX6_chooseEven 70 = .ok (.ifCond .eq 10, 3) := by decide +kernel
theorem dX6_chooseEven_73 : decode cX6_chooseEven 73 = .ok (.lload 7, 2) := by decide +kernel
theorem dX6_chooseEven_75 : decode cX6_chooseEven 75 = .ok (.lload_n 3, 1) := by decide +kernel
theorem dX6_chooseEven_76 : decode cX6_chooseEven 76 = .ok (.lcmp, 1) := by decide +kernel
theorem dX6_chooseEven_77 : decode cX6_chooseEven 77 = .ok (.ifCond .ge 36, 3) := by decide +kernel
theorem dX6_chooseEven_80 : decode cX6_chooseEven 80 = .ok (.iconst 1, 1) := by decide +kernel
theorem dX6_chooseEven_81 : decode cX6_chooseEven 81 = .ok (.istore_n 2, 1) := by decide +kernel
theorem dX6_chooseEven_82 : decode cX6_chooseEven 82 = .ok (.lload 7, 2) := by decide +kernel
theorem dX6_chooseEven_84 : decode cX6_chooseEven 84 = .ok (.lstore_n 3, 1) := by decide +kernel
theorem dX6_chooseEven_85 : decode cX6_chooseEven 85 = .ok (.aload_n 0, 1) := by decide +kernel
theorem dX6_chooseEven_86 : decode cX6_chooseEven 86 = .ok (.getfield 49, 3) := by decide +kernel
theorem dX6_chooseEven_89 : decode cX6_chooseEven 89 = .ok (.aload_n 0, 1) := by decide +kernel
theorem dX6_chooseEven_90 : decode cX6_chooseEven 90 = .ok (.getfield 53, 3) := by decide +kernel
theorem dX6_chooseEven_93 : decode cX6_chooseEven 93 = .ok (.iload 6, 2) := by decide +kernel
theorem dX6_chooseEven_95 : decode cX6_chooseEven 95 = .ok (.iaload, 1) := by decide +kernel
theorem dX6_chooseEven_96 : decode cX6_chooseEven 96 = .ok (.putfield 222, 3) := by decide +kernel
theorem dX6_chooseEven_99 : decode cX6_chooseEven 99 = .ok (.aload_n 0, 1) := by decide +kernel
theorem dX6_chooseEven_100 : decode cX6_chooseEven 100 = .ok (.getfield 49, 3) := by decide +kernel
theorem dX6_chooseEven_103 : decode cX6_chooseEven 103 = .ok (.aload_n 0, 1) := by decide +kernel
theorem dX6_chooseEven_104 : decode cX6_chooseEven 104 = .ok (.getfield 57, 3) := by decide +kernel
theorem dX6_chooseEven_107 : decode cX6_chooseEven 107 = .ok (.iload 6, 2) := by decide +kernel
theorem dX6_chooseEven_109 : decode cX6_chooseEven 109 = .ok (.iaload, 1) := by decide +kernel
theorem dX6_chooseEven_110 : decode cX6_chooseEven 110 = .ok (.putfield 225, 3) := by decide +kernel
theorem dX6_chooseEven_113 : decode cX6_chooseEven 113 = .ok (.iinc 6 1, 3) := by decide +kernel
theorem dX6_chooseEven_116 : decode cX6_chooseEven 116 = .ok (.goto (-102), 3) := by decide +kernel
theorem dX6_chooseEven_119 : decode cX6_chooseEven 119 = .ok (.iload_n 2, 1) := by decide +kernel
theorem dX6_chooseEven_120 : decode cX6_chooseEven 120 = .ok (.ireturn, 1) := by decide +kernel
