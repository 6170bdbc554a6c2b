theorem dX2_init_0 : decode cX2_init 0 = .ok (.aload_n 0, 1) := by decide +kernel
theorem dX2_init_1 : decode cX2_init 1 = .ok (.invokespecial 1, 3) := by decide +kernel
theorem dX2_init_4 : decode cX2_init 4 = .ok (.aload_n 0, 1) := by decide +kernel
theorem dX2_init_5 : decode cX2_init 5 = .ok (.lconst 0, 1) := by decide +kernel
theorem dX2_init_6 : decode cX2_init 6 = .ok (.putfield 7, 3) := by decide +kernel
theorem dX2_init_9 : decode cX2_init 9 = .ok (.aload_n 0, 1) := by decide +kernel
theorem dX2_init_10 : decode cX2_init 10 = .ok (.lconst 1, 1) := by decide +kernel
theorem dX2_init_11 : decode cX2_init 11 = .ok (.putfield 13, 3) := by decide +kernel
theorem dX2_init_14 : decode cX2_init 14 = .ok (.return_, 1) := by decide +kernel
theorem dX2_set_0 : decode cX2_set 0 = .ok (.lload_n 1, 1) := by decide +kernel
theorem dX2_set_1 : decode cX2_set 1 = .ok (.invokestatic 16, 3) := by decide +kernel
theorem dX2_set_4 : decode cX2_set 4 = .ok (.lload_n 3, 1) := by decide +kernel
theorem dX2_set_5 : decode cX2_set 5 = .ok (.invokestatic 22, 3) := by decide +kernel
theorem dX2_set_8 : decode cX2_set 8 = .ok (.lstore 5, 2) := by decide +kernel
theorem dX2_set_10 : decode cX2_set 10 = .ok (.lload_n 3, 1) := by decide +kernel
theorem dX2_set_11 : decode cX2_set 11 = .ok (.lconst 0, 1) := by decide +kernel
theorem dX2_set_12 : decode cX2_set 12 = .ok (.lcmp, 1) := by decide +kernel
theorem dX2_set_13 : decode cX2_set 13 = .ok (.ifCond .le 10, 3) := by decide +kernel
theorem dX2_set_16 : decode cX2_set 16 = .ok (.lload 5, 2) := by decide +kernel
theorem dX2_set_18 : decode cX2_set 18 = .ok (.lconst 0, 1) := by decide +kernel
theorem dX2_set_19 : decode cX2_set 19 = .ok (.lcmp, 1) := by decide +kernel
theorem dX2_set_20 : decode cX2_set 20 = .ok (.ifCond .gt 14, 3) := by decide +kernel
theorem dX2_set_23 : decode cX2_set 23 = .ok (.aload_n 0, 1) := by decide +kernel
theorem dX2_set_24 : decode cX2_set 24 = .ok (.lconst 0, 1) := by decide +kernel
theorem dX2_set_25 : decode cX2_set 25 = .ok (.putfield 7, 3) := by decide +kernel
theorem dX2_set_28 : decode cX2_set 28 = .ok (.aload_n 0, 1) := by decide +kernel
theorem dX2_set_29 : decode cX2_set 29 = .ok (.lconst 1, 1) := by decide +kernel
theorem dX2_set_30 : decode cX2_set 30 = .ok (.putfield 13, 3) := by decide +kernel
theorem dX2_set_33 : decode cX2_set 33 = .ok (.return_, 1) := by decide +kernel
theorem dX2_set_34 : decode cX2_set 34 = .ok (.aload_n 0, 1) := by decide +kernel
theorem dX2_set_35 : decode cX2_set 35 = .ok (.lload_n 1, 1) := by decide +kernel
theorem dX2_set_36 : decode cX2_set 36 = .ok (.lload 5, 2) := by decide +kernel
theorem dX2_set_38 : decode cX2_set 38 = .ok (.ldiv, 1) := by decide +kernel
theorem dX2_set_39 : decode cX2_set 39 = .ok (.putfield 7, 3) := by decide +kernel
theorem dX2_set_42 : decode cX2_set 42 = .ok (.aload_n 0, 1) := by decide +kernel
theorem dX2_set_43 : decode cX2_set 43 = .ok (.lload_n 3, 1) := by decide +kernel
theorem dX2_set_44 : decode cX2_set 44 = .ok (.lload 5, 2) := by decide +kernel
theorem dX2_set_46 : decode cX2_set 46 = .ok (.ldiv, 1) := by decide +kernel
theorem dX2_set_47 : decode cX2_set 47 = .ok (.putfield 13, 3) := by decide +kernel
theorem dX2_set_50 : decode cX2_set 50 = .ok (.return_, 1) := by decide +kernel
theorem dX2_copyFrom_0 : decode cX2_copyFrom 0 = .ok (.aload_n 0, 1) := by decide +kernel
theorem dX2_copyFrom_1 : decode cX2_copyFrom 1 = .ok (.aload_n 1, 1) := by decide +kernel
theorem dX2_copyFrom_2 : decode cX2_copyFrom 2 = .ok (.getfield 7, 3) := by decide +kernel
theorem dX2_copyFrom_5 : decode cX2_copyFrom 5 = .ok (.putfield 7, 3) := by decide +kernel
theorem dX2_copyFrom_8 : decode cX2_copyFrom 8 = .ok (.aload_n 0, 1) := by decide +kernel
theorem dX2_copyFrom_9 : decode cX2_copyFrom 9 = .ok (.aload_n 1, 1) := by decide +kernel
theorem dX2_copyFrom_10 : decode cX2_copyFrom 10 = .ok (.getfield 13, 3) := by decide +kernel
theorem dX2_copyFrom_13 : decode cX2_copyFrom 13 = .ok (.putfield 13, 3) := by decide +kernel
theorem dX2_copyFrom_16 : decode cX2_copyFrom 16 = .ok (.return_, 1) := by decide +kernel
theorem dX2_isBelow_0 : decode cX2_isBelow 0 = .ok (.aload_n 0, 1) := by decide +kernel
theorem dX2_isBelow_1 : decode cX2_isBelow 1 = .ok (.getfield 13, 3) := by decide +kernel
theorem dX2_isBelow_4 : decode cX2_isBelow 4 = .ok (.lconst 0, 1) := by decide +kernel
theorem dX2_isBelow_5 : decode cX2_isBelow 5 = .ok (.lcmp, 1) := by decide +kernel
theorem dX2_isBelow_6 : decode cX2_isBelow 6 = .ok (.ifCond .le 12, 3) := by decide +kernel
theorem dX2_isBelow_9 : decode cX2_isBelow 9 = .ok (.aload_n 1, 1) := by decide +kernel
theorem dX2_isBelow_10 : decode cX2_isBelow 10 = .ok (.getfield 13, 3) := by decide +kernel
theorem dX2_isBelow_13 : decode cX2_isBelow 13 = .ok (.lconst 0, 1) := by decide +kernel
theorem dX2_isBelow_14 : decode cX2_isBelow 14 = .ok (.lcmp, 1) := by decide +kernel
theorem dX2_isBelow_15 : decode cX2_isBelow 15 = .ok (.ifCond .gt 5, 3) := by decide +kernel
theorem dX2_isBelow_18 : decode cX2_isBelow 18 = .ok (.iconst 0, 1) := by decide +kernel
theorem dX2_isBelow_19 : decode cX2_isBelow 19 = .ok (.ireturn, 1) := by decide +kernel
theorem dX2_isBelow_20 : decode cX2_isBelow 20 = .ok (.aload_n 0, 1) := by decide +kernel
theorem dX2_isBelow_21 : decode cX2_isBelow 21 = .ok (.getfield 7, 3) := by decide +kernel
theorem dX2_isBelow_24 : decode cX2_isBelow 24 = .ok (.aload_n 0, 1) := by decide +kernel
theorem dX2_isBelow_25 : decode cX2_isBelow 25 = .ok (.getfield 13, 3) := by decide +kernel
theorem dX2_isBelow_28 : decode cX2_isBelow 28 = .ok (.ldiv, 1) := by decide +kernel
theorem dX2_isBelow_29 : decode cX2_isBelow 29 = .ok (.lstore_n 2, 1) := by decide +kernel
theorem dX2_isBelow_30 : decode cX2_isBelow 30 = .ok (.aload_n 1, 1) := by decide +kernel
theorem dX2_isBelow_31 : decode cX2_isBelow 31 = .ok (.getfield 7, 3) := by decide +kernel
theorem dX2_isBelow_34 : decode cX2_isBelow 34 = .ok (.aload_n 1, 1) := by decide +kernel
theorem dX2_isBelow_35 : decode cX2_isBelow 35 = .ok (.getfield 13, 3) := by decide +kernel
theorem dX2_isBelow_38 : decode cX2_isBelow 38 = .ok (.ldiv, 1) := by decide +kernel
theorem dX2_isBelow_39 : decode cX2_isBelow 39 = .ok (.lstore 4, 2) := by decide +kernel
theorem dX2_isBelow_41 : decode cX2_isBelow 41 = .ok (.lload_n 2, 1) := by decide +kernel
theorem dX2_isBelow_42 : decode cX2_isBelow 42 = .ok (.lload 4, 2) := by decide +kernel
theorem dX2_isBelow_44 : decode cX2_isBelow 44 = .ok (.lcmp, 1) := by decide +kernel
theorem dX2_isBelow_45 : decode cX2_isBelow 45 = .ok (.ifCond .eq 16, 3) := by decide +kernel
theorem dX2_isBelow_48 : decode cX2_isBelow 48 = .ok (.lload_n 2, 1) := by decide +kernel
theorem dX2_isBelow_49 : decode cX2_isBelow 49 = .ok (.lload 4, 2) := by decide +kernel
theorem dX2_isBelow_51 : decode cX2_isBelow 51 = .ok (.lcmp, 1) := by decide +kernel
theorem dX2_isBelow_52 : decode cX2_isBelow 52 = .ok (.ifCond .ge 7, 3) := by decide +kernel
theorem dX2_isBelow_55 : decode cX2_isBelow 55 = .ok (.iconst 1, 1) := by decide +kernel
theorem dX2_isBelow_56 : decode cX2_isBelow 56 = .ok (.goto 4, 3) := by decide +kernel
theorem dX2_isBelow_59 : decode cX2_isBelow 59 = .ok (.iconst 0, 1) := by decide +kernel
theorem dX2_isBelow_60 : decode cX2_isBelow 60 = .ok (.ireturn, 1) := by decide +kernel
theorem dX2_isBelow_61 : decode cX2_isBelow 61 = .ok (.aload_n 0, 1) := by decide +kernel
theorem dX2_isBelow_62 : decode cX2_isBelow 62 = .ok (.getfield 7, 3) := by decide +kernel
theorem dX2_isBelow_65 : decode cX2_isBelow 65 = .ok (.lload_n 2, 1) := by decide +kernel
theorem dX2_isBelow_66 : decode cX2_isBelow 66 = .ok (.aload_n 0, 1) := by decide +kernel
theorem dX2_isBelow_67 : decode cX2_isBelow 67 = .ok (.getfield 13, 3) := by decide +kernel
theorem dX2_isBelow_70 : decode cX2_isBelow 70 = .ok (.lmul, 1) := by decide +kernel
theorem dX2_isBelow_71 : decode cX2_isBelow 71 = .ok (.lsub, 1) := by decide +kernel
theorem dX2_isBelow_72 : decode cX2_isBelow 72 = .ok (.lstore 6, 2) := by decide +kernel
theorem dX2_isBelow_74 : decode cX2_isBelow 74 = .ok (.aload_n 1, 1) := by decide +kernel
theorem dX2_isBelow_75 : decode cX2_isBelow 75 = .ok (.getfield 7, 3) := by decide +kernel
theorem dX2_isBelow_78 : decode cX2_isBelow 78 = .ok (.lload 4, 2) := by decide +kernel
theorem dX2_isBelow_80 : decode cX2_isBelow 80 = .ok (.aload_n 1, 1) := by decide +kernel
theorem dX2_isBelow_81 : decode cX2_isBelow 81 = .ok (.getfield 13, 3) := by decide +kernel
theorem dX2_isBelow_84 : decode cX2_isBelow 84 = .ok (.lmul, 1) := by decide +kernel
theorem dX2_isBelow_85 : decode cX2_isBelow 85 = .ok (.lsub, 1) := by decide +kernel
theorem dX2_isBelow_86 : decode cX2_isBelow 86 = .ok (.lstore 8, 2) := by decide +kernel
theorem dX2_isBelow_88 : decode cX2_isBelow 88 = .ok (.lload 6, 2) := by decide +kernel
theorem dX2_isBelow_90 : decode cX2_isBelow 90 = .ok (.aload_n 1, 1) := by decide +kernel
theorem dX2_isBelow_91 : decode cX2_isBelow 91 = .ok (.getfield 13, 3) := by decide +kernel
theorem dX2_isBelow_94 : decode cX2_isBelow 94 = .ok (.lmul, 1) := by decide +kernel
theorem dX2_isBelow_95 : decode cX2_isBelow 95 = .ok (.lload 8, 2) := by decide +kernel
theorem dX2_isBelow_97 : decode cX2_isBelow 97 = .ok (.aload_n 0, 1) := by decide +kernel
theorem dX2_isBelow_98 : decode cX2_isBelow 98 = .ok (.getfield 13, 3) := by decide +kernel
theorem dX2_isBelow_101 : decode cX2_isBelow 101 = .ok (.lmul, 1) := by decide +kernel
theorem dX2_isBelow_102 : decode cX2_isBelow 102 = .ok (.lcmp, 1) := by decide +kernel
theorem dX2_isBelow_103 : decode cX2_isBelow 103 = .ok (.ifCond .ge 7, 3) := by decide +kernel
theorem dX2_isBelow_106 : decode cX2_isBelow 106 = .ok (.iconst 1, 1) := by decide +kernel
theorem dX2_isBelow_107 : decode cX2_isBelow 107 = .ok (.goto 4, 3) := by decide +kernel
theorem dX2_isBelow_110 : decode cX2_isBelow 110 = .ok (.iconst 0, 1) := by decide +kernel
theorem dX2_isBelow_111 : decode cX2_isBelow 111 = .ok (.ireturn, 1) := by decide +kernel
theorem dX2_commonDivisor_0 : decode cX2_commonDivisor 0 = .ok (.lload_n 0, 1) := by decide +kernel
theorem dX2_commonDivisor_1 : decode cX2_commonDivisor 1 = .ok (.lstore 4, 2) := by decide +kernel
theorem dX2_commonDivisor_3 : decode cX2_commonDivisor 3 = .ok (.lload_n 2, 1) := by decide +kernel
theorem dX2_commonDivisor_4 : decode cX2_commonDivisor 4 = .ok (.lstore 6, 2) := by decide +kernel
theorem dX2_commonDivisor_6 : decode cX2_commonDivisor 6 = .ok (.iconst 0, 1) := by decide +kernel
theorem dX2_commonDivisor_7 : decode cX2_commonDivisor 7 = .ok (.istore 8, 2) := by decide +kernel
theorem dX2_commonDivisor_9 : decode cX2_commonDivisor 9 = .ok (.iload 8, 2) := by decide +kernel
theorem dX2_commonDivisor_11 : decode cX2_commonDivisor 11 = .ok (.bipush 100, 2) := by decide +kernel
theorem dX2_commonDivisor_13 : decode cX2_commonDivisor 13 = .ok (.if_icmp .ge 31, 3) := by decide +kernel
theorem dX2_commonDivisor_16 : decode cX2_commonDivisor 16 = .ok (.lload 6, 2) := by decide +kernel
theorem dX2_commonDivisor_18 : decode cX2_commonDivisor 18 = .ok (.lconst 0, 1) := by decide +kernel
theorem dX2_commonDivisor_19 : decode cX2_commonDivisor 19 = .ok (.lcmp, 1) := by decide +kernel
theorem dX2_commonDivisor_20 : decode cX2_commonDivisor 20 = .ok (.ifCond .eq 24, 3) := by decide +kernel
theorem dX2_commonDivisor_23 : decode cX2_commonDivisor 23 = .ok (.lload 4, 2) := by decide +kernel
theorem dX2_commonDivisor_25 : decode cX2_commonDivisor 25 = .ok (.lload 6, 2) := by decide +kernel
theorem dX2_commonDivisor_27 : decode cX2_commonDivisor 27 = .ok (.lrem, 1) := by decide +kernel
theorem dX2_commonDivisor_28 : decode cX2_commonDivisor 28 = .ok (.lstore 9, 2) := by decide +kernel
theorem dX2_commonDivisor_30 : decode cX2_commonDivisor 30 = .ok (.lload 6, 2) := by decide +kernel
theorem dX2_commonDivisor_32 : decode cX2_commonDivisor 32 = .ok (.lstore 4, 2) := by decide +kernel
theorem dX2_commonDivisor_34 : decode cX2_commonDivisor 34 = .ok (.lload 9, 2) := by decide +kernel
theorem dX2_commonDivisor_36 : decode cX2_commonDivisor 36 = .ok (.lstore 6, 2) := by decide +kernel
theorem dX2_commonDivisor_38 : decode cX2_commonDivisor 38 = .ok (.iinc 8 1, 3) := by decide +kernel
theorem dX2_commonDivisor_41 : decode cX2_commonDivisor 41 = .ok (.goto (-32), 3) := by decide +kernel
theorem dX2_commonDivisor_44 : decode cX2_commonDivisor 44 = .ok (.lload 4, 2) := by decide +kernel
theorem dX2_commonDivisor_46 : decode cX2_commonDivisor 46 = .ok (.lreturn, 1) := by decide +kernel
