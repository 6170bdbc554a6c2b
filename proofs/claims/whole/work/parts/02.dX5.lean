theorem dX5_init_0 : decode cX5_init 0 = .ok (.aload_n 0, 1) := by decide +kernel
theorem dX5_init_1 : decode cX5_init 1 = .ok (.invokespecial 3, 3) := by decide +kernel
theorem dX5_init_4 : decode cX5_init 4 = .ok (.aload_n 0, 1) := by decide +kernel
theorem dX5_init_5 : decode cX5_init 5 = .ok (.iconst 0, 1) := by decide +kernel
theorem dX5_init_6 : decode cX5_init 6 = .ok (.putfield 9, 3) := by decide +kernel
theorem dX5_init_9 : decode cX5_init 9 = .ok (.aload_n 0, 1) := by decide +kernel
theorem dX5_init_10 : decode cX5_init 10 = .ok (.iconst 0, 1) := by decide +kernel
theorem dX5_init_11 : decode cX5_init 11 = .ok (.putfield 15, 3) := by decide +kernel
theorem dX5_init_14 : decode cX5_init 14 = .ok (.aload_n 0, 1) := by decide +kernel
theorem dX5_init_15 : decode cX5_init 15 = .ok (.new 18, 3) := by decide +kernel
theorem dX5_init_18 : decode cX5_init 18 = .ok (.dup, 1) := by decide +kernel
theorem dX5_init_19 : decode cX5_init 19 = .ok (.invokespecial 20, 3) := by decide +kernel
theorem dX5_init_22 : decode cX5_init 22 = .ok (.putfield 21, 3) := by decide +kernel
theorem dX5_init_25 : decode cX5_init 25 = .ok (.aload_n 0, 1) := by decide +kernel
theorem dX5_init_26 : decode cX5_init 26 = .ok (.new 25, 3) := by decide +kernel
theorem dX5_init_29 : decode cX5_init 29 = .ok (.dup, 1) := by decide +kernel
theorem dX5_init_30 : decode cX5_init 30 = .ok (.invokespecial 27, 3) := by decide +kernel
theorem dX5_init_33 : decode cX5_init 33 = .ok (.putfield 28, 3) := by decide +kernel
theorem dX5_init_36 : decode cX5_init 36 = .ok (.aload_n 0, 1) := by decide +kernel
theorem dX5_init_37 : decode cX5_init 37 = .ok (.iconst 0, 1) := by decide +kernel
theorem dX5_init_38 : decode cX5_init 38 = .ok (.putfield 32, 3) := by decide +kernel
theorem dX5_init_41 : decode cX5_init 41 = .ok (.aload_n 0, 1) := by decide +kernel
theorem dX5_init_42 : decode cX5_init 42 = .ok (.iconst 0, 1) := by decide +kernel
theorem dX5_init_43 : decode cX5_init 43 = .ok (.putfield 35, 3) := by decide +kernel
theorem dX5_init_46 : decode cX5_init 46 = .ok (.return_, 1) := by decide +kernel
theorem dX5_readAll_0 : decode cX5_readAll 0 = .ok (.aload_n 0, 1) := by decide +kernel
theorem dX5_readAll_1 : decode cX5_readAll 1 = .ok (.iconst 0, 1) := by decide +kernel
theorem dX5_readAll_2 : decode cX5_readAll 2 = .ok (.putfield 15, 3) := by decide +kernel
theorem dX5_readAll_5 : decode cX5_readAll 5 = .ok (.aload_n 0, 1) := by decide +kernel
theorem dX5_readAll_6 : decode cX5_readAll 6 = .ok (.iconst 0, 1) := by decide +kernel
theorem dX5_readAll_7 : decode cX5_readAll 7 = .ok (.putfield 9, 3) := by decide +kernel
theorem dX5_readAll_10 : decode cX5_readAll 10 = .ok (.aload_n 0, 1) := by decide +kernel
theorem dX5_readAll_11 : decode cX5_readAll 11 = .ok (.getfield 21, 3) := by decide +kernel
theorem dX5_readAll_14 : decode cX5_readAll 14 = .ok (.invokevirtual 38, 3) := by decide +kernel
theorem dX5_readAll_17 : decode cX5_readAll 17 = .ok (.aload_n 0, 1) := by decide +kernel
theorem dX5_readAll_18 : decode cX5_readAll 18 = .ok (.getfield 21, 3) := by decide +kernel
theorem dX5_readAll_21 : decode cX5_readAll 21 = .ok (.invokevirtual 41, 3) := by decide +kernel
theorem dX5_readAll_24 : decode cX5_readAll 24 = .ok (.aload_n 0, 1) := by decide +kernel
theorem dX5_readAll_25 : decode cX5_readAll 25 = .ok (.getfield 21, 3) := by decide +kernel
theorem dX5_readAll_28 : decode cX5_readAll 28 = .ok (.getfield 44, 3) := by decide +kernel
theorem dX5_readAll_31 : decode cX5_readAll 31 = .ok (.ifCond .eq 118, 3) := by decide +kernel
theorem dX5_readAll_34 : decode cX5_readAll 34 = .ok (.aload_n 0, 1) := by decide +kernel
theorem dX5_readAll_35 : decode cX5_readAll 35 = .ok (.getfield 9, 3) := by decide +kernel
theorem dX5_readAll_38 : decode cX5_readAll 38 = .ok (.sipush 300, 3) := by decide +kernel
theorem dX5_readAll_41 : decode cX5_readAll 41 = .ok (.if_icmp .ge 108, 3) := by decide +kernel
theorem dX5_readAll_44 : decode cX5_readAll 44 = .ok (.aload_n 0, 1) := by decide +kernel
theorem dX5_readAll_45 : decode cX5_readAll 45 = .ok (.getfield 21, 3) := by decide +kernel
theorem dX5_readAll_48 : decode cX5_readAll 48 = .ok (.getfield 44, 3) := by decide +kernel
theorem dX5_readAll_51 : decode cX5_readAll 51 = .ok (.tableswitch 49 4 6 #[25, 33, 41], 25) := by decide +kernel
theorem dX5_readAll_76 : decode cX5_readAll 76 = .ok (.aload_n 0, 1) := by decide +kernel
theorem dX5_readAll_77 : decode cX5_readAll 77 = .ok (.invokevirtual 47, 3) := by decide +kernel
theorem dX5_readAll_80 : decode cX5_readAll 80 = .ok (.istore_n 1, 1) := by decide +kernel
theorem dX5_readAll_81 : decode cX5_readAll 81 = .ok (.goto 25, 3) := by decide +kernel
theorem dX5_readAll_84 : decode cX5_readAll 84 = .ok (.aload_n 0, 1) := by decide +kernel
theorem dX5_readAll_85 : decode cX5_readAll 85 = .ok (.invokevirtual 51, 3) := by decide +kernel
theorem dX5_readAll_88 : decode cX5_readAll 88 = .ok (.istore_n 1, 1) := by decide +kernel
theorem dX5_readAll_89 : decode cX5_readAll 89 = .ok (.goto 17, 3) := by decide +kernel
theorem dX5_readAll_92 : decode cX5_readAll 92 = .ok (.aload_n 0, 1) := by decide +kernel
theorem dX5_readAll_93 : decode cX5_readAll 93 = .ok (.invokevirtual 54, 3) := by decide +kernel
theorem dX5_readAll_96 : decode cX5_readAll 96 = .ok (.istore_n 1, 1) := by decide +kernel
theorem dX5_readAll_97 : decode cX5_readAll 97 = .ok (.goto 9, 3) := by decide +kernel
theorem dX5_readAll_100 : decode cX5_readAll 100 = .ok (.aload_n 0, 1) := by decide +kernel
theorem dX5_readAll_101 : decode cX5_readAll 101 = .ok (.iconst 1, 1) := by decide +kernel
theorem dX5_readAll_102 : decode cX5_readAll 102 = .ok (.invokevirtual 57, 3) := by decide +kernel
theorem dX5_readAll_105 : decode cX5_readAll 105 = .ok (.istore_n 1, 1) := by decide +kernel
theorem dX5_readAll_106 : decode cX5_readAll 106 = .ok (.iload_n 1, 1) := by decide +kernel
theorem dX5_readAll_107 : decode cX5_readAll 107 = .ok (.ifCond .ne 5, 3) := by decide +kernel
theorem dX5_readAll_110 : decode cX5_readAll 110 = .ok (.iconst 0, 1) := by decide +kernel
theorem dX5_readAll_111 : decode cX5_readAll 111 = .ok (.ireturn, 1) := by decide +kernel
theorem dX5_readAll_112 : decode cX5_readAll 112 = .ok (.aload_n 0, 1) := by decide +kernel
theorem dX5_readAll_113 : decode cX5_readAll 113 = .ok (.getfield 21, 3) := by decide +kernel
theorem dX5_readAll_116 : decode cX5_readAll 116 = .ok (.getfield 44, 3) := by decide +kernel
theorem dX5_readAll_119 : decode cX5_readAll 119 = .ok (.iconst 2, 1) := by decide +kernel
theorem dX5_readAll_120 : decode cX5_readAll 120 = .ok (.if_icmp .eq 9, 3) := by decide +kernel
theorem dX5_readAll_123 : decode cX5_readAll 123 = .ok (.aload_n 0, 1) := by decide +kernel
theorem dX5_readAll_124 : decode cX5_readAll 124 = .ok (.iconst 1, 1) := by decide +kernel
theorem dX5_readAll_125 : decode cX5_readAll 125 = .ok (.invokevirtual 57, 3) := by decide +kernel
theorem dX5_readAll_128 : decode cX5_readAll 128 = .ok (.ireturn, 1) := by decide +kernel
theorem dX5_readAll_129 : decode cX5_readAll 129 = .ok (.aload_n 0, 1) := by decide +kernel
theorem dX5_readAll_130 : decode cX5_readAll 130 = .ok (.getfield 21, 3) := by decide +kernel
theorem dX5_readAll_133 : decode cX5_readAll 133 = .ok (.invokevirtual 41, 3) := by decide +kernel
theorem dX5_readAll_136 : decode cX5_readAll 136 = .ok (.aload_n 0, 1) := by decide +kernel
theorem dX5_readAll_137 : decode cX5_readAll 137 = .ok (.dup, 1) := by decide +kernel
theorem dX5_readAll_138 : decode cX5_readAll 138 = .ok (.getfield 9, 3) := by decide +kernel
theorem dX5_readAll_141 : decode cX5_readAll 141 = .ok (.iconst 1, 1) := by decide +kernel
theorem dX5_readAll_142 : decode cX5_readAll 142 = .ok (.iadd, 1) := by decide +kernel
theorem dX5_readAll_143 : decode cX5_readAll 143 = .ok (.putfield 9, 3) := by decide +kernel
theorem dX5_readAll_146 : decode cX5_readAll 146 = .ok (.goto (-122), 3) := by decide +kernel
theorem dX5_readAll_149 : decode cX5_readAll 149 = .ok (.iconst 1, 1) := by decide +kernel
theorem dX5_readAll_150 : decode cX5_readAll 150 = .ok (.ireturn, 1) := by decide +kernel
theorem dX5_refuse_0 : decode cX5_refuse 0 = .ok (.aload_n 0, 1) := by decide +kernel
theorem dX5_refuse_1 : decode cX5_refuse 1 = .ok (.iload_n 1, 1) := by decide +kernel
theorem dX5_refuse_2 : decode cX5_refuse 2 = .ok (.bipush 8, 2) := by decide +kernel
theorem dX5_refuse_4 : decode cX5_refuse 4 = .ok (.aload_n 0, 1) := by decide +kernel
theorem dX5_refuse_5 : decode cX5_refuse 5 = .ok (.getfield 21, 3) := by decide +kernel
theorem dX5_refuse_8 : decode cX5_refuse 8 = .ok (.getfield 61, 3) := by decide +kernel
theorem dX5_refuse_11 : decode cX5_refuse 11 = .ok (.imul, 1) := by decide +kernel
theorem dX5_refuse_12 : decode cX5_refuse 12 = .ok (.iadd, 1) := by decide +kernel
theorem dX5_refuse_13 : decode cX5_refuse 13 = .ok (.putfield 15, 3) := by decide +kernel
theorem dX5_refuse_16 : decode cX5_refuse 16 = .ok (.iconst 0, 1) := by decide +kernel
theorem dX5_refuse_17 : decode cX5_refuse 17 = .ok (.ireturn, 1) := by decide +kernel
theorem dX5_readRowers_0 : decode cX5_readRowers 0 = .ok (.aload_n 0, 1) := by decide +kernel
theorem dX5_readRowers_1 : decode cX5_readRowers 1 = .ok (.getfield 21, 3) := by decide +kernel
theorem dX5_readRowers_4 : decode cX5_readRowers 4 = .ok (.invokevirtual 41, 3) := by decide +kernel
theorem dX5_readRowers_7 : decode cX5_readRowers 7 = .ok (.aload_n 0, 1) := by decide +kernel
theorem dX5_readRowers_8 : decode cX5_readRowers 8 = .ok (.getfield 21, 3) := by decide +kernel
theorem dX5_readRowers_11 : decode cX5_readRowers 11 = .ok (.getfield 44, 3) := by decide +kernel
theorem dX5_readRowers_14 : decode cX5_readRowers 14 = .ok (.iconst 1, 1) := by decide +kernel
theorem dX5_readRowers_15 : decode cX5_readRowers 15 = .ok (.if_icmp .eq 9, 3) := by decide +kernel
theorem dX5_readRowers_18 : decode cX5_readRowers 18 = .ok (.aload_n 0, 1) := by decide +kernel
theorem dX5_readRowers_19 : decode cX5_readRowers 19 = .ok (.iconst 1, 1) := by decide +kernel
theorem dX5_readRowers_20 : decode cX5_readRowers 20 = .ok (.invokevirtual 57, 3) := by decide +kernel
theorem dX5_readRowers_23 : decode cX5_readRowers 23 = .ok (.ireturn, 1) := by decide +kernel
theorem dX5_readRowers_24 : decode cX5_readRowers 24 = .ok (.aload_n 0, 1) := by decide +kernel
theorem dX5_readRowers_25 : decode cX5_readRowers 25 = .ok (.getfield 21, 3) := by decide +kernel
theorem dX5_readRowers_28 : decode cX5_readRowers 28 = .ok (.getfield 64, 3) := by decide +kernel
theorem dX5_readRowers_31 : decode cX5_readRowers 31 = .ok (.invokestatic 67, 3) := by decide +kernel
theorem dX5_readRowers_34 : decode cX5_readRowers 34 = .ok (.ifCond .ne 9, 3) := by decide +kernel
theorem dX5_readRowers_37 : decode cX5_readRowers 37 = .ok (.aload_n 0, 1) := by decide +kernel
theorem dX5_readRowers_38 : decode cX5_readRowers 38 = .ok (.iconst 2, 1) := by decide +kernel
theorem dX5_readRowers_39 : decode cX5_readRowers 39 = .ok (.invokevirtual 57, 3) := by decide +kernel
theorem dX5_readRowers_42 : decode cX5_readRowers 42 = .ok (.ireturn, 1) := by decide +kernel
theorem dX5_readRowers_43 : decode cX5_readRowers 43 = .ok (.aload_n 0, 1) := by decide +kernel
theorem dX5_readRowers_44 : decode cX5_readRowers 44 = .ok (.getfield 28, 3) := by decide +kernel
theorem dX5_readRowers_47 : decode cX5_readRowers 47 = .ok (.aload_n 0, 1) := by decide +kernel
theorem dX5_readRowers_48 : decode cX5_readRowers 48 = .ok (.getfield 21, 3) := by decide +kernel
theorem dX5_readRowers_51 : decode cX5_readRowers 51 = .ok (.getfield 64, 3) := by decide +kernel
theorem dX5_readRowers_54 : decode cX5_readRowers 54 = .ok (.invokevirtual 70, 3) := by decide +kernel
theorem dX5_readRowers_57 : decode cX5_readRowers 57 = .ok (.aload_n 0, 1) := by decide +kernel
theorem dX5_readRowers_58 : decode cX5_readRowers 58 = .ok (.getfield 21, 3) := by decide +kernel
theorem dX5_readRowers_61 : decode cX5_readRowers 61 = .ok (.invokevirtual 41, 3) := by decide +kernel
theorem dX5_readRowers_64 : decode cX5_readRowers 64 = .ok (.iconst 1, 1) := by decide +kernel
theorem dX5_readRowers_65 : decode cX5_readRowers 65 = .ok (.ireturn, 1) := by decide +kernel
theorem dX5_readBound_0 : decode cX5_readBound 0 = .ok (.aload_n 0, 1) := by decide +kernel
theorem dX5_readBound_1 : decode cX5_readBound 1 = .ok (.getfield 21, 3) := by decide +kernel
theorem dX5_readBound_4 : decode cX5_readBound 4 = .ok (.invokevirtual 41, 3) := by decide +kernel
theorem dX5_readBound_7 : decode cX5_readBound 7 = .ok (.aload_n 0, 1) := by decide +kernel
theorem dX5_readBound_8 : decode cX5_readBound 8 = .ok (.getfield 21, 3) := by decide +kernel
theorem dX5_readBound_11 : decode cX5_readBound 11 = .ok (.getfield 44, 3) := by decide +kernel
theorem dX5_readBound_14 : decode cX5_readBound 14 = .ok (.iconst 1, 1) := by decide +kernel
theorem dX5_readBound_15 : decode cX5_readBound 15 = .ok (.if_icmp .eq 9, 3) := by decide +kernel
theorem dX5_readBound_18 : decode cX5_readBound 18 = .ok (.aload_n 0, 1) := by decide +kernel
theorem dX5_readBound_19 : decode cX5_readBound 19 = .ok (.iconst 1, 1) := by decide +kernel
theorem dX5_readBound_20 : decode cX5_readBound 20 = .ok (.invokevirtual 57, 3) := by decide +kernel
theorem dX5_readBound_23 : decode cX5_readBound 23 = .ok (.ireturn, 1) := by decide +kernel
theorem dX5_readBound_24 : decode cX5_readBound 24 = .ok (.aload_n 0, 1) := by decide +kernel
theorem dX5_readBound_25 : decode cX5_readBound 25 = .ok (.getfield 21, 3) := by decide +kernel
theorem dX5_readBound_28 : decode cX5_readBound 28 = .ok (.getfield 64, 3) := by decide +kernel
theorem dX5_readBound_31 : decode cX5_readBound 31 = .ok (.invokestatic 74, 3) := by decide +kernel
theorem dX5_readBound_34 : decode cX5_readBound 34 = .ok (.ifCond .ne 9, 3) := by decide +kernel
theorem dX5_readBound_37 : decode cX5_readBound 37 = .ok (.aload_n 0, 1) := by decide +kernel
theorem dX5_readBound_38 : decode cX5_readBound 38 = .ok (.iconst 2, 1) := by decide +kernel
theorem dX5_readBound_39 : decode cX5_readBound 39 = .ok (.invokevirtual 57, 3) := by decide +kernel
theorem dX5_readBound_42 : decode cX5_readBound 42 = .ok (.ireturn, 1) := by decide +kernel
theorem dX5_readBound_43 : decode cX5_readBound 43 = .ok (.aload_n 0, 1) := by decide +kernel
theorem dX5_readBound_44 : decode cX5_readBound 44 = .ok (.getfield 28, 3) := by decide +kernel
theorem dX5_readBound_47 : decode cX5_readBound 47 = .ok (.aload_n 0, 1) := by decide +kernel
theorem dX5_readBound_48 : decode cX5_readBound 48 = .ok (.getfield 21, 3) := by decide +kernel
theorem dX5_readBound_51 : decode cX5_readBound 51 = .ok (.getfield 64, 3) := by decide +kernel
theorem dX5_readBound_54 : decode cX5_readBound 54 = .ok (.putfield 77, 3) := by decide +kernel
theorem dX5_readBound_57 : decode cX5_readBound 57 = .ok (.aload_n 0, 1) := by decide +kernel
theorem dX5_readBound_58 : decode cX5_readBound 58 = .ok (.getfield 21, 3) := by decide +kernel
theorem dX5_readBound_61 : decode cX5_readBound 61 = .ok (.invokevirtual 41, 3) := by decide +kernel
theorem dX5_readBound_64 : decode cX5_readBound 64 = .ok (.iconst 1, 1) := by decide +kernel
theorem dX5_readBound_65 : decode cX5_readBound 65 = .ok (.ireturn, 1) := by decide +kernel
theorem dX5_readRace_0 : decode cX5_readRace 0 = .ok (.aload_n 0, 1) := by decide +kernel
theorem dX5_readRace_1 : decode cX5_readRace 1 = .ok (.getfield 28, 3) := by decide +kernel
theorem dX5_readRace_4 : decode cX5_readRace 4 = .ok (.invokevirtual 80, 3) := by decide +kernel
theorem dX5_readRace_7 : decode cX5_readRace 7 = .ok (.ifCond .eq 9, 3) := by decide +kernel
theorem dX5_readRace_10 : decode cX5_readRace 10 = .ok (.aload_n 0, 1) := by decide +kernel
theorem dX5_readRace_11 : decode cX5_readRace 11 = .ok (.iconst 4, 1) := by decide +kernel
theorem dX5_readRace_12 : decode cX5_readRace 12 = .ok (.invokevirtual 57, 3) := by decide +kernel
theorem dX5_readRace_15 : decode cX5_readRace 15 = .ok (.ireturn, 1) := by decide +kernel
theorem dX5_readRace_16 : decode cX5_readRace 16 = .ok (.aload_n 0, 1) := by decide +kernel
theorem dX5_readRace_17 : decode cX5_readRace 17 = .ok (.getfield 21, 3) := by decide +kernel
theorem dX5_readRace_20 : decode cX5_readRace 20 = .ok (.invokevirtual 41, 3) := by decide +kernel
theorem dX5_readRace_23 : decode cX5_readRace 23 = .ok (.aload_n 0, 1) := by decide +kernel
theorem dX5_readRace_24 : decode cX5_readRace 24 = .ok (.iconst 0, 1) := by decide +kernel
theorem dX5_readRace_25 : decode cX5_readRace 25 = .ok (.putfield 32, 3) := by decide +kernel
theorem dX5_readRace_28 : decode cX5_readRace 28 = .ok (.aload_n 0, 1) := by decide +kernel
theorem dX5_readRace_29 : decode cX5_readRace 29 = .ok (.iconst 0, 1) := by decide +kernel
theorem dX5_readRace_30 : decode cX5_readRace 30 = .ok (.putfield 35, 3) := by decide +kernel
theorem dX5_readRace_33 : decode cX5_readRace 33 = .ok (.aload_n 0, 1) := by decide +kernel
theorem dX5_readRace_34 : decode cX5_readRace 34 = .ok (.iconst 1, 1) := by decide +kernel
theorem dX5_readRace_35 : decode cX5_readRace 35 = .ok (.invokevirtual 83, 3) := by decide +kernel
theorem dX5_readRace_38 : decode cX5_readRace 38 = .ok (.ifCond .ne 5, 3) := by decide +kernel
theorem dX5_readRace_41 : decode cX5_readRace 41 = .ok (.iconst 0, 1) := by decide +kernel
theorem dX5_readRace_42 : decode cX5_readRace 42 = .ok (.ireturn, 1) := by decide +kernel
theorem dX5_readRace_43 : decode cX5_readRace 43 = .ok (.aload_n 0, 1) := by decide +kernel
theorem dX5_readRace_44 : decode cX5_readRace 44 = .ok (.getfield 21, 3) := by decide +kernel
theorem dX5_readRace_47 : decode cX5_readRace 47 = .ok (.getfield 44, 3) := by decide +kernel
theorem dX5_readRace_50 : decode cX5_readRace 50 = .ok (.iconst 3, 1) := by decide +kernel
theorem dX5_readRace_51 : decode cX5_readRace 51 = .ok (.if_icmp .eq 9, 3) := by decide +kernel
theorem dX5_readRace_54 : decode cX5_readRace 54 = .ok (.aload_n 0, 1) := by decide +kernel
theorem dX5_readRace_55 : decode cX5_readRace 55 = .ok (.iconst 1, 1) := by decide +kernel
theorem dX5_readRace_56 : decode cX5_readRace 56 = .ok (.invokevirtual 57, 3) := by decide +kernel
theorem dX5_readRace_59 : decode cX5_readRace 59 = .ok (.ireturn, 1) := by decide +kernel
theorem dX5_readRace_60 : decode cX5_readRace 60 = .ok (.aload_n 0, 1) := by decide +kernel
theorem dX5_readRace_61 : decode cX5_readRace 61 = .ok (.getfield 21, 3) := by decide +kernel
theorem dX5_readRace_64 : decode cX5_readRace 64 = .ok (.invokevirtual 41, 3) := by decide +kernel
theorem dX5_readRace_67 : decode cX5_readRace 67 = .ok (.aload_n 0, 1) := by decide +kernel
theorem dX5_readRace_68 : decode cX5_readRace 68 = .ok (.iconst 0, 1) := by decide +kernel
theorem dX5_readRace_69 : decode cX5_readRace 69 = .ok (.invokevirtual 83, 3) := by decide +kernel
theorem dX5_readRace_72 : decode cX5_readRace 72 = .ok (.ifCond .ne 5, 3) := by decide +kernel
theorem dX5_readRace_75 : decode cX5_readRace 75 = .ok (.iconst 0, 1) := by decide +kernel
theorem dX5_readRace_76 : decode cX5_readRace 76 = .ok (.ireturn, 1) := by decide +kernel
theorem dX5_readRace_77 : decode cX5_readRace 77 = .ok (.aload_n 0, 1) := by decide +kernel
theorem dX5_readRace_78 : decode cX5_readRace 78 = .ok (.getfield 21, 3) := by decide +kernel
theorem dX5_readRace_81 : decode cX5_readRace 81 = .ok (.getfield 44, 3) := by decide +kernel
theorem dX5_readRace_84 : decode cX5_readRace 84 = .ok (.bipush 7, 2) := by decide +kernel
theorem dX5_readRace_86 : decode cX5_readRace 86 = .ok (.if_icmp .eq 9, 3) := by decide +kernel
theorem dX5_readRace_89 : decode cX5_readRace 89 = .ok (.aload_n 0, 1) := by decide +kernel
theorem dX5_readRace_90 : decode cX5_readRace 90 = .ok (.iconst 1, 1) := by decide +kernel
theorem dX5_readRace_91 : decode cX5_readRace 91 = .ok (.invokevirtual 57, 3) := by decide +kernel
theorem dX5_readRace_94 : decode cX5_readRace 94 = .ok (.ireturn, 1) := by decide +kernel
theorem dX5_readRace_95 : decode cX5_readRace 95 = .ok (.aload_n 0, 1) := by decide +kernel
theorem dX5_readRace_96 : decode cX5_readRace 96 = .ok (.getfield 35, 3) := by decide +kernel
theorem dX5_readRace_99 : decode cX5_readRace 99 = .ok (.invokestatic 87, 3) := by decide +kernel
theorem dX5_readRace_102 : decode cX5_readRace 102 = .ok (.aload_n 0, 1) := by decide +kernel
theorem dX5_readRace_103 : decode cX5_readRace 103 = .ok (.getfield 32, 3) := by decide +kernel
theorem dX5_readRace_106 : decode cX5_readRace 106 = .ok (.invokestatic 87, 3) := by decide +kernel
theorem dX5_readRace_109 : decode cX5_readRace 109 = .ok (.if_icmp .ge 9, 3) := by decide +kernel
theorem dX5_readRace_112 : decode cX5_readRace 112 = .ok (.aload_n 0, 1) := by decide +kernel
theorem dX5_readRace_113 : decode cX5_readRace 113 = .ok (.iconst 4, 1) := by decide +kernel
theorem dX5_readRace_114 : decode cX5_readRace 114 = .ok (.invokevirtual 57, 3) := by decide +kernel
theorem dX5_readRace_117 : decode cX5_readRace 117 = .ok (.ireturn, 1) := by decide +kernel
theorem dX5_readRace_118 : decode cX5_readRace 118 = .ok (.aload_n 0, 1) := by decide +kernel
theorem dX5_readRace_119 : decode cX5_readRace 119 = .ok (.getfield 21, 3) := by decide +kernel
theorem dX5_readRace_122 : decode cX5_readRace 122 = .ok (.invokevirtual 41, 3) := by decide +kernel
theorem dX5_readRace_125 : decode cX5_readRace 125 = .ok (.aload_n 0, 1) := by decide +kernel
theorem dX5_readRace_126 : decode cX5_readRace 126 = .ok (.invokevirtual 93, 3) := by decide +kernel
theorem dX5_readRace_129 : decode cX5_readRace 129 = .ok (.ireturn, 1) := by decide +kernel
theorem dX5_readCrew_0 : decode cX5_readCrew 0 = .ok (.aload_n 0, 1) := by decide +kernel
theorem dX5_readCrew_1 : decode cX5_readCrew 1 = .ok (.getfield 21, 3) := by decide +kernel
theorem dX5_readCrew_4 : decode cX5_readCrew 4 = .ok (.getfield 44, 3) := by decide +kernel
theorem dX5_readCrew_7 : decode cX5_readCrew 7 = .ok (.iconst 1, 1) := by decide +kernel
theorem dX5_readCrew_8 : decode cX5_readCrew 8 = .ok (.if_icmp .eq 9, 3) := by decide +kernel
theorem dX5_readCrew_11 : decode cX5_readCrew 11 = .ok (.aload_n 0, 1) := by decide +kernel
theorem dX5_readCrew_12 : decode cX5_readCrew 12 = .ok (.iconst 1, 1) := by decide +kernel
theorem dX5_readCrew_13 : decode cX5_readCrew 13 = .ok (.invokevirtual 57, 3) := by decide +kernel
theorem dX5_readCrew_16 : decode cX5_readCrew 16 = .ok (.ireturn, 1) := by decide +kernel
theorem dX5_readCrew_17 : decode cX5_readCrew 17 = .ok (.iload_n 1, 1) := by decide +kernel
theorem dX5_readCrew_18 : decode cX5_readCrew 18 = .ok (.ifCond .eq 7, 3) := by decide +kernel
theorem dX5_readCrew_21 : decode cX5_readCrew 21 = .ok (.iconst 3, 1) := by decide +kernel
theorem dX5_readCrew_22 : decode cX5_readCrew 22 = .ok (.goto 10, 3) := by decide +kernel
theorem dX5_readCrew_25 : decode cX5_readCrew 25 = .ok (.aload_n 0, 1) := by decide +kernel
theorem dX5_readCrew_26 : decode cX5_readCrew 26 = .ok (.getfield 32, 3) := by decide +kernel
theorem dX5_readCrew_29 : decode cX5_readCrew 29 = .ok (.invokestatic 87, 3) := by decide +kernel
theorem dX5_readCrew_32 : decode cX5_readCrew 32 = .ok (.istore_n 2, 1) := by decide +kernel
theorem dX5_readCrew_33 : decode cX5_readCrew 33 = .ok (.iconst 0, 1) := by decide +kernel
theorem dX5_readCrew_34 : decode cX5_readCrew 34 = .ok (.istore_n 3, 1) := by decide +kernel
theorem dX5_readCrew_35 : decode cX5_readCrew 35 = .ok (.iload_n 3, 1) := by decide +kernel
theorem dX5_readCrew_36 : decode cX5_readCrew 36 = .ok (.iload_n 2, 1) := by decide +kernel
theorem dX5_readCrew_37 : decode cX5_readCrew 37 = .ok (.if_icmp .gt 122, 3) := by decide +kernel
theorem dX5_readCrew_40 : decode cX5_readCrew 40 = .ok (.aload_n 0, 1) := by decide +kernel
theorem dX5_readCrew_41 : decode cX5_readCrew 41 = .ok (.getfield 21, 3) := by decide +kernel
theorem dX5_readCrew_44 : decode cX5_readCrew 44 = .ok (.getfield 44, 3) := by decide +kernel
theorem dX5_readCrew_47 : decode cX5_readCrew 47 = .ok (.iconst 1, 1) := by decide +kernel
theorem dX5_readCrew_48 : decode cX5_readCrew 48 = .ok (.if_icmp .ne 111, 3) := by decide +kernel
theorem dX5_readCrew_51 : decode cX5_readCrew 51 = .ok (.aload_n 0, 1) := by decide +kernel
theorem dX5_readCrew_52 : decode cX5_readCrew 52 = .ok (.getfield 28, 3) := by decide +kernel
theorem dX5_readCrew_55 : decode cX5_readCrew 55 = .ok (.aload_n 0, 1) := by decide +kernel
theorem dX5_readCrew_56 : decode cX5_readCrew 56 = .ok (.getfield 21, 3) := by decide +kernel
theorem dX5_readCrew_59 : decode cX5_readCrew 59 = .ok (.getfield 64, 3) := by decide +kernel
theorem dX5_readCrew_62 : decode cX5_readCrew 62 = .ok (.invokevirtual 96, 3) := by decide +kernel
theorem dX5_readCrew_65 : decode cX5_readCrew 65 = .ok (.ifCond .ne 9, 3) := by decide +kernel
theorem dX5_readCrew_68 : decode cX5_readCrew 68 = .ok (.aload_n 0, 1) := by decide +kernel
theorem dX5_readCrew_69 : decode cX5_readCrew 69 = .ok (.iconst 2, 1) := by decide +kernel
theorem dX5_readCrew_70 : decode cX5_readCrew 70 = .ok (.invokevirtual 57, 3) := by decide +kernel
theorem dX5_readCrew_73 : decode cX5_readCrew 73 = .ok (.ireturn, 1) := by decide +kernel
theorem dX5_readCrew_74 : decode cX5_readCrew 74 = .ok (.iconst 1, 1) := by decide +kernel
theorem dX5_readCrew_75 : decode cX5_readCrew 75 = .ok (.aload_n 0, 1) := by decide +kernel
theorem dX5_readCrew_76 : decode cX5_readCrew 76 = .ok (.getfield 21, 3) := by decide +kernel
theorem dX5_readCrew_79 : decode cX5_readCrew 79 = .ok (.getfield 64, 3) := by decide +kernel
theorem dX5_readCrew_82 : decode cX5_readCrew 82 = .ok (.ishl, 1) := by decide +kernel
theorem dX5_readCrew_83 : decode cX5_readCrew 83 = .ok (.istore 4, 2) := by decide +kernel
theorem dX5_readCrew_85 : decode cX5_readCrew 85 = .ok (.aload_n 0, 1) := by decide +kernel
theorem dX5_readCrew_86 : decode cX5_readCrew 86 = .ok (.getfield 32, 3) := by decide +kernel
theorem dX5_readCrew_89 : decode cX5_readCrew 89 = .ok (.aload_n 0, 1) := by decide +kernel
theorem dX5_readCrew_90 : decode cX5_readCrew 90 = .ok (.getfield 35, 3) := by decide +kernel
theorem dX5_readCrew_93 : decode cX5_readCrew 93 = .ok (.ior, 1) := by decide +kernel
theorem dX5_readCrew_94 : decode cX5_readCrew 94 = .ok (.iload 4, 2) := by decide +kernel
theorem dX5_readCrew_96 : decode cX5_readCrew 96 = .ok (.iand, 1) := by decide +kernel
theorem dX5_readCrew_97 : decode cX5_readCrew 97 = .ok (.ifCond .eq 9, 3) := by decide +kernel
theorem dX5_readCrew_100 : decode cX5_readCrew 100 = .ok (.aload_n 0, 1) := by decide +kernel
theorem dX5_readCrew_101 : decode cX5_readCrew 101 = .ok (.iconst 3, 1) := by decide +kernel
theorem dX5_readCrew_102 : decode cX5_readCrew 102 = .ok (.invokevirtual 57, 3) := by decide +kernel
theorem dX5_readCrew_105 : decode cX5_readCrew 105 = .ok (.ireturn, 1) := by decide +kernel
theorem dX5_readCrew_106 : decode cX5_readCrew 106 = .ok (.iload_n 3, 1) := by decide +kernel
theorem dX5_readCrew_107 : decode cX5_readCrew 107 = .ok (.iload_n 2, 1) := by decide +kernel
theorem dX5_readCrew_108 : decode cX5_readCrew 108 = .ok (.if_icmp .ne 9, 3) := by decide +kernel
theorem dX5_readCrew_111 : decode cX5_readCrew 111 = .ok (.aload_n 0, 1) := by decide +kernel
theorem dX5_readCrew_112 : decode cX5_readCrew 112 = .ok (.iconst 4, 1) := by decide +kernel
theorem dX5_readCrew_113 : decode cX5_readCrew 113 = .ok (.invokevirtual 57, 3) := by decide +kernel
theorem dX5_readCrew_116 : decode cX5_readCrew 116 = .ok (.ireturn, 1) := by decide +kernel
theorem dX5_readCrew_117 : decode cX5_readCrew 117 = .ok (.iload_n 1, 1) := by decide +kernel
theorem dX5_readCrew_118 : decode cX5_readCrew 118 = .ok (.ifCond .eq 17, 3) := by decide +kernel
theorem dX5_readCrew_121 : decode cX5_readCrew 121 = .ok (.aload_n 0, 1) := by decide +kernel
theorem dX5_readCrew_122 : decode cX5_readCrew 122 = .ok (.dup, 1) := by decide +kernel
theorem dX5_readCrew_123 : decode cX5_readCrew 123 = .ok (.getfield 32, 3) := by decide +kernel
theorem dX5_readCrew_126 : decode cX5_readCrew 126 = .ok (.iload 4, 2) := by decide +kernel
theorem dX5_readCrew_128 : decode cX5_readCrew 128 = .ok (.ior, 1) := by decide +kernel
theorem dX5_readCrew_129 : decode cX5_readCrew 129 = .ok (.putfield 32, 3) := by decide +kernel
theorem dX5_readCrew_132 : decode cX5_readCrew 132 = .ok (.goto 14, 3) := by decide +kernel
theorem dX5_readCrew_135 : decode cX5_readCrew 135 = .ok (.aload_n 0, 1) := by decide +kernel
theorem dX5_readCrew_136 : decode cX5_readCrew 136 = .ok (.dup, 1) := by decide +kernel
theorem dX5_readCrew_137 : decode cX5_readCrew 137 = .ok (.getfield 35, 3) := by decide +kernel
theorem dX5_readCrew_140 : decode cX5_readCrew 140 = .ok (.iload 4, 2) := by decide +kernel
theorem dX5_readCrew_142 : decode cX5_readCrew 142 = .ok (.ior, 1) := by decide +kernel
theorem dX5_readCrew_143 : decode cX5_readCrew 143 = .ok (.putfield 35, 3) := by decide +kernel
theorem dX5_readCrew_146 : decode cX5_readCrew 146 = .ok (.aload_n 0, 1) := by decide +kernel
theorem dX5_readCrew_147 : decode cX5_readCrew 147 = .ok (.getfield 21, 3) := by decide +kernel
theorem dX5_readCrew_150 : decode cX5_readCrew 150 = .ok (.invokevirtual 41, 3) := by decide +kernel
theorem dX5_readCrew_153 : decode cX5_readCrew 153 = .ok (.iinc 3 1, 3) := by decide +kernel
theorem dX5_readCrew_156 : decode cX5_readCrew 156 = .ok (.goto (-121), 3) := by decide +kernel
theorem dX5_readCrew_159 : decode cX5_readCrew 159 = .ok (.iconst 1, 1) := by decide +kernel
theorem dX5_readCrew_160 : decode cX5_readCrew 160 = .ok (.ireturn, 1) := by decide +kernel
theorem dX5_readMargin_0 : decode cX5_readMargin 0 = .ok (.aload_n 0, 1) := by decide +kernel
theorem dX5_readMargin_1 : decode cX5_readMargin 1 = .ok (.getfield 21, 3) := by decide +kernel
theorem dX5_readMargin_4 : decode cX5_readMargin 4 = .ok (.getfield 44, 3) := by decide +kernel
theorem dX5_readMargin_7 : decode cX5_readMargin 7 = .ok (.iconst 1, 1) := by decide +kernel
theorem dX5_readMargin_8 : decode cX5_readMargin 8 = .ok (.if_icmp .eq 9, 3) := by decide +kernel
theorem dX5_readMargin_11 : decode cX5_readMargin 11 = .ok (.aload_n 0, 1) := by decide +kernel
theorem dX5_readMargin_12 : decode cX5_readMargin 12 = .ok (.iconst 1, 1) := by decide +kernel
theorem dX5_readMargin_13 : decode cX5_readMargin 13 = .ok (.invokevirtual 57, 3) := by decide +kernel
theorem dX5_readMargin_16 : decode cX5_readMargin 16 = .ok (.ireturn, 1) := by decide +kernel
theorem dX5_readMargin_17 : decode cX5_readMargin 17 = .ok (.aload_n 0, 1) := by decide +kernel
theorem dX5_readMargin_18 : decode cX5_readMargin 18 = .ok (.getfield 21, 3) := by decide +kernel
theorem dX5_readMargin_21 : decode cX5_readMargin 21 = .ok (.getfield 64, 3) := by decide +kernel
theorem dX5_readMargin_24 : decode cX5_readMargin 24 = .ok (.istore_n 1, 1) := by decide +kernel
theorem dX5_readMargin_25 : decode cX5_readMargin 25 = .ok (.aload_n 0, 1) := by decide +kernel
theorem dX5_readMargin_26 : decode cX5_readMargin 26 = .ok (.getfield 21, 3) := by decide +kernel
theorem dX5_readMargin_29 : decode cX5_readMargin 29 = .ok (.invokevirtual 41, 3) := by decide +kernel
theorem dX5_readMargin_32 : decode cX5_readMargin 32 = .ok (.aload_n 0, 1) := by decide +kernel
theorem dX5_readMargin_33 : decode cX5_readMargin 33 = .ok (.getfield 21, 3) := by decide +kernel
theorem dX5_readMargin_36 : decode cX5_readMargin 36 = .ok (.getfield 44, 3) := by decide +kernel
theorem dX5_readMargin_39 : decode cX5_readMargin 39 = .ok (.bipush 8, 2) := by decide +kernel
theorem dX5_readMargin_41 : decode cX5_readMargin 41 = .ok (.if_icmp .ne 7, 3) := by decide +kernel
theorem dX5_readMargin_44 : decode cX5_readMargin 44 = .ok (.iconst 1, 1) := by decide +kernel
theorem dX5_readMargin_45 : decode cX5_readMargin 45 = .ok (.goto 20, 3) := by decide +kernel
theorem dX5_readMargin_48 : decode cX5_readMargin 48 = .ok (.aload_n 0, 1) := by decide +kernel
theorem dX5_readMargin_49 : decode cX5_readMargin 49 = .ok (.getfield 21, 3) := by decide +kernel
theorem dX5_readMargin_52 : decode cX5_readMargin 52 = .ok (.getfield 44, 3) := by decide +kernel
theorem dX5_readMargin_55 : decode cX5_readMargin 55 = .ok (.bipush 9, 2) := by decide +kernel
theorem dX5_readMargin_57 : decode cX5_readMargin 57 = .ok (.if_icmp .ne 7, 3) := by decide +kernel
theorem dX5_readMargin_60 : decode cX5_readMargin 60 = .ok (.iconst (-1), 1) := by decide +kernel
theorem dX5_readMargin_61 : decode cX5_readMargin 61 = .ok (.goto 4, 3) := by decide +kernel
theorem dX5_readMargin_64 : decode cX5_readMargin 64 = .ok (.iconst 0, 1) := by decide +kernel
theorem dX5_readMargin_65 : decode cX5_readMargin 65 = .ok (.istore_n 2, 1) := by decide +kernel
theorem dX5_readMargin_66 : decode cX5_readMargin 66 = .ok (.iload_n 2, 1) := by decide +kernel
theorem dX5_readMargin_67 : decode cX5_readMargin 67 = .ok (.ifCond .eq 10, 3) := by decide +kernel
theorem dX5_readMargin_70 : decode cX5_readMargin 70 = .ok (.aload_n 0, 1) := by decide +kernel
theorem dX5_readMargin_71 : decode cX5_readMargin 71 = .ok (.getfield 21, 3) := by decide +kernel
theorem dX5_readMargin_74 : decode cX5_readMargin 74 = .ok (.invokevirtual 41, 3) := by decide +kernel
theorem dX5_readMargin_77 : decode cX5_readMargin 77 = .ok (.aload_n 0, 1) := by decide +kernel
theorem dX5_readMargin_78 : decode cX5_readMargin 78 = .ok (.getfield 28, 3) := by decide +kernel
theorem dX5_readMargin_81 : decode cX5_readMargin 81 = .ok (.aload_n 0, 1) := by decide +kernel
theorem dX5_readMargin_82 : decode cX5_readMargin 82 = .ok (.getfield 32, 3) := by decide +kernel
theorem dX5_readMargin_85 : decode cX5_readMargin 85 = .ok (.aload_n 0, 1) := by decide +kernel
theorem dX5_readMargin_86 : decode cX5_readMargin 86 = .ok (.getfield 35, 3) := by decide +kernel
theorem dX5_readMargin_89 : decode cX5_readMargin 89 = .ok (.iload_n 1, 1) := by decide +kernel
theorem dX5_readMargin_90 : decode cX5_readMargin 90 = .ok (.iload_n 2, 1) := by decide +kernel
theorem dX5_readMargin_91 : decode cX5_readMargin 91 = .ok (.invokevirtual 99, 3) := by decide +kernel
theorem dX5_readMargin_94 : decode cX5_readMargin 94 = .ok (.iconst 1, 1) := by decide +kernel
theorem dX5_readMargin_95 : decode cX5_readMargin 95 = .ok (.ireturn, 1) := by decide +kernel
