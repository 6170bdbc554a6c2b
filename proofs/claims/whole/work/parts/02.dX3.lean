theorem dX3_init_0 : decode cX3_init 0 = .ok (.aload_n 0, 1) := by decide +kernel
theorem dX3_init_1 : decode cX3_init 1 = .ok (.invokespecial 3, 3) := by decide +kernel
theorem dX3_init_4 : decode cX3_init 4 = .ok (.aload_n 0, 1) := by decide +kernel
theorem dX3_init_5 : decode cX3_init 5 = .ok (.iconst 0, 1) := by decide +kernel
theorem dX3_init_6 : decode cX3_init 6 = .ok (.putfield 9, 3) := by decide +kernel
theorem dX3_init_9 : decode cX3_init 9 = .ok (.aload_n 0, 1) := by decide +kernel
theorem dX3_init_10 : decode cX3_init 10 = .ok (.bipush 10, 2) := by decide +kernel
theorem dX3_init_12 : decode cX3_init 12 = .ok (.putfield 15, 3) := by decide +kernel
theorem dX3_init_15 : decode cX3_init 15 = .ok (.aload_n 0, 1) := by decide +kernel
theorem dX3_init_16 : decode cX3_init 16 = .ok (.iconst 0, 1) := by decide +kernel
theorem dX3_init_17 : decode cX3_init 17 = .ok (.putfield 18, 3) := by decide +kernel
theorem dX3_init_20 : decode cX3_init 20 = .ok (.aload_n 0, 1) := by decide +kernel
theorem dX3_init_21 : decode cX3_init 21 = .ok (.bipush 12, 2) := by decide +kernel
theorem dX3_init_23 : decode cX3_init 23 = .ok (.newarray .int, 2) := by decide +kernel
theorem dX3_init_25 : decode cX3_init 25 = .ok (.putfield 21, 3) := by decide +kernel
theorem dX3_init_28 : decode cX3_init 28 = .ok (.aload_n 0, 1) := by decide +kernel
theorem dX3_init_29 : decode cX3_init 29 = .ok (.bipush 12, 2) := by decide +kernel
theorem dX3_init_31 : decode cX3_init 31 = .ok (.newarray .int, 2) := by decide +kernel
theorem dX3_init_33 : decode cX3_init 33 = .ok (.putfield 25, 3) := by decide +kernel
theorem dX3_init_36 : decode cX3_init 36 = .ok (.aload_n 0, 1) := by decide +kernel
theorem dX3_init_37 : decode cX3_init 37 = .ok (.bipush 12, 2) := by decide +kernel
theorem dX3_init_39 : decode cX3_init 39 = .ok (.newarray .int, 2) := by decide +kernel
theorem dX3_init_41 : decode cX3_init 41 = .ok (.putfield 28, 3) := by decide +kernel
theorem dX3_init_44 : decode cX3_init 44 = .ok (.aload_n 0, 1) := by decide +kernel
theorem dX3_init_45 : decode cX3_init 45 = .ok (.bipush 12, 2) := by decide +kernel
theorem dX3_init_47 : decode cX3_init 47 = .ok (.newarray .int, 2) := by decide +kernel
theorem dX3_init_49 : decode cX3_init 49 = .ok (.putfield 31, 3) := by decide +kernel
theorem dX3_init_52 : decode cX3_init 52 = .ok (.return_, 1) := by decide +kernel
theorem dX3_isRowerCount_0 : decode cX3_isRowerCount 0 = .ok (.iload_n 0, 1) := by decide +kernel
theorem dX3_isRowerCount_1 : decode cX3_isRowerCount 1 = .ok (.ifCond .lt 13, 3) := by decide +kernel
theorem dX3_isRowerCount_4 : decode cX3_isRowerCount 4 = .ok (.iload_n 0, 1) := by decide +kernel
theorem dX3_isRowerCount_5 : decode cX3_isRowerCount 5 = .ok (.bipush 6, 2) := by decide +kernel
theorem dX3_isRowerCount_7 : decode cX3_isRowerCount 7 = .ok (.if_icmp .gt 7, 3) := by decide +kernel
theorem dX3_isRowerCount_10 : decode cX3_isRowerCount 10 = .ok (.iconst 1, 1) := by decide +kernel
theorem dX3_isRowerCount_11 : decode cX3_isRowerCount 11 = .ok (.goto 4, 3) := by decide +kernel
theorem dX3_isRowerCount_14 : decode cX3_isRowerCount 14 = .ok (.iconst 0, 1) := by decide +kernel
theorem dX3_isRowerCount_15 : decode cX3_isRowerCount 15 = .ok (.ireturn, 1) := by decide +kernel
theorem dX3_isBound_0 : decode cX3_isBound 0 = .ok (.iload_n 0, 1) := by decide +kernel
theorem dX3_isBound_1 : decode cX3_isBound 1 = .ok (.iconst 1, 1) := by decide +kernel
theorem dX3_isBound_2 : decode cX3_isBound 2 = .ok (.if_icmp .lt 13, 3) := by decide +kernel
theorem dX3_isBound_5 : decode cX3_isBound 5 = .ok (.iload_n 0, 1) := by decide +kernel
theorem dX3_isBound_6 : decode cX3_isBound 6 = .ok (.bipush 99, 2) := by decide +kernel
theorem dX3_isBound_8 : decode cX3_isBound 8 = .ok (.if_icmp .gt 7, 3) := by decide +kernel
theorem dX3_isBound_11 : decode cX3_isBound 11 = .ok (.iconst 1, 1) := by decide +kernel
theorem dX3_isBound_12 : decode cX3_isBound 12 = .ok (.goto 4, 3) := by decide +kernel
theorem dX3_isBound_15 : decode cX3_isBound 15 = .ok (.iconst 0, 1) := by decide +kernel
theorem dX3_isBound_16 : decode cX3_isBound 16 = .ok (.ireturn, 1) := by decide +kernel
theorem dX3_begin_0 : decode cX3_begin 0 = .ok (.aload_n 0, 1) := by decide +kernel
theorem dX3_begin_1 : decode cX3_begin 1 = .ok (.iload_n 1, 1) := by decide +kernel
theorem dX3_begin_2 : decode cX3_begin 2 = .ok (.putfield 9, 3) := by decide +kernel
theorem dX3_begin_5 : decode cX3_begin 5 = .ok (.aload_n 0, 1) := by decide +kernel
theorem dX3_begin_6 : decode cX3_begin 6 = .ok (.iconst 0, 1) := by decide +kernel
theorem dX3_begin_7 : decode cX3_begin 7 = .ok (.putfield 18, 3) := by decide +kernel
theorem dX3_begin_10 : decode cX3_begin 10 = .ok (.return_, 1) := by decide +kernel
theorem dX3_copyFrom_0 : decode cX3_copyFrom 0 = .ok (.aload_n 0, 1) := by decide +kernel
theorem dX3_copyFrom_1 : decode cX3_copyFrom 1 = .ok (.aload_n 1, 1) := by decide +kernel
theorem dX3_copyFrom_2 : decode cX3_copyFrom 2 = .ok (.getfield 9, 3) := by decide +kernel
theorem dX3_copyFrom_5 : decode cX3_copyFrom 5 = .ok (.putfield 9, 3) := by decide +kernel
theorem dX3_copyFrom_8 : decode cX3_copyFrom 8 = .ok (.aload_n 0, 1) := by decide +kernel
theorem dX3_copyFrom_9 : decode cX3_copyFrom 9 = .ok (.aload_n 1, 1) := by decide +kernel
theorem dX3_copyFrom_10 : decode cX3_copyFrom 10 = .ok (.getfield 15, 3) := by decide +kernel
theorem dX3_copyFrom_13 : decode cX3_copyFrom 13 = .ok (.putfield 15, 3) := by decide +kernel
theorem dX3_copyFrom_16 : decode cX3_copyFrom 16 = .ok (.aload_n 0, 1) := by decide +kernel
theorem dX3_copyFrom_17 : decode cX3_copyFrom 17 = .ok (.aload_n 1, 1) := by decide +kernel
theorem dX3_copyFrom_18 : decode cX3_copyFrom 18 = .ok (.getfield 18, 3) := by decide +kernel
theorem dX3_copyFrom_21 : decode cX3_copyFrom 21 = .ok (.putfield 18, 3) := by decide +kernel
theorem dX3_copyFrom_24 : decode cX3_copyFrom 24 = .ok (.iconst 0, 1) := by decide +kernel
theorem dX3_copyFrom_25 : decode cX3_copyFrom 25 = .ok (.istore_n 2, 1) := by decide +kernel
theorem dX3_copyFrom_26 : decode cX3_copyFrom 26 = .ok (.iload_n 2, 1) := by decide +kernel
theorem dX3_copyFrom_27 : decode cX3_copyFrom 27 = .ok (.aload_n 0, 1) := by decide +kernel
theorem dX3_copyFrom_28 : decode cX3_copyFrom 28 = .ok (.getfield 18, 3) := by decide +kernel
theorem dX3_copyFrom_31 : decode cX3_copyFrom 31 = .ok (.if_icmp .ge 57, 3) := by decide +kernel
theorem dX3_copyFrom_34 : decode cX3_copyFrom 34 = .ok (.aload_n 0, 1) := by decide +kernel
theorem dX3_copyFrom_35 : decode cX3_copyFrom 35 = .ok (.getfield 21, 3) := by decide +kernel
theorem dX3_copyFrom_38 : decode cX3_copyFrom 38 = .ok (.iload_n 2, 1) := by decide +kernel
theorem dX3_copyFrom_39 : decode cX3_copyFrom 39 = .ok (.aload_n 1, 1) := by decide +kernel
theorem dX3_copyFrom_40 : decode cX3_copyFrom 40 = .ok (.getfield 21, 3) := by decide +kernel
theorem dX3_copyFrom_43 : decode cX3_copyFrom 43 = .ok (.iload_n 2, 1) := by decide +kernel
theorem dX3_copyFrom_44 : decode cX3_copyFrom 44 = .ok (.iaload, 1) := by decide +kernel
theorem dX3_copyFrom_45 : decode cX3_copyFrom 45 = .ok (.iastore, 1) := by decide +kernel
theorem dX3_copyFrom_46 : decode cX3_copyFrom 46 = .ok (.aload_n 0, 1) := by decide +kernel
theorem dX3_copyFrom_47 : decode cX3_copyFrom 47 = .ok (.getfield 25, 3) := by decide +kernel
theorem dX3_copyFrom_50 : decode cX3_copyFrom 50 = .ok (.iload_n 2, 1) := by decide +kernel
theorem dX3_copyFrom_51 : decode cX3_copyFrom 51 = .ok (.aload_n 1, 1) := by decide +kernel
theorem dX3_copyFrom_52 : decode cX3_copyFrom 52 = .ok (.getfield 25, 3) := by decide +kernel
theorem dX3_copyFrom_55 : decode cX3_copyFrom 55 = .ok (.iload_n 2, 1) := by decide +kernel
theorem dX3_copyFrom_56 : decode cX3_copyFrom 56 = .ok (.iaload, 1) := by decide +kernel
theorem dX3_copyFrom_57 : decode cX3_copyFrom 57 = .ok (.iastore, 1) := by decide +kernel
theorem dX3_copyFrom_58 : decode cX3_copyFrom 58 = .ok (.aload_n 0, 1) := by decide +kernel
theorem dX3_copyFrom_59 : decode cX3_copyFrom 59 = .ok (.getfield 28, 3) := by decide +kernel
theorem dX3_copyFrom_62 : decode cX3_copyFrom 62 = .ok (.iload_n 2, 1) := by decide +kernel
theorem dX3_copyFrom_63 : decode cX3_copyFrom 63 = .ok (.aload_n 1, 1) := by decide +kernel
theorem dX3_copyFrom_64 : decode cX3_copyFrom 64 = .ok (.getfield 28, 3) := by decide +kernel
theorem dX3_copyFrom_67 : decode cX3_copyFrom 67 = .ok (.iload_n 2, 1) := by decide +kernel
theorem dX3_copyFrom_68 : decode cX3_copyFrom 68 = .ok (.iaload, 1) := by decide +kernel
theorem dX3_copyFrom_69 : decode cX3_copyFrom 69 = .ok (.iastore, 1) := by decide +kernel
theorem dX3_copyFrom_70 : decode cX3_copyFrom 70 = .ok (.aload_n 0, 1) := by decide +kernel
theorem dX3_copyFrom_71 : decode cX3_copyFrom 71 = .ok (.getfield 31, 3) := by decide +kernel
theorem dX3_copyFrom_74 : decode cX3_copyFrom 74 = .ok (.iload_n 2, 1) := by decide +kernel
theorem dX3_copyFrom_75 : decode cX3_copyFrom 75 = .ok (.aload_n 1, 1) := by decide +kernel
theorem dX3_copyFrom_76 : decode cX3_copyFrom 76 = .ok (.getfield 31, 3) := by decide +kernel
theorem dX3_copyFrom_79 : decode cX3_copyFrom 79 = .ok (.iload_n 2, 1) := by decide +kernel
theorem dX3_copyFrom_80 : decode cX3_copyFrom 80 = .ok (.iaload, 1) := by decide +kernel
theorem dX3_copyFrom_81 : decode cX3_copyFrom 81 = .ok (.iastore, 1) := by decide +kernel
theorem dX3_copyFrom_82 : decode cX3_copyFrom 82 = .ok (.iinc 2 1, 3) := by decide +kernel
theorem dX3_copyFrom_85 : decode cX3_copyFrom 85 = .ok (.goto (-59), 3) := by decide +kernel
theorem dX3_copyFrom_88 : decode cX3_copyFrom 88 = .ok (.return_, 1) := by decide +kernel
theorem dX3_hasRower_0 : decode cX3_hasRower 0 = .ok (.iload_n 1, 1) := by decide +kernel
theorem dX3_hasRower_1 : decode cX3_hasRower 1 = .ok (.ifCond .lt 15, 3) := by decide +kernel
theorem dX3_hasRower_4 : decode cX3_hasRower 4 = .ok (.iload_n 1, 1) := by decide +kernel
theorem dX3_hasRower_5 : decode cX3_hasRower 5 = .ok (.aload_n 0, 1) := by decide +kernel
theorem dX3_hasRower_6 : decode cX3_hasRower 6 = .ok (.getfield 9, 3) := by decide +kernel
theorem dX3_hasRower_9 : decode cX3_hasRower 9 = .ok (.if_icmp .ge 7, 3) := by decide +kernel
theorem dX3_hasRower_12 : decode cX3_hasRower 12 = .ok (.iconst 1, 1) := by decide +kernel
theorem dX3_hasRower_13 : decode cX3_hasRower 13 = .ok (.goto 4, 3) := by decide +kernel
theorem dX3_hasRower_16 : decode cX3_hasRower 16 = .ok (.iconst 0, 1) := by decide +kernel
theorem dX3_hasRower_17 : decode cX3_hasRower 17 = .ok (.ireturn, 1) := by decide +kernel
theorem dX3_hasRace_0 : decode cX3_hasRace 0 = .ok (.iload_n 1, 1) := by decide +kernel
theorem dX3_hasRace_1 : decode cX3_hasRace 1 = .ok (.ifCond .lt 15, 3) := by decide +kernel
theorem dX3_hasRace_4 : decode cX3_hasRace 4 = .ok (.iload_n 1, 1) := by decide +kernel
theorem dX3_hasRace_5 : decode cX3_hasRace 5 = .ok (.aload_n 0, 1) := by decide +kernel
theorem dX3_hasRace_6 : decode cX3_hasRace 6 = .ok (.getfield 18, 3) := by decide +kernel
theorem dX3_hasRace_9 : decode cX3_hasRace 9 = .ok (.if_icmp .ge 7, 3) := by decide +kernel
theorem dX3_hasRace_12 : decode cX3_hasRace 12 = .ok (.iconst 1, 1) := by decide +kernel
theorem dX3_hasRace_13 : decode cX3_hasRace 13 = .ok (.goto 4, 3) := by decide +kernel
theorem dX3_hasRace_16 : decode cX3_hasRace 16 = .ok (.iconst 0, 1) := by decide +kernel
theorem dX3_hasRace_17 : decode cX3_hasRace 17 = .ok (.ireturn, 1) := by decide +kernel
theorem dX3_isFull_0 : decode cX3_isFull 0 = .ok (.aload_n 0, 1) := by decide +kernel
theorem dX3_isFull_1 : decode cX3_isFull 1 = .ok (.getfield 18, 3) := by decide +kernel
theorem dX3_isFull_4 : decode cX3_isFull 4 = .ok (.bipush 12, 2) := by decide +kernel
theorem dX3_isFull_6 : decode cX3_isFull 6 = .ok (.if_icmp .lt 7, 3) := by decide +kernel
theorem dX3_isFull_9 : decode cX3_isFull 9 = .ok (.iconst 1, 1) := by decide +kernel
theorem dX3_isFull_10 : decode cX3_isFull 10 = .ok (.goto 4, 3) := by decide +kernel
theorem dX3_isFull_13 : decode cX3_isFull 13 = .ok (.iconst 0, 1) := by decide +kernel
theorem dX3_isFull_14 : decode cX3_isFull 14 = .ok (.ireturn, 1) := by decide +kernel
theorem dX3_canRow_0 : decode cX3_canRow 0 = .ok (.iconst 1, 1) := by decide +kernel
theorem dX3_canRow_1 : decode cX3_canRow 1 = .ok (.aload_n 0, 1) := by decide +kernel
theorem dX3_canRow_2 : decode cX3_canRow 2 = .ok (.getfield 9, 3) := by decide +kernel
theorem dX3_canRow_5 : decode cX3_canRow 5 = .ok (.ishl, 1) := by decide +kernel
theorem dX3_canRow_6 : decode cX3_canRow 6 = .ok (.iconst 1, 1) := by decide +kernel
theorem dX3_canRow_7 : decode cX3_canRow 7 = .ok (.isub, 1) := by decide +kernel
theorem dX3_canRow_8 : decode cX3_canRow 8 = .ok (.istore 4, 2) := by decide +kernel
theorem dX3_canRow_10 : decode cX3_canRow 10 = .ok (.iload_n 1, 1) := by decide +kernel
theorem dX3_canRow_11 : decode cX3_canRow 11 = .ok (.invokestatic 34, 3) := by decide +kernel
theorem dX3_canRow_14 : decode cX3_canRow 14 = .ok (.istore 5, 2) := by decide +kernel
theorem dX3_canRow_16 : decode cX3_canRow 16 = .ok (.iload_n 1, 1) := by decide +kernel
theorem dX3_canRow_17 : decode cX3_canRow 17 = .ok (.iload_n 2, 1) := by decide +kernel
theorem dX3_canRow_18 : decode cX3_canRow 18 = .ok (.ior, 1) := by decide +kernel
theorem dX3_canRow_19 : decode cX3_canRow 19 = .ok (.iload 4, 2) := by decide +kernel
theorem dX3_canRow_21 : decode cX3_canRow 21 = .ok (.iconst (-1), 1) := by decide +kernel
theorem dX3_canRow_22 : decode cX3_canRow 22 = .ok (.ixor, 1) := by decide +kernel
theorem dX3_canRow_23 : decode cX3_canRow 23 = .ok (.iand, 1) := by decide +kernel
theorem dX3_canRow_24 : decode cX3_canRow 24 = .ok (.ifCond .ne 44, 3) := by decide +kernel
theorem dX3_canRow_27 : decode cX3_canRow 27 = .ok (.iload_n 1, 1) := by decide +kernel
theorem dX3_canRow_28 : decode cX3_canRow 28 = .ok (.iload_n 2, 1) := by decide +kernel
theorem dX3_canRow_29 : decode cX3_canRow 29 = .ok (.iand, 1) := by decide +kernel
theorem dX3_canRow_30 : decode cX3_canRow 30 = .ok (.ifCond .ne 38, 3) := by decide +kernel
theorem dX3_canRow_33 : decode cX3_canRow 33 = .ok (.iload 5, 2) := by decide +kernel
theorem dX3_canRow_35 : decode cX3_canRow 35 = .ok (.iload_n 2, 1) := by decide +kernel
theorem dX3_canRow_36 : decode cX3_canRow 36 = .ok (.invokestatic 34, 3) := by decide +kernel
theorem dX3_canRow_39 : decode cX3_canRow 39 = .ok (.if_icmp .ne 29, 3) := by decide +kernel
theorem dX3_canRow_42 : decode cX3_canRow 42 = .ok (.iload 5, 2) := by decide +kernel
theorem dX3_canRow_44 : decode cX3_canRow 44 = .ok (.iconst 1, 1) := by decide +kernel
theorem dX3_canRow_45 : decode cX3_canRow 45 = .ok (.if_icmp .lt 23, 3) := by decide +kernel
theorem dX3_canRow_48 : decode cX3_canRow 48 = .ok (.iload 5, 2) := by decide +kernel
theorem dX3_canRow_50 : decode cX3_canRow 50 = .ok (.iconst 3, 1) := by decide +kernel
theorem dX3_canRow_51 : decode cX3_canRow 51 = .ok (.if_icmp .gt 17, 3) := by decide +kernel
theorem dX3_canRow_54 : decode cX3_canRow 54 = .ok (.iload_n 3, 1) := by decide +kernel
theorem dX3_canRow_55 : decode cX3_canRow 55 = .ok (.iconst (-1), 1) := by decide +kernel
theorem dX3_canRow_56 : decode cX3_canRow 56 = .ok (.if_icmp .lt 12, 3) := by decide +kernel
theorem dX3_canRow_59 : decode cX3_canRow 59 = .ok (.iload_n 3, 1) := by decide +kernel
theorem dX3_canRow_60 : decode cX3_canRow 60 = .ok (.iconst 1, 1) := by decide +kernel
theorem dX3_canRow_61 : decode cX3_canRow 61 = .ok (.if_icmp .gt 7, 3) := by decide +kernel
theorem dX3_canRow_64 : decode cX3_canRow 64 = .ok (.iconst 1, 1) := by decide +kernel
theorem dX3_canRow_65 : decode cX3_canRow 65 = .ok (.goto 4, 3) := by decide +kernel
theorem dX3_canRow_68 : decode cX3_canRow 68 = .ok (.iconst 0, 1) := by decide +kernel
theorem dX3_canRow_69 : decode cX3_canRow 69 = .ok (.ireturn, 1) := by decide +kernel
theorem dX3_append_0 : decode cX3_append 0 = .ok (.aload_n 0, 1) := by decide +kernel
theorem dX3_append_1 : decode cX3_append 1 = .ok (.invokevirtual 40, 3) := by decide +kernel
theorem dX3_append_4 : decode cX3_append 4 = .ok (.ifCond .eq 4, 3) := by decide +kernel
theorem dX3_append_7 : decode cX3_append 7 = .ok (.return_, 1) := by decide +kernel
theorem dX3_append_8 : decode cX3_append 8 = .ok (.aload_n 0, 1) := by decide +kernel
theorem dX3_append_9 : decode cX3_append 9 = .ok (.getfield 21, 3) := by decide +kernel
theorem dX3_append_12 : decode cX3_append 12 = .ok (.aload_n 0, 1) := by decide +kernel
theorem dX3_append_13 : decode cX3_append 13 = .ok (.getfield 18, 3) := by decide +kernel
theorem dX3_append_16 : decode cX3_append 16 = .ok (.iload_n 1, 1) := by decide +kernel
theorem dX3_append_17 : decode cX3_append 17 = .ok (.iastore, 1) := by decide +kernel
theorem dX3_append_18 : decode cX3_append 18 = .ok (.aload_n 0, 1) := by decide +kernel
theorem dX3_append_19 : decode cX3_append 19 = .ok (.getfield 25, 3) := by decide +kernel
theorem dX3_append_22 : decode cX3_append 22 = .ok (.aload_n 0, 1) := by decide +kernel
theorem dX3_append_23 : decode cX3_append 23 = .ok (.getfield 18, 3) := by decide +kernel
theorem dX3_append_26 : decode cX3_append 26 = .ok (.iload_n 2, 1) := by decide +kernel
theorem dX3_append_27 : decode cX3_append 27 = .ok (.iastore, 1) := by decide +kernel
theorem dX3_append_28 : decode cX3_append 28 = .ok (.aload_n 0, 1) := by decide +kernel
theorem dX3_append_29 : decode cX3_append 29 = .ok (.getfield 28, 3) := by decide +kernel
theorem dX3_append_32 : decode cX3_append 32 = .ok (.aload_n 0, 1) := by decide +kernel
theorem dX3_append_33 : decode cX3_append 33 = .ok (.getfield 18, 3) := by decide +kernel
theorem dX3_append_36 : decode cX3_append 36 = .ok (.iload_n 3, 1) := by decide +kernel
theorem dX3_append_37 : decode cX3_append 37 = .ok (.iastore, 1) := by decide +kernel
theorem dX3_append_38 : decode cX3_append 38 = .ok (.aload_n 0, 1) := by decide +kernel
theorem dX3_append_39 : decode cX3_append 39 = .ok (.getfield 31, 3) := by decide +kernel
theorem dX3_append_42 : decode cX3_append 42 = .ok (.aload_n 0, 1) := by decide +kernel
theorem dX3_append_43 : decode cX3_append 43 = .ok (.getfield 18, 3) := by decide +kernel
theorem dX3_append_46 : decode cX3_append 46 = .ok (.iload 4, 2) := by decide +kernel
theorem dX3_append_48 : decode cX3_append 48 = .ok (.iastore, 1) := by decide +kernel
theorem dX3_append_49 : decode cX3_append 49 = .ok (.aload_n 0, 1) := by decide +kernel
theorem dX3_append_50 : decode cX3_append 50 = .ok (.dup, 1) := by decide +kernel
theorem dX3_append_51 : decode cX3_append 51 = .ok (.getfield 18, 3) := by decide +kernel
theorem dX3_append_54 : decode cX3_append 54 = .ok (.iconst 1, 1) := by decide +kernel
theorem dX3_append_55 : decode cX3_append 55 = .ok (.iadd, 1) := by decide +kernel
theorem dX3_append_56 : decode cX3_append 56 = .ok (.putfield 18, 3) := by decide +kernel
theorem dX3_append_59 : decode cX3_append 59 = .ok (.return_, 1) := by decide +kernel
theorem dX3_remove_0 : decode cX3_remove 0 = .ok (.aload_n 0, 1) := by decide +kernel
theorem dX3_remove_1 : decode cX3_remove 1 = .ok (.iload_n 1, 1) := by decide +kernel
theorem dX3_remove_2 : decode cX3_remove 2 = .ok (.invokevirtual 44, 3) := by decide +kernel
theorem dX3_remove_5 : decode cX3_remove 5 = .ok (.ifCond .ne 4, 3) := by decide +kernel
theorem dX3_remove_8 : decode cX3_remove 8 = .ok (.return_, 1) := by decide +kernel
theorem dX3_remove_9 : decode cX3_remove 9 = .ok (.aload_n 0, 1) := by decide +kernel
theorem dX3_remove_10 : decode cX3_remove 10 = .ok (.dup, 1) := by decide +kernel
theorem dX3_remove_11 : decode cX3_remove 11 = .ok (.getfield 18, 3) := by decide +kernel
theorem dX3_remove_14 : decode cX3_remove 14 = .ok (.iconst 1, 1) := by decide +kernel
theorem dX3_remove_15 : decode cX3_remove 15 = .ok (.isub, 1) := by decide +kernel
theorem dX3_remove_16 : decode cX3_remove 16 = .ok (.putfield 18, 3) := by decide +kernel
theorem dX3_remove_19 : decode cX3_remove 19 = .ok (.iload_n 1, 1) := by decide +kernel
theorem dX3_remove_20 : decode cX3_remove 20 = .ok (.istore_n 2, 1) := by decide +kernel
theorem dX3_remove_21 : decode cX3_remove 21 = .ok (.iload_n 2, 1) := by decide +kernel
theorem dX3_remove_22 : decode cX3_remove 22 = .ok (.aload_n 0, 1) := by decide +kernel
theorem dX3_remove_23 : decode cX3_remove 23 = .ok (.getfield 18, 3) := by decide +kernel
theorem dX3_remove_26 : decode cX3_remove 26 = .ok (.if_icmp .ge 65, 3) := by decide +kernel
theorem dX3_remove_29 : decode cX3_remove 29 = .ok (.aload_n 0, 1) := by decide +kernel
theorem dX3_remove_30 : decode cX3_remove 30 = .ok (.getfield 21, 3) := by decide +kernel
theorem dX3_remove_33 : decode cX3_remove 33 = .ok (.iload_n 2, 1) := by decide +kernel
theorem dX3_remove_34 : decode cX3_remove 34 = .ok (.aload_n 0, 1) := by decide +kernel
theorem dX3_remove_35 : decode cX3_remove 35 = .ok (.getfield 21, 3) := by decide +kernel
theorem dX3_remove_38 : decode cX3_remove 38 = .ok (.iload_n 2, 1) := by decide +kernel
theorem dX3_remove_39 : decode cX3_remove 39 = .ok (.iconst 1, 1) := by decide +kernel
theorem dX3_remove_40 : decode cX3_remove 40 = .ok (.iadd, 1) := by decide +kernel
theorem dX3_remove_41 : decode cX3_remove 41 = .ok (.iaload, 1) := by decide +kernel
theorem dX3_remove_42 : decode cX3_remove 42 = .ok (.iastore, 1) := by decide +kernel
theorem dX3_remove_43 : decode cX3_remove 43 = .ok (.aload_n 0, 1) := by decide +kernel
theorem dX3_remove_44 : decode cX3_remove 44 = .ok (.getfield 25, 3) := by decide +kernel
theorem dX3_remove_47 : decode cX3_remove 47 = .ok (.iload_n 2, 1) := by decide +kernel
theorem dX3_remove_48 : decode cX3_remove 48 = .ok (.aload_n 0, 1) := by decide +kernel
theorem dX3_remove_49 : decode cX3_remove 49 = .ok (.getfield 25, 3) := by decide +kernel
theorem dX3_remove_52 : decode cX3_remove 52 = .ok (.iload_n 2, 1) := by decide +kernel
theorem dX3_remove_53 : decode cX3_remove 53 = .ok (.iconst 1, 1) := by decide +kernel
theorem dX3_remove_54 : decode cX3_remove 54 = .ok (.iadd, 1) := by decide +kernel
theorem dX3_remove_55 : decode cX3_remove 55 = .ok (.iaload, 1) := by decide +kernel
theorem dX3_remove_56 : decode cX3_remove 56 = .ok (.iastore, 1) := by decide +kernel
theorem dX3_remove_57 : decode cX3_remove 57 = .ok (.aload_n 0, 1) := by decide +kernel
theorem dX3_remove_58 : decode cX3_remove 58 = .ok (.getfield 28, 3) := by decide +kernel
theorem dX3_remove_61 : decode cX3_remove 61 = .ok (.iload_n 2, 1) := by decide +kernel
theorem dX3_remove_62 : decode cX3_remove 62 = .ok (.aload_n 0, 1) := by decide +kernel
theorem dX3_remove_63 : decode cX3_remove 63 = .ok (.getfield 28, 3) := by decide +kernel
theorem dX3_remove_66 : decode cX3_remove 66 = .ok (.iload_n 2, 1) := by decide +kernel
theorem dX3_remove_67 : decode cX3_remove 67 = .ok (.iconst 1, 1) := by decide +kernel
theorem dX3_remove_68 : decode cX3_remove 68 = .ok (.iadd, 1) := by decide +kernel
theorem dX3_remove_69 : decode cX3_remove 69 = .ok (.iaload, 1) := by decide +kernel
theorem dX3_remove_70 : decode cX3_remove 70 = .ok (.iastore, 1) := by decide +kernel
theorem dX3_remove_71 : decode cX3_remove 71 = .ok (.aload_n 0, 1) := by decide +kernel
theorem dX3_remove_72 : decode cX3_remove 72 = .ok (.getfield 31, 3) := by decide +kernel
theorem dX3_remove_75 : decode cX3_remove 75 = .ok (.iload_n 2, 1) := by decide +kernel
theorem dX3_remove_76 : decode cX3_remove 76 = .ok (.aload_n 0, 1) := by decide +kernel
theorem dX3_remove_77 : decode cX3_remove 77 = .ok (.getfield 31, 3) := by decide +kernel
theorem dX3_remove_80 : decode cX3_remove 80 = .ok (.iload_n 2, 1) := by decide +kernel
theorem dX3_remove_81 : decode cX3_remove 81 = .ok (.iconst 1, 1) := by decide +kernel
theorem dX3_remove_82 : decode cX3_remove 82 = .ok (.iadd, 1) := by decide +kernel
theorem dX3_remove_83 : decode cX3_remove 83 = .ok (.iaload, 1) := by decide +kernel
theorem dX3_remove_84 : decode cX3_remove 84 = .ok (.iastore, 1) := by decide +kernel
theorem dX3_remove_85 : decode cX3_remove 85 = .ok (.iinc 2 1, 3) := by decide +kernel
theorem dX3_remove_88 : decode cX3_remove 88 = .ok (.goto (-67), 3) := by decide +kernel
theorem dX3_remove_91 : decode cX3_remove 91 = .ok (.return_, 1) := by decide +kernel
theorem dX3_isSwap_0 : decode cX3_isSwap 0 = .ok (.iconst 1, 1) := by decide +kernel
theorem dX3_isSwap_1 : decode cX3_isSwap 1 = .ok (.iload_n 3, 1) := by decide +kernel
theorem dX3_isSwap_2 : decode cX3_isSwap 2 = .ok (.ishl, 1) := by decide +kernel
theorem dX3_isSwap_3 : decode cX3_isSwap 3 = .ok (.iconst 1, 1) := by decide +kernel
theorem dX3_isSwap_4 : decode cX3_isSwap 4 = .ok (.iload 4, 2) := by decide +kernel
theorem dX3_isSwap_6 : decode cX3_isSwap 6 = .ok (.ishl, 1) := by decide +kernel
theorem dX3_isSwap_7 : decode cX3_isSwap 7 = .ok (.ior, 1) := by decide +kernel
theorem dX3_isSwap_8 : decode cX3_isSwap 8 = .ok (.istore 5, 2) := by decide +kernel
theorem dX3_isSwap_10 : decode cX3_isSwap 10 = .ok (.aload_n 0, 1) := by decide +kernel
theorem dX3_isSwap_11 : decode cX3_isSwap 11 = .ok (.getfield 31, 3) := by decide +kernel
theorem dX3_isSwap_14 : decode cX3_isSwap 14 = .ok (.iload_n 1, 1) := by decide +kernel
theorem dX3_isSwap_15 : decode cX3_isSwap 15 = .ok (.iaload, 1) := by decide +kernel
theorem dX3_isSwap_16 : decode cX3_isSwap 16 = .ok (.aload_n 0, 1) := by decide +kernel
theorem dX3_isSwap_17 : decode cX3_isSwap 17 = .ok (.getfield 31, 3) := by decide +kernel
theorem dX3_isSwap_20 : decode cX3_isSwap 20 = .ok (.iload_n 2, 1) := by decide +kernel
theorem dX3_isSwap_21 : decode cX3_isSwap 21 = .ok (.iaload, 1) := by decide +kernel
theorem dX3_isSwap_22 : decode cX3_isSwap 22 = .ok (.if_icmp .ne 74, 3) := by decide +kernel
theorem dX3_isSwap_25 : decode cX3_isSwap 25 = .ok (.aload_n 0, 1) := by decide +kernel
theorem dX3_isSwap_26 : decode cX3_isSwap 26 = .ok (.getfield 21, 3) := by decide +kernel
theorem dX3_isSwap_29 : decode cX3_isSwap 29 = .ok (.iload_n 1, 1) := by decide +kernel
theorem dX3_isSwap_30 : decode cX3_isSwap 30 = .ok (.iaload, 1) := by decide +kernel
theorem dX3_isSwap_31 : decode cX3_isSwap 31 = .ok (.iload 5, 2) := by decide +kernel
theorem dX3_isSwap_33 : decode cX3_isSwap 33 = .ok (.iand, 1) := by decide +kernel
theorem dX3_isSwap_34 : decode cX3_isSwap 34 = .ok (.iconst 1, 1) := by decide +kernel
theorem dX3_isSwap_35 : decode cX3_isSwap 35 = .ok (.iload_n 3, 1) := by decide +kernel
theorem dX3_isSwap_36 : decode cX3_isSwap 36 = .ok (.ishl, 1) := by decide +kernel
theorem dX3_isSwap_37 : decode cX3_isSwap 37 = .ok (.if_icmp .ne 59, 3) := by decide +kernel
theorem dX3_isSwap_40 : decode cX3_isSwap 40 = .ok (.aload_n 0, 1) := by decide +kernel
theorem dX3_isSwap_41 : decode cX3_isSwap 41 = .ok (.getfield 25, 3) := by decide +kernel
theorem dX3_isSwap_44 : decode cX3_isSwap 44 = .ok (.iload_n 1, 1) := by decide +kernel
theorem dX3_isSwap_45 : decode cX3_isSwap 45 = .ok (.iaload, 1) := by decide +kernel
theorem dX3_isSwap_46 : decode cX3_isSwap 46 = .ok (.iload 5, 2) := by decide +kernel
theorem dX3_isSwap_48 : decode cX3_isSwap 48 = .ok (.iand, 1) := by decide +kernel
theorem dX3_isSwap_49 : decode cX3_isSwap 49 = .ok (.iconst 1, 1) := by decide +kernel
theorem dX3_isSwap_50 : decode cX3_isSwap 50 = .ok (.iload 4, 2) := by decide +kernel
theorem dX3_isSwap_52 : decode cX3_isSwap 52 = .ok (.ishl, 1) := by decide +kernel
theorem dX3_isSwap_53 : decode cX3_isSwap 53 = .ok (.if_icmp .ne 43, 3) := by decide +kernel
theorem dX3_isSwap_56 : decode cX3_isSwap 56 = .ok (.aload_n 0, 1) := by decide +kernel
theorem dX3_isSwap_57 : decode cX3_isSwap 57 = .ok (.getfield 21, 3) := by decide +kernel
theorem dX3_isSwap_60 : decode cX3_isSwap 60 = .ok (.iload_n 2, 1) := by decide +kernel
theorem dX3_isSwap_61 : decode cX3_isSwap 61 = .ok (.iaload, 1) := by decide +kernel
theorem dX3_isSwap_62 : decode cX3_isSwap 62 = .ok (.aload_n 0, 1) := by decide +kernel
theorem dX3_isSwap_63 : decode cX3_isSwap 63 = .ok (.getfield 21, 3) := by decide +kernel
theorem dX3_isSwap_66 : decode cX3_isSwap 66 = .ok (.iload_n 1, 1) := by decide +kernel
theorem dX3_isSwap_67 : decode cX3_isSwap 67 = .ok (.iaload, 1) := by decide +kernel
theorem dX3_isSwap_68 : decode cX3_isSwap 68 = .ok (.iload 5, 2) := by decide +kernel
theorem dX3_isSwap_70 : decode cX3_isSwap 70 = .ok (.ixor, 1) := by decide +kernel
theorem dX3_isSwap_71 : decode cX3_isSwap 71 = .ok (.if_icmp .ne 25, 3) := by decide +kernel
theorem dX3_isSwap_74 : decode cX3_isSwap 74 = .ok (.aload_n 0, 1) := by decide +kernel
theorem dX3_isSwap_75 : decode cX3_isSwap 75 = .ok (.getfield 25, 3) := by decide +kernel
theorem dX3_isSwap_78 : decode cX3_isSwap 78 = .ok (.iload_n 2, 1) := by decide +kernel
theorem dX3_isSwap_79 : decode cX3_isSwap 79 = .ok (.iaload, 1) := by decide +kernel
theorem dX3_isSwap_80 : decode cX3_isSwap 80 = .ok (.aload_n 0, 1) := by decide +kernel
theorem dX3_isSwap_81 : decode cX3_isSwap 81 = .ok (.getfield 25, 3) := by decide +kernel
theorem dX3_isSwap_84 : decode cX3_isSwap 84 = .ok (.iload_n 1, 1) := by decide +kernel
theorem dX3_isSwap_85 : decode cX3_isSwap 85 = .ok (.iaload, 1) := by decide +kernel
theorem dX3_isSwap_86 : decode cX3_isSwap 86 = .ok (.iload 5, 2) := by decide +kernel
theorem dX3_isSwap_88 : decode cX3_isSwap 88 = .ok (.ixor, 1) := by decide +kernel
theorem dX3_isSwap_89 : decode cX3_isSwap 89 = .ok (.if_icmp .ne 7, 3) := by decide +kernel
theorem dX3_isSwap_92 : decode cX3_isSwap 92 = .ok (.iconst 1, 1) := by decide +kernel
theorem dX3_isSwap_93 : decode cX3_isSwap 93 = .ok (.goto 4, 3) := by decide +kernel
theorem dX3_isSwap_96 : decode cX3_isSwap 96 = .ok (.iconst 0, 1) := by decide +kernel
theorem dX3_isSwap_97 : decode cX3_isSwap 97 = .ok (.ireturn, 1) := by decide +kernel
