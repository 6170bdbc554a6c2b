theorem dX1_init_0 : decode cX1_init 0 = .ok (.aload_n 0, 1) := by decide +kernel
theorem dX1_init_1 : decode cX1_init 1 = .ok (.invokespecial 5, 3) := by decide +kernel
theorem dX1_init_4 : decode cX1_init 4 = .ok (.aload_n 0, 1) := by decide +kernel
theorem dX1_init_5 : decode cX1_init 5 = .ok (.lconst 1, 1) := by decide +kernel
theorem dX1_init_6 : decode cX1_init 6 = .ok (.putfield 11, 3) := by decide +kernel
theorem dX1_init_9 : decode cX1_init 9 = .ok (.aload_n 0, 1) := by decide +kernel
theorem dX1_init_10 : decode cX1_init 10 = .ok (.iconst 0, 1) := by decide +kernel
theorem dX1_init_11 : decode cX1_init 11 = .ok (.putfield 15, 3) := by decide +kernel
theorem dX1_init_14 : decode cX1_init 14 = .ok (.aload_n 0, 1) := by decide +kernel
theorem dX1_init_15 : decode cX1_init 15 = .ok (.bipush 8, 2) := by decide +kernel
theorem dX1_init_17 : decode cX1_init 17 = .ok (.bipush 8, 2) := by decide +kernel
theorem dX1_init_19 : decode cX1_init 19 = .ok (.multianewarray 19 2, 4) := by decide +kernel
theorem dX1_init_23 : decode cX1_init 23 = .ok (.putfield 21, 3) := by decide +kernel
theorem dX1_init_26 : decode cX1_init 26 = .ok (.aload_n 0, 1) := by decide +kernel
theorem dX1_init_27 : decode cX1_init 27 = .ok (.bipush 8, 2) := by decide +kernel
theorem dX1_init_29 : decode cX1_init 29 = .ok (.bipush 8, 2) := by decide +kernel
theorem dX1_init_31 : decode cX1_init 31 = .ok (.multianewarray 19 2, 4) := by decide +kernel
theorem dX1_init_35 : decode cX1_init 35 = .ok (.putfield 24, 3) := by decide +kernel
theorem dX1_init_38 : decode cX1_init 38 = .ok (.aload_n 0, 1) := by decide +kernel
theorem dX1_init_39 : decode cX1_init 39 = .ok (.bipush 7, 2) := by decide +kernel
theorem dX1_init_41 : decode cX1_init 41 = .ok (.newarray .boolean, 2) := by decide +kernel
theorem dX1_init_43 : decode cX1_init 43 = .ok (.putfield 27, 3) := by decide +kernel
theorem dX1_init_46 : decode cX1_init 46 = .ok (.aload_n 0, 1) := by decide +kernel
theorem dX1_init_47 : decode cX1_init 47 = .ok (.bipush 8, 2) := by decide +kernel
theorem dX1_init_49 : decode cX1_init 49 = .ok (.newarray .int, 2) := by decide +kernel
theorem dX1_init_51 : decode cX1_init 51 = .ok (.putfield 31, 3) := by decide +kernel
theorem dX1_init_54 : decode cX1_init 54 = .ok (.return_, 1) := by decide +kernel
theorem dX1_clear_0 : decode cX1_clear 0 = .ok (.iconst 0, 1) := by decide +kernel
theorem dX1_clear_1 : decode cX1_clear 1 = .ok (.istore_n 1, 1) := by decide +kernel
theorem dX1_clear_2 : decode cX1_clear 2 = .ok (.iload_n 1, 1) := by decide +kernel
theorem dX1_clear_3 : decode cX1_clear 3 = .ok (.bipush 8, 2) := by decide +kernel
theorem dX1_clear_5 : decode cX1_clear 5 = .ok (.if_icmp .ge 32, 3) := by decide +kernel
theorem dX1_clear_8 : decode cX1_clear 8 = .ok (.iconst 0, 1) := by decide +kernel
theorem dX1_clear_9 : decode cX1_clear 9 = .ok (.istore_n 2, 1) := by decide +kernel
theorem dX1_clear_10 : decode cX1_clear 10 = .ok (.iload_n 2, 1) := by decide +kernel
theorem dX1_clear_11 : decode cX1_clear 11 = .ok (.bipush 8, 2) := by decide +kernel
theorem dX1_clear_13 : decode cX1_clear 13 = .ok (.if_icmp .ge 18, 3) := by decide +kernel
theorem dX1_clear_16 : decode cX1_clear 16 = .ok (.aload_n 0, 1) := by decide +kernel
theorem dX1_clear_17 : decode cX1_clear 17 = .ok (.getfield 21, 3) := by decide +kernel
theorem dX1_clear_20 : decode cX1_clear 20 = .ok (.iload_n 1, 1) := by decide +kernel
theorem dX1_clear_21 : decode cX1_clear 21 = .ok (.aaload, 1) := by decide +kernel
theorem dX1_clear_22 : decode cX1_clear 22 = .ok (.iload_n 2, 1) := by decide +kernel
theorem dX1_clear_23 : decode cX1_clear 23 = .ok (.lconst 0, 1) := by decide +kernel
theorem dX1_clear_24 : decode cX1_clear 24 = .ok (.lastore, 1) := by decide +kernel
theorem dX1_clear_25 : decode cX1_clear 25 = .ok (.iinc 2 1, 3) := by decide +kernel
theorem dX1_clear_28 : decode cX1_clear 28 = .ok (.goto (-18), 3) := by decide +kernel
theorem dX1_clear_31 : decode cX1_clear 31 = .ok (.iinc 1 1, 3) := by decide +kernel
theorem dX1_clear_34 : decode cX1_clear 34 = .ok (.goto (-32), 3) := by decide +kernel
theorem dX1_clear_37 : decode cX1_clear 37 = .ok (.return_, 1) := by decide +kernel
theorem dX1_copyForms_0 : decode cX1_copyForms 0 = .ok (.aload_n 0, 1) := by decide +kernel
theorem dX1_copyForms_1 : decode cX1_copyForms 1 = .ok (.invokevirtual 35, 3) := by decide +kernel
theorem dX1_copyForms_4 : decode cX1_copyForms 4 = .ok (.iconst 0, 1) := by decide +kernel
theorem dX1_copyForms_5 : decode cX1_copyForms 5 = .ok (.istore_n 2, 1) := by decide +kernel
theorem dX1_copyForms_6 : decode cX1_copyForms 6 = .ok (.iload_n 2, 1) := by decide +kernel
theorem dX1_copyForms_7 : decode cX1_copyForms 7 = .ok (.bipush 7, 2) := by decide +kernel
theorem dX1_copyForms_9 : decode cX1_copyForms 9 = .ok (.if_icmp .ge 39, 3) := by decide +kernel
theorem dX1_copyForms_12 : decode cX1_copyForms 12 = .ok (.iconst 0, 1) := by decide +kernel
theorem dX1_copyForms_13 : decode cX1_copyForms 13 = .ok (.istore_n 3, 1) := by decide +kernel
theorem dX1_copyForms_14 : decode cX1_copyForms 14 = .ok (.iload_n 3, 1) := by decide +kernel
theorem dX1_copyForms_15 : decode cX1_copyForms 15 = .ok (.bipush 7, 2) := by decide +kernel
theorem dX1_copyForms_17 : decode cX1_copyForms 17 = .ok (.if_icmp .ge 25, 3) := by decide +kernel
theorem dX1_copyForms_20 : decode cX1_copyForms 20 = .ok (.aload_n 0, 1) := by decide +kernel
theorem dX1_copyForms_21 : decode cX1_copyForms 21 = .ok (.getfield 21, 3) := by decide +kernel
theorem dX1_copyForms_24 : decode cX1_copyForms 24 = .ok (.iload_n 2, 1) := by decide +kernel
theorem dX1_copyForms_25 : decode cX1_copyForms 25 = .ok (.aaload, 1) := by decide +kernel
theorem dX1_copyForms_26 : decode cX1_copyForms 26 = .ok (.iload_n 3, 1) := by decide +kernel
theorem dX1_copyForms_27 : decode cX1_copyForms 27 = .ok (.aload_n 1, 1) := by decide +kernel
theorem dX1_copyForms_28 : decode cX1_copyForms 28 = .ok (.getfield 21, 3) := by decide +kernel
theorem dX1_copyForms_31 : decode cX1_copyForms 31 = .ok (.iload_n 2, 1) := by decide +kernel
theorem dX1_copyForms_32 : decode cX1_copyForms 32 = .ok (.aaload, 1) := by decide +kernel
theorem dX1_copyForms_33 : decode cX1_copyForms 33 = .ok (.iload_n 3, 1) := by decide +kernel
theorem dX1_copyForms_34 : decode cX1_copyForms 34 = .ok (.laload, 1) := by decide +kernel
theorem dX1_copyForms_35 : decode cX1_copyForms 35 = .ok (.lastore, 1) := by decide +kernel
theorem dX1_copyForms_36 : decode cX1_copyForms 36 = .ok (.iinc 3 1, 3) := by decide +kernel
theorem dX1_copyForms_39 : decode cX1_copyForms 39 = .ok (.goto (-25), 3) := by decide +kernel
theorem dX1_copyForms_42 : decode cX1_copyForms 42 = .ok (.iinc 2 1, 3) := by decide +kernel
theorem dX1_copyForms_45 : decode cX1_copyForms 45 = .ok (.goto (-39), 3) := by decide +kernel
theorem dX1_copyForms_48 : decode cX1_copyForms 48 = .ok (.return_, 1) := by decide +kernel
theorem dX1_copyMargins_0 : decode cX1_copyMargins 0 = .ok (.iconst 0, 1) := by decide +kernel
theorem dX1_copyMargins_1 : decode cX1_copyMargins 1 = .ok (.istore_n 2, 1) := by decide +kernel
theorem dX1_copyMargins_2 : decode cX1_copyMargins 2 = .ok (.iload_n 2, 1) := by decide +kernel
theorem dX1_copyMargins_3 : decode cX1_copyMargins 3 = .ok (.bipush 8, 2) := by decide +kernel
theorem dX1_copyMargins_5 : decode cX1_copyMargins 5 = .ok (.if_icmp .ge 45, 3) := by decide +kernel
theorem dX1_copyMargins_8 : decode cX1_copyMargins 8 = .ok (.aload_n 0, 1) := by decide +kernel
theorem dX1_copyMargins_9 : decode cX1_copyMargins 9 = .ok (.getfield 21, 3) := by decide +kernel
theorem dX1_copyMargins_12 : decode cX1_copyMargins 12 = .ok (.iload_n 2, 1) := by decide +kernel
theorem dX1_copyMargins_13 : decode cX1_copyMargins 13 = .ok (.aaload, 1) := by decide +kernel
theorem dX1_copyMargins_14 : decode cX1_copyMargins 14 = .ok (.bipush 7, 2) := by decide +kernel
theorem dX1_copyMargins_16 : decode cX1_copyMargins 16 = .ok (.aload_n 1, 1) := by decide +kernel
theorem dX1_copyMargins_17 : decode cX1_copyMargins 17 = .ok (.getfield 21, 3) := by decide +kernel
theorem dX1_copyMargins_20 : decode cX1_copyMargins 20 = .ok (.iload_n 2, 1) := by decide +kernel
theorem dX1_copyMargins_21 : decode cX1_copyMargins 21 = .ok (.aaload, 1) := by decide +kernel
theorem dX1_copyMargins_22 : decode cX1_copyMargins 22 = .ok (.bipush 7, 2) := by decide +kernel
theorem dX1_copyMargins_24 : decode cX1_copyMargins 24 = .ok (.laload, 1) := by decide +kernel
theorem dX1_copyMargins_25 : decode cX1_copyMargins 25 = .ok (.lastore, 1) := by decide +kernel
theorem dX1_copyMargins_26 : decode cX1_copyMargins 26 = .ok (.aload_n 0, 1) := by decide +kernel
theorem dX1_copyMargins_27 : decode cX1_copyMargins 27 = .ok (.getfield 21, 3) := by decide +kernel
theorem dX1_copyMargins_30 : decode cX1_copyMargins 30 = .ok (.bipush 7, 2) := by decide +kernel
theorem dX1_copyMargins_32 : decode cX1_copyMargins 32 = .ok (.aaload, 1) := by decide +kernel
theorem dX1_copyMargins_33 : decode cX1_copyMargins 33 = .ok (.iload_n 2, 1) := by decide +kernel
theorem dX1_copyMargins_34 : decode cX1_copyMargins 34 = .ok (.aload_n 1, 1) := by decide +kernel
theorem dX1_copyMargins_35 : decode cX1_copyMargins 35 = .ok (.getfield 21, 3) := by decide +kernel
theorem dX1_copyMargins_38 : decode cX1_copyMargins 38 = .ok (.bipush 7, 2) := by decide +kernel
theorem dX1_copyMargins_40 : decode cX1_copyMargins 40 = .ok (.aaload, 1) := by decide +kernel
theorem dX1_copyMargins_41 : decode cX1_copyMargins 41 = .ok (.iload_n 2, 1) := by decide +kernel
theorem dX1_copyMargins_42 : decode cX1_copyMargins 42 = .ok (.laload, 1) := by decide +kernel
theorem dX1_copyMargins_43 : decode cX1_copyMargins 43 = .ok (.lastore, 1) := by decide +kernel
theorem dX1_copyMargins_44 : decode cX1_copyMargins 44 = .ok (.iinc 2 1, 3) := by decide +kernel
theorem dX1_copyMargins_47 : decode cX1_copyMargins 47 = .ok (.goto (-45), 3) := by decide +kernel
theorem dX1_copyMargins_50 : decode cX1_copyMargins 50 = .ok (.return_, 1) := by decide +kernel
theorem dX1_load_0 : decode cX1_load 0 = .ok (.iconst 0, 1) := by decide +kernel
theorem dX1_load_1 : decode cX1_load 1 = .ok (.istore 5, 2) := by decide +kernel
theorem dX1_load_3 : decode cX1_load 3 = .ok (.iload 5, 2) := by decide +kernel
theorem dX1_load_5 : decode cX1_load 5 = .ok (.bipush 6, 2) := by decide +kernel
theorem dX1_load_7 : decode cX1_load 7 = .ok (.if_icmp .ge 29, 3) := by decide +kernel
theorem dX1_load_10 : decode cX1_load 10 = .ok (.aload_n 0, 1) := by decide +kernel
theorem dX1_load_11 : decode cX1_load 11 = .ok (.getfield 31, 3) := by decide +kernel
theorem dX1_load_14 : decode cX1_load 14 = .ok (.iload 5, 2) := by decide +kernel
theorem dX1_load_16 : decode cX1_load 16 = .ok (.iload_n 1, 1) := by decide +kernel
theorem dX1_load_17 : decode cX1_load 17 = .ok (.iload 5, 2) := by decide +kernel
theorem dX1_load_19 : decode cX1_load 19 = .ok (.ishr, 1) := by decide +kernel
theorem dX1_load_20 : decode cX1_load 20 = .ok (.iconst 1, 1) := by decide +kernel
theorem dX1_load_21 : decode cX1_load 21 = .ok (.iand, 1) := by decide +kernel
theorem dX1_load_22 : decode cX1_load 22 = .ok (.iload_n 2, 1) := by decide +kernel
theorem dX1_load_23 : decode cX1_load 23 = .ok (.iload 5, 2) := by decide +kernel
theorem dX1_load_25 : decode cX1_load 25 = .ok (.ishr, 1) := by decide +kernel
theorem dX1_load_26 : decode cX1_load 26 = .ok (.iconst 1, 1) := by decide +kernel
theorem dX1_load_27 : decode cX1_load 27 = .ok (.iand, 1) := by decide +kernel
theorem dX1_load_28 : decode cX1_load 28 = .ok (.isub, 1) := by decide +kernel
theorem dX1_load_29 : decode cX1_load 29 = .ok (.iastore, 1) := by decide +kernel
theorem dX1_load_30 : decode cX1_load 30 = .ok (.iinc 5 1, 3) := by decide +kernel
theorem dX1_load_33 : decode cX1_load 33 = .ok (.goto (-30), 3) := by decide +kernel
theorem dX1_load_36 : decode cX1_load 36 = .ok (.aload_n 0, 1) := by decide +kernel
theorem dX1_load_37 : decode cX1_load 37 = .ok (.getfield 31, 3) := by decide +kernel
theorem dX1_load_40 : decode cX1_load 40 = .ok (.bipush 6, 2) := by decide +kernel
theorem dX1_load_42 : decode cX1_load 42 = .ok (.iload_n 3, 1) := by decide +kernel
theorem dX1_load_43 : decode cX1_load 43 = .ok (.iastore, 1) := by decide +kernel
theorem dX1_load_44 : decode cX1_load 44 = .ok (.aload_n 0, 1) := by decide +kernel
theorem dX1_load_45 : decode cX1_load 45 = .ok (.getfield 31, 3) := by decide +kernel
theorem dX1_load_48 : decode cX1_load 48 = .ok (.bipush 7, 2) := by decide +kernel
theorem dX1_load_50 : decode cX1_load 50 = .ok (.iload 4, 2) := by decide +kernel
theorem dX1_load_52 : decode cX1_load 52 = .ok (.iastore, 1) := by decide +kernel
theorem dX1_load_53 : decode cX1_load 53 = .ok (.return_, 1) := by decide +kernel
theorem dX1_include_0 : decode cX1_include 0 = .ok (.iconst 0, 1) := by decide +kernel
theorem dX1_include_1 : decode cX1_include 1 = .ok (.istore_n 2, 1) := by decide +kernel
theorem dX1_include_2 : decode cX1_include 2 = .ok (.iload_n 2, 1) := by decide +kernel
theorem dX1_include_3 : decode cX1_include 3 = .ok (.bipush 8, 2) := by decide +kernel
theorem dX1_include_5 : decode cX1_include 5 = .ok (.if_icmp .ge 52, 3) := by decide +kernel
theorem dX1_include_8 : decode cX1_include 8 = .ok (.iconst 0, 1) := by decide +kernel
theorem dX1_include_9 : decode cX1_include 9 = .ok (.istore_n 3, 1) := by decide +kernel
theorem dX1_include_10 : decode cX1_include 10 = .ok (.iload_n 3, 1) := by decide +kernel
theorem dX1_include_11 : decode cX1_include 11 = .ok (.bipush 8, 2) := by decide +kernel
theorem dX1_include_13 : decode cX1_include 13 = .ok (.if_icmp .ge 38, 3) := by decide +kernel
theorem dX1_include_16 : decode cX1_include 16 = .ok (.aload_n 0, 1) := by decide +kernel
theorem dX1_include_17 : decode cX1_include 17 = .ok (.getfield 21, 3) := by decide +kernel
theorem dX1_include_20 : decode cX1_include 20 = .ok (.iload_n 2, 1) := by decide +kernel
theorem dX1_include_21 : decode cX1_include 21 = .ok (.aaload, 1) := by decide +kernel
theorem dX1_include_22 : decode cX1_include 22 = .ok (.iload_n 3, 1) := by decide +kernel
theorem dX1_include_23 : decode cX1_include 23 = .ok (.dup2, 1) := by decide +kernel
theorem dX1_include_24 : decode cX1_include 24 = .ok (.laload, 1) := by decide +kernel
theorem dX1_include_25 : decode cX1_include 25 = .ok (.iload_n 1, 1) := by decide +kernel
theorem dX1_include_26 : decode cX1_include 26 = .ok (.i2l, 1) := by decide +kernel
theorem dX1_include_27 : decode cX1_include 27 = .ok (.aload_n 0, 1) := by decide +kernel
theorem dX1_include_28 : decode cX1_include 28 = .ok (.getfield 31, 3) := by decide +kernel
theorem dX1_include_31 : decode cX1_include 31 = .ok (.iload_n 2, 1) := by decide +kernel
theorem dX1_include_32 : decode cX1_include 32 = .ok (.iaload, 1) := by decide +kernel
theorem dX1_include_33 : decode cX1_include 33 = .ok (.i2l, 1) := by decide +kernel
theorem dX1_include_34 : decode cX1_include 34 = .ok (.lmul, 1) := by decide +kernel
theorem dX1_include_35 : decode cX1_include 35 = .ok (.aload_n 0, 1) := by decide +kernel
theorem dX1_include_36 : decode cX1_include 36 = .ok (.getfield 31, 3) := by decide +kernel
theorem dX1_include_39 : decode cX1_include 39 = .ok (.iload_n 3, 1) := by decide +kernel
theorem dX1_include_40 : decode cX1_include 40 = .ok (.iaload, 1) := by decide +kernel
theorem dX1_include_41 : decode cX1_include 41 = .ok (.i2l, 1) := by decide +kernel
theorem dX1_include_42 : decode cX1_include 42 = .ok (.lmul, 1) := by decide +kernel
theorem dX1_include_43 : decode cX1_include 43 = .ok (.ladd, 1) := by decide +kernel
theorem dX1_include_44 : decode cX1_include 44 = .ok (.lastore, 1) := by decide +kernel
theorem dX1_include_45 : decode cX1_include 45 = .ok (.iinc 3 1, 3) := by decide +kernel
theorem dX1_include_48 : decode cX1_include 48 = .ok (.goto (-38), 3) := by decide +kernel
theorem dX1_include_51 : decode cX1_include 51 = .ok (.iinc 2 1, 3) := by decide +kernel
theorem dX1_include_54 : decode cX1_include 54 = .ok (.goto (-52), 3) := by decide +kernel
theorem dX1_include_57 : decode cX1_include 57 = .ok (.return_, 1) := by decide +kernel
theorem dX1_solve_0 : decode cX1_solve 0 = .ok (.iconst 0, 1) := by decide +kernel
theorem dX1_solve_1 : decode cX1_solve 1 = .ok (.istore_n 1, 1) := by decide +kernel
theorem dX1_solve_2 : decode cX1_solve 2 = .ok (.iload_n 1, 1) := by decide +kernel
theorem dX1_solve_3 : decode cX1_solve 3 = .ok (.bipush 8, 2) := by decide +kernel
theorem dX1_solve_5 : decode cX1_solve 5 = .ok (.if_icmp .ge 39, 3) := by decide +kernel
theorem dX1_solve_8 : decode cX1_solve 8 = .ok (.iconst 0, 1) := by decide +kernel
theorem dX1_solve_9 : decode cX1_solve 9 = .ok (.istore_n 2, 1) := by decide +kernel
theorem dX1_solve_10 : decode cX1_solve 10 = .ok (.iload_n 2, 1) := by decide +kernel
theorem dX1_solve_11 : decode cX1_solve 11 = .ok (.bipush 8, 2) := by decide +kernel
theorem dX1_solve_13 : decode cX1_solve 13 = .ok (.if_icmp .ge 25, 3) := by decide +kernel
theorem dX1_solve_16 : decode cX1_solve 16 = .ok (.aload_n 0, 1) := by decide +kernel
theorem dX1_solve_17 : decode cX1_solve 17 = .ok (.getfield 24, 3) := by decide +kernel
theorem dX1_solve_20 : decode cX1_solve 20 = .ok (.iload_n 1, 1) := by decide +kernel
theorem dX1_solve_21 : decode cX1_solve 21 = .ok (.aaload, 1) := by decide +kernel
theorem dX1_solve_22 : decode cX1_solve 22 = .ok (.iload_n 2, 1) := by decide +kernel
theorem dX1_solve_23 : decode cX1_solve 23 = .ok (.aload_n 0, 1) := by decide +kernel
theorem dX1_solve_24 : decode cX1_solve 24 = .ok (.getfield 21, 3) := by decide +kernel
theorem dX1_solve_27 : decode cX1_solve 27 = .ok (.iload_n 1, 1) := by decide +kernel
theorem dX1_solve_28 : decode cX1_solve 28 = .ok (.aaload, 1) := by decide +kernel
theorem dX1_solve_29 : decode cX1_solve 29 = .ok (.iload_n 2, 1) := by decide +kernel
theorem dX1_solve_30 : decode cX1_solve 30 = .ok (.laload, 1) := by decide +kernel
theorem dX1_solve_31 : decode cX1_solve 31 = .ok (.lastore, 1) := by decide +kernel
theorem dX1_solve_32 : decode cX1_solve 32 = .ok (.iinc 2 1, 3) := by decide +kernel
theorem dX1_solve_35 : decode cX1_solve 35 = .ok (.goto (-25), 3) := by decide +kernel
theorem dX1_solve_38 : decode cX1_solve 38 = .ok (.iinc 1 1, 3) := by decide +kernel
theorem dX1_solve_41 : decode cX1_solve 41 = .ok (.goto (-39), 3) := by decide +kernel
theorem dX1_solve_44 : decode cX1_solve 44 = .ok (.aload_n 0, 1) := by decide +kernel
theorem dX1_solve_45 : decode cX1_solve 45 = .ok (.lconst 1, 1) := by decide +kernel
theorem dX1_solve_46 : decode cX1_solve 46 = .ok (.putfield 11, 3) := by decide +kernel
theorem dX1_solve_49 : decode cX1_solve 49 = .ok (.aload_n 0, 1) := by decide +kernel
theorem dX1_solve_50 : decode cX1_solve 50 = .ok (.iconst 0, 1) := by decide +kernel
theorem dX1_solve_51 : decode cX1_solve 51 = .ok (.putfield 15, 3) := by decide +kernel
theorem dX1_solve_54 : decode cX1_solve 54 = .ok (.iconst 0, 1) := by decide +kernel
theorem dX1_solve_55 : decode cX1_solve 55 = .ok (.istore_n 1, 1) := by decide +kernel
theorem dX1_solve_56 : decode cX1_solve 56 = .ok (.iload_n 1, 1) := by decide +kernel
theorem dX1_solve_57 : decode cX1_solve 57 = .ok (.bipush 7, 2) := by decide +kernel
theorem dX1_solve_59 : decode cX1_solve 59 = .ok (.if_icmp .ge 57, 3) := by decide +kernel
theorem dX1_solve_62 : decode cX1_solve 62 = .ok (.aload_n 0, 1) := by decide +kernel
theorem dX1_solve_63 : decode cX1_solve 63 = .ok (.getfield 27, 3) := by decide +kernel
theorem dX1_solve_66 : decode cX1_solve 66 = .ok (.iload_n 1, 1) := by decide +kernel
theorem dX1_solve_67 : decode cX1_solve 67 = .ok (.aload_n 0, 1) := by decide +kernel
theorem dX1_solve_68 : decode cX1_solve 68 = .ok (.getfield 24, 3) := by decide +kernel
theorem dX1_solve_71 : decode cX1_solve 71 = .ok (.iload_n 1, 1) := by decide +kernel
theorem dX1_solve_72 : decode cX1_solve 72 = .ok (.aaload, 1) := by decide +kernel
theorem dX1_solve_73 : decode cX1_solve 73 = .ok (.iload_n 1, 1) := by decide +kernel
theorem dX1_solve_74 : decode cX1_solve 74 = .ok (.laload, 1) := by decide +kernel
theorem dX1_solve_75 : decode cX1_solve 75 = .ok (.lconst 0, 1) := by decide +kernel
theorem dX1_solve_76 : decode cX1_solve 76 = .ok (.lcmp, 1) := by decide +kernel
theorem dX1_solve_77 : decode cX1_solve 77 = .ok (.ifCond .le 7, 3) := by decide +kernel
theorem dX1_solve_80 : decode cX1_solve 80 = .ok (.iconst 1, 1) := by decide +kernel
theorem dX1_solve_81 : decode cX1_solve 81 = .ok (.goto 4, 3) := by decide +kernel
theorem dX1_solve_84 : decode cX1_solve 84 = .ok (.iconst 0, 1) := by decide +kernel
theorem dX1_solve_85 : decode cX1_solve 85 = .ok (.bastore, 1) := by decide +kernel
theorem dX1_solve_86 : decode cX1_solve 86 = .ok (.aload_n 0, 1) := by decide +kernel
theorem dX1_solve_87 : decode cX1_solve 87 = .ok (.getfield 27, 3) := by decide +kernel
theorem dX1_solve_90 : decode cX1_solve 90 = .ok (.iload_n 1, 1) := by decide +kernel
theorem dX1_solve_91 : decode cX1_solve 91 = .ok (.baload, 1) := by decide +kernel
theorem dX1_solve_92 : decode cX1_solve 92 = .ok (.ifCond .eq 18, 3) := by decide +kernel
theorem dX1_solve_95 : decode cX1_solve 95 = .ok (.aload_n 0, 1) := by decide +kernel
theorem dX1_solve_96 : decode cX1_solve 96 = .ok (.iload_n 1, 1) := by decide +kernel
theorem dX1_solve_97 : decode cX1_solve 97 = .ok (.invokevirtual 38, 3) := by decide +kernel
theorem dX1_solve_100 : decode cX1_solve 100 = .ok (.aload_n 0, 1) := by decide +kernel
theorem dX1_solve_101 : decode cX1_solve 101 = .ok (.dup, 1) := by decide +kernel
theorem dX1_solve_102 : decode cX1_solve 102 = .ok (.getfield 15, 3) := by decide +kernel
theorem dX1_solve_105 : decode cX1_solve 105 = .ok (.iconst 1, 1) := by decide +kernel
theorem dX1_solve_106 : decode cX1_solve 106 = .ok (.iadd, 1) := by decide +kernel
theorem dX1_solve_107 : decode cX1_solve 107 = .ok (.putfield 15, 3) := by decide +kernel
theorem dX1_solve_110 : decode cX1_solve 110 = .ok (.iinc 1 1, 3) := by decide +kernel
theorem dX1_solve_113 : decode cX1_solve 113 = .ok (.goto (-57), 3) := by decide +kernel
theorem dX1_solve_116 : decode cX1_solve 116 = .ok (.return_, 1) := by decide +kernel
theorem dX1_sweep_0 : decode cX1_sweep 0 = .ok (.aload_n 0, 1) := by decide +kernel
theorem dX1_sweep_1 : decode cX1_sweep 1 = .ok (.getfield 11, 3) := by decide +kernel
theorem dX1_sweep_4 : decode cX1_sweep 4 = .ok (.lconst 0, 1) := by decide +kernel
theorem dX1_sweep_5 : decode cX1_sweep 5 = .ok (.lcmp, 1) := by decide +kernel
theorem dX1_sweep_6 : decode cX1_sweep 6 = .ok (.ifCond .gt 4, 3) := by decide +kernel
theorem dX1_sweep_9 : decode cX1_sweep 9 = .ok (.return_, 1) := by decide +kernel
theorem dX1_sweep_10 : decode cX1_sweep 10 = .ok (.aload_n 0, 1) := by decide +kernel
theorem dX1_sweep_11 : decode cX1_sweep 11 = .ok (.getfield 24, 3) := by decide +kernel
theorem dX1_sweep_14 : decode cX1_sweep 14 = .ok (.iload_n 1, 1) := by decide +kernel
theorem dX1_sweep_15 : decode cX1_sweep 15 = .ok (.aaload, 1) := by decide +kernel
theorem dX1_sweep_16 : decode cX1_sweep 16 = .ok (.iload_n 1, 1) := by decide +kernel
theorem dX1_sweep_17 : decode cX1_sweep 17 = .ok (.laload, 1) := by decide +kernel
theorem dX1_sweep_18 : decode cX1_sweep 18 = .ok (.lstore_n 2, 1) := by decide +kernel
theorem dX1_sweep_19 : decode cX1_sweep 19 = .ok (.iconst 0, 1) := by decide +kernel
theorem dX1_sweep_20 : decode cX1_sweep 20 = .ok (.istore 4, 2) := by decide +kernel
theorem dX1_sweep_22 : decode cX1_sweep 22 = .ok (.iload 4, 2) := by decide +kernel
theorem dX1_sweep_24 : decode cX1_sweep 24 = .ok (.bipush 8, 2) := by decide +kernel
theorem dX1_sweep_26 : decode cX1_sweep 26 = .ok (.if_icmp .ge 88, 3) := by decide +kernel
theorem dX1_sweep_29 : decode cX1_sweep 29 = .ok (.iconst 0, 1) := by decide +kernel
theorem dX1_sweep_30 : decode cX1_sweep 30 = .ok (.istore 5, 2) := by decide +kernel
theorem dX1_sweep_32 : decode cX1_sweep 32 = .ok (.iload 5, 2) := by decide +kernel
theorem dX1_sweep_34 : decode cX1_sweep 34 = .ok (.bipush 8, 2) := by decide +kernel
theorem dX1_sweep_36 : decode cX1_sweep 36 = .ok (.if_icmp .ge 72, 3) := by decide +kernel
theorem dX1_sweep_39 : decode cX1_sweep 39 = .ok (.iload 4, 2) := by decide +kernel
theorem dX1_sweep_41 : decode cX1_sweep 41 = .ok (.iload_n 1, 1) := by decide +kernel
theorem dX1_sweep_42 : decode cX1_sweep 42 = .ok (.if_icmp .eq 60, 3) := by decide +kernel
theorem dX1_sweep_45 : decode cX1_sweep 45 = .ok (.iload 5, 2) := by decide +kernel
theorem dX1_sweep_47 : decode cX1_sweep 47 = .ok (.iload_n 1, 1) := by decide +kernel
theorem dX1_sweep_48 : decode cX1_sweep 48 = .ok (.if_icmp .eq 54, 3) := by decide +kernel
theorem dX1_sweep_51 : decode cX1_sweep 51 = .ok (.aload_n 0, 1) := by decide +kernel
theorem dX1_sweep_52 : decode cX1_sweep 52 = .ok (.getfield 24, 3) := by decide +kernel
theorem dX1_sweep_55 : decode cX1_sweep 55 = .ok (.iload 4, 2) := by decide +kernel
theorem dX1_sweep_57 : decode cX1_sweep 57 = .ok (.aaload, 1) := by decide +kernel
theorem dX1_sweep_58 : decode cX1_sweep 58 = .ok (.iload_n 1, 1) := by decide +kernel
theorem dX1_sweep_59 : decode cX1_sweep 59 = .ok (.laload, 1) := by decide +kernel
theorem dX1_sweep_60 : decode cX1_sweep 60 = .ok (.aload_n 0, 1) := by decide +kernel
theorem dX1_sweep_61 : decode cX1_sweep 61 = .ok (.getfield 24, 3) := by decide +kernel
theorem dX1_sweep_64 : decode cX1_sweep 64 = .ok (.iload_n 1, 1) := by decide +kernel
theorem dX1_sweep_65 : decode cX1_sweep 65 = .ok (.aaload, 1) := by decide +kernel
theorem dX1_sweep_66 : decode cX1_sweep 66 = .ok (.iload 5, 2) := by decide +kernel
theorem dX1_sweep_68 : decode cX1_sweep 68 = .ok (.laload, 1) := by decide +kernel
theorem dX1_sweep_69 : decode cX1_sweep 69 = .ok (.lmul, 1) := by decide +kernel
theorem dX1_sweep_70 : decode cX1_sweep 70 = .ok (.lstore 6, 2) := by decide +kernel
theorem dX1_sweep_72 : decode cX1_sweep 72 = .ok (.aload_n 0, 1) := by decide +kernel
theorem dX1_sweep_73 : decode cX1_sweep 73 = .ok (.getfield 24, 3) := by decide +kernel
theorem dX1_sweep_76 : decode cX1_sweep 76 = .ok (.iload 4, 2) := by decide +kernel
theorem dX1_sweep_78 : decode cX1_sweep 78 = .ok (.aaload, 1) := by decide +kernel
theorem dX1_sweep_79 : decode cX1_sweep 79 = .ok (.iload 5, 2) := by decide +kernel
theorem dX1_sweep_81 : decode cX1_sweep 81 = .ok (.lload_n 2, 1) := by decide +kernel
theorem dX1_sweep_82 : decode cX1_sweep 82 = .ok (.aload_n 0, 1) := by decide +kernel
theorem dX1_sweep_83 : decode cX1_sweep 83 = .ok (.getfield 24, 3) := by decide +kernel
theorem dX1_sweep_86 : decode cX1_sweep 86 = .ok (.iload 4, 2) := by decide +kernel
theorem dX1_sweep_88 : decode cX1_sweep 88 = .ok (.aaload, 1) := by decide +kernel
theorem dX1_sweep_89 : decode cX1_sweep 89 = .ok (.iload 5, 2) := by decide +kernel
theorem dX1_sweep_91 : decode cX1_sweep 91 = .ok (.laload, 1) := by decide +kernel
theorem dX1_sweep_92 : decode cX1_sweep 92 = .ok (.lmul, 1) := by decide +kernel
theorem dX1_sweep_93 : decode cX1_sweep 93 = .ok (.lload 6, 2) := by decide +kernel
theorem dX1_sweep_95 : decode cX1_sweep 95 = .ok (.lsub, 1) := by decide +kernel
theorem dX1_sweep_96 : decode cX1_sweep 96 = .ok (.aload_n 0, 1) := by decide +kernel
theorem dX1_sweep_97 : decode cX1_sweep 97 = .ok (.getfield 11, 3) := by decide +kernel
theorem dX1_sweep_100 : decode cX1_sweep 100 = .ok (.ldiv, 1) := by decide +kernel
theorem dX1_sweep_101 : decode cX1_sweep 101 = .ok (.lastore, 1) := by decide +kernel
theorem dX1_sweep_102 : decode cX1_sweep 102 = .ok (.iinc 5 1, 3) := by decide +kernel
theorem dX1_sweep_105 : decode cX1_sweep 105 = .ok (.goto (-73), 3) := by decide +kernel
theorem dX1_sweep_108 : decode cX1_sweep 108 = .ok (.iinc 4 1, 3) := by decide +kernel
theorem dX1_sweep_111 : decode cX1_sweep 111 = .ok (.goto (-89), 3) := by decide +kernel
theorem dX1_sweep_114 : decode cX1_sweep 114 = .ok (.aload_n 0, 1) := by decide +kernel
theorem dX1_sweep_115 : decode cX1_sweep 115 = .ok (.getfield 24, 3) := by decide +kernel
theorem dX1_sweep_118 : decode cX1_sweep 118 = .ok (.iload_n 1, 1) := by decide +kernel
theorem dX1_sweep_119 : decode cX1_sweep 119 = .ok (.aaload, 1) := by decide +kernel
theorem dX1_sweep_120 : decode cX1_sweep 120 = .ok (.iload_n 1, 1) := by decide +kernel
theorem dX1_sweep_121 : decode cX1_sweep 121 = .ok (.aload_n 0, 1) := by decide +kernel
theorem dX1_sweep_122 : decode cX1_sweep 122 = .ok (.getfield 11, 3) := by decide +kernel
theorem dX1_sweep_125 : decode cX1_sweep 125 = .ok (.lneg, 1) := by decide +kernel
theorem dX1_sweep_126 : decode cX1_sweep 126 = .ok (.lastore, 1) := by decide +kernel
theorem dX1_sweep_127 : decode cX1_sweep 127 = .ok (.aload_n 0, 1) := by decide +kernel
theorem dX1_sweep_128 : decode cX1_sweep 128 = .ok (.lload_n 2, 1) := by decide +kernel
theorem dX1_sweep_129 : decode cX1_sweep 129 = .ok (.putfield 11, 3) := by decide +kernel
theorem dX1_sweep_132 : decode cX1_sweep 132 = .ok (.return_, 1) := by decide +kernel
theorem dX1_isKnown_0 : decode cX1_isKnown 0 = .ok (.iconst 0, 1) := by decide +kernel
theorem dX1_isKnown_1 : decode cX1_isKnown 1 = .ok (.istore_n 1, 1) := by decide +kernel
theorem dX1_isKnown_2 : decode cX1_isKnown 2 = .ok (.iload_n 1, 1) := by decide +kernel
theorem dX1_isKnown_3 : decode cX1_isKnown 3 = .ok (.bipush 7, 2) := by decide +kernel
theorem dX1_isKnown_5 : decode cX1_isKnown 5 = .ok (.if_icmp .ge 41, 3) := by decide +kernel
theorem dX1_isKnown_8 : decode cX1_isKnown 8 = .ok (.aload_n 0, 1) := by decide +kernel
theorem dX1_isKnown_9 : decode cX1_isKnown 9 = .ok (.getfield 27, 3) := by decide +kernel
theorem dX1_isKnown_12 : decode cX1_isKnown 12 = .ok (.iload_n 1, 1) := by decide +kernel
theorem dX1_isKnown_13 : decode cX1_isKnown 13 = .ok (.baload, 1) := by decide +kernel
theorem dX1_isKnown_14 : decode cX1_isKnown 14 = .ok (.ifCond .ne 26, 3) := by decide +kernel
theorem dX1_isKnown_17 : decode cX1_isKnown 17 = .ok (.aload_n 0, 1) := by decide +kernel
theorem dX1_isKnown_18 : decode cX1_isKnown 18 = .ok (.iload_n 1, 1) := by decide +kernel
theorem dX1_isKnown_19 : decode cX1_isKnown 19 = .ok (.invokevirtual 42, 3) := by decide +kernel
theorem dX1_isKnown_22 : decode cX1_isKnown 22 = .ok (.aload_n 0, 1) := by decide +kernel
theorem dX1_isKnown_23 : decode cX1_isKnown 23 = .ok (.getfield 11, 3) := by decide +kernel
theorem dX1_isKnown_26 : decode cX1_isKnown 26 = .ok (.aload_n 0, 1) := by decide +kernel
theorem dX1_isKnown_27 : decode cX1_isKnown 27 = .ok (.getfield 31, 3) := by decide +kernel
theorem dX1_isKnown_30 : decode cX1_isKnown 30 = .ok (.iload_n 1, 1) := by decide +kernel
theorem dX1_isKnown_31 : decode cX1_isKnown 31 = .ok (.iaload, 1) := by decide +kernel
theorem dX1_isKnown_32 : decode cX1_isKnown 32 = .ok (.i2l, 1) := by decide +kernel
theorem dX1_isKnown_33 : decode cX1_isKnown 33 = .ok (.lmul, 1) := by decide +kernel
theorem dX1_isKnown_34 : decode cX1_isKnown 34 = .ok (.lcmp, 1) := by decide +kernel
theorem dX1_isKnown_35 : decode cX1_isKnown 35 = .ok (.ifCond .eq 5, 3) := by decide +kernel
theorem dX1_isKnown_38 : decode cX1_isKnown 38 = .ok (.iconst 0, 1) := by decide +kernel
theorem dX1_isKnown_39 : decode cX1_isKnown 39 = .ok (.ireturn, 1) := by decide +kernel
theorem dX1_isKnown_40 : decode cX1_isKnown 40 = .ok (.iinc 1 1, 3) := by decide +kernel
theorem dX1_isKnown_43 : decode cX1_isKnown 43 = .ok (.goto (-41), 3) := by decide +kernel
theorem dX1_isKnown_46 : decode cX1_isKnown 46 = .ok (.iconst 1, 1) := by decide +kernel
theorem dX1_isKnown_47 : decode cX1_isKnown 47 = .ok (.ireturn, 1) := by decide +kernel
theorem dX1_scaledValue_0 : decode cX1_scaledValue 0 = .ok (.aload_n 0, 1) := by decide +kernel
theorem dX1_scaledValue_1 : decode cX1_scaledValue 1 = .ok (.bipush 7, 2) := by decide +kernel
theorem dX1_scaledValue_3 : decode cX1_scaledValue 3 = .ok (.invokevirtual 42, 3) := by decide +kernel
theorem dX1_scaledValue_6 : decode cX1_scaledValue 6 = .ok (.lreturn, 1) := by decide +kernel
theorem dX1_scaledDoubt_0 : decode cX1_scaledDoubt 0 = .ok (.lconst 0, 1) := by decide +kernel
theorem dX1_scaledDoubt_1 : decode cX1_scaledDoubt 1 = .ok (.lstore_n 1, 1) := by decide +kernel
theorem dX1_scaledDoubt_2 : decode cX1_scaledDoubt 2 = .ok (.iconst 0, 1) := by decide +kernel
theorem dX1_scaledDoubt_3 : decode cX1_scaledDoubt 3 = .ok (.istore_n 3, 1) := by decide +kernel
theorem dX1_scaledDoubt_4 : decode cX1_scaledDoubt 4 = .ok (.iload_n 3, 1) := by decide +kernel
theorem dX1_scaledDoubt_5 : decode cX1_scaledDoubt 5 = .ok (.bipush 7, 2) := by decide +kernel
theorem dX1_scaledDoubt_7 : decode cX1_scaledDoubt 7 = .ok (.if_icmp .ge 43, 3) := by decide +kernel
theorem dX1_scaledDoubt_10 : decode cX1_scaledDoubt 10 = .ok (.aload_n 0, 1) := by decide +kernel
theorem dX1_scaledDoubt_11 : decode cX1_scaledDoubt 11 = .ok (.getfield 27, 3) := by decide +kernel
theorem dX1_scaledDoubt_14 : decode cX1_scaledDoubt 14 = .ok (.iload_n 3, 1) := by decide +kernel
theorem dX1_scaledDoubt_15 : decode cX1_scaledDoubt 15 = .ok (.baload, 1) := by decide +kernel
theorem dX1_scaledDoubt_16 : decode cX1_scaledDoubt 16 = .ok (.ifCond .eq 28, 3) := by decide +kernel
theorem dX1_scaledDoubt_19 : decode cX1_scaledDoubt 19 = .ok (.aload_n 0, 1) := by decide +kernel
theorem dX1_scaledDoubt_20 : decode cX1_scaledDoubt 20 = .ok (.getfield 31, 3) := by decide +kernel
theorem dX1_scaledDoubt_23 : decode cX1_scaledDoubt 23 = .ok (.iload_n 3, 1) := by decide +kernel
theorem dX1_scaledDoubt_24 : decode cX1_scaledDoubt 24 = .ok (.iaload, 1) := by decide +kernel
theorem dX1_scaledDoubt_25 : decode cX1_scaledDoubt 25 = .ok (.ifCond .eq 19, 3) := by decide +kernel
theorem dX1_scaledDoubt_28 : decode cX1_scaledDoubt 28 = .ok (.lload_n 1, 1) := by decide +kernel
theorem dX1_scaledDoubt_29 : decode cX1_scaledDoubt 29 = .ok (.aload_n 0, 1) := by decide +kernel
theorem dX1_scaledDoubt_30 : decode cX1_scaledDoubt 30 = .ok (.getfield 31, 3) := by decide +kernel
theorem dX1_scaledDoubt_33 : decode cX1_scaledDoubt 33 = .ok (.iload_n 3, 1) := by decide +kernel
theorem dX1_scaledDoubt_34 : decode cX1_scaledDoubt 34 = .ok (.iaload, 1) := by decide +kernel
theorem dX1_scaledDoubt_35 : decode cX1_scaledDoubt 35 = .ok (.i2l, 1) := by decide +kernel
theorem dX1_scaledDoubt_36 : decode cX1_scaledDoubt 36 = .ok (.aload_n 0, 1) := by decide +kernel
theorem dX1_scaledDoubt_37 : decode cX1_scaledDoubt 37 = .ok (.iload_n 3, 1) := by decide +kernel
theorem dX1_scaledDoubt_38 : decode cX1_scaledDoubt 38 = .ok (.invokevirtual 42, 3) := by decide +kernel
theorem dX1_scaledDoubt_41 : decode cX1_scaledDoubt 41 = .ok (.lmul, 1) := by decide +kernel
theorem dX1_scaledDoubt_42 : decode cX1_scaledDoubt 42 = .ok (.lsub, 1) := by decide +kernel
theorem dX1_scaledDoubt_43 : decode cX1_scaledDoubt 43 = .ok (.lstore_n 1, 1) := by decide +kernel
theorem dX1_scaledDoubt_44 : decode cX1_scaledDoubt 44 = .ok (.iinc 3 1, 3) := by decide +kernel
theorem dX1_scaledDoubt_47 : decode cX1_scaledDoubt 47 = .ok (.goto (-43), 3) := by decide +kernel
theorem dX1_scaledDoubt_50 : decode cX1_scaledDoubt 50 = .ok (.lload_n 1, 1) := by decide +kernel
theorem dX1_scaledDoubt_51 : decode cX1_scaledDoubt 51 = .ok (.lreturn, 1) := by decide +kernel
theorem dX1_scaledSum_0 : decode cX1_scaledSum 0 = .ok (.aload_n 0, 1) := by decide +kernel
theorem dX1_scaledSum_1 : decode cX1_scaledSum 1 = .ok (.getfield 24, 3) := by decide +kernel
theorem dX1_scaledSum_4 : decode cX1_scaledSum 4 = .ok (.bipush 7, 2) := by decide +kernel
theorem dX1_scaledSum_6 : decode cX1_scaledSum 6 = .ok (.aaload, 1) := by decide +kernel
theorem dX1_scaledSum_7 : decode cX1_scaledSum 7 = .ok (.bipush 7, 2) := by decide +kernel
theorem dX1_scaledSum_9 : decode cX1_scaledSum 9 = .ok (.laload, 1) := by decide +kernel
theorem dX1_scaledSum_10 : decode cX1_scaledSum 10 = .ok (.lreturn, 1) := by decide +kernel
theorem dX1_sweptTimes_0 : decode cX1_sweptTimes 0 = .ok (.lconst 0, 1) := by decide +kernel
theorem dX1_sweptTimes_1 : decode cX1_sweptTimes 1 = .ok (.lstore_n 2, 1) := by decide +kernel
theorem dX1_sweptTimes_2 : decode cX1_sweptTimes 2 = .ok (.iconst 0, 1) := by decide +kernel
theorem dX1_sweptTimes_3 : decode cX1_sweptTimes 3 = .ok (.istore 4, 2) := by decide +kernel
theorem dX1_sweptTimes_5 : decode cX1_sweptTimes 5 = .ok (.iload 4, 2) := by decide +kernel
theorem dX1_sweptTimes_7 : decode cX1_sweptTimes 7 = .ok (.bipush 7, 2) := by decide +kernel
theorem dX1_sweptTimes_9 : decode cX1_sweptTimes 9 = .ok (.if_icmp .ge 40, 3) := by decide +kernel
theorem dX1_sweptTimes_12 : decode cX1_sweptTimes 12 = .ok (.aload_n 0, 1) := by decide +kernel
theorem dX1_sweptTimes_13 : decode cX1_sweptTimes 13 = .ok (.getfield 27, 3) := by decide +kernel
theorem dX1_sweptTimes_16 : decode cX1_sweptTimes 16 = .ok (.iload 4, 2) := by decide +kernel
theorem dX1_sweptTimes_18 : decode cX1_sweptTimes 18 = .ok (.baload, 1) := by decide +kernel
theorem dX1_sweptTimes_19 : decode cX1_sweptTimes 19 = .ok (.ifCond .eq 24, 3) := by decide +kernel
theorem dX1_sweptTimes_22 : decode cX1_sweptTimes 22 = .ok (.lload_n 2, 1) := by decide +kernel
theorem dX1_sweptTimes_23 : decode cX1_sweptTimes 23 = .ok (.aload_n 0, 1) := by decide +kernel
theorem dX1_sweptTimes_24 : decode cX1_sweptTimes 24 = .ok (.getfield 31, 3) := by decide +kernel
theorem dX1_sweptTimes_27 : decode cX1_sweptTimes 27 = .ok (.iload 4, 2) := by decide +kernel
theorem dX1_sweptTimes_29 : decode cX1_sweptTimes 29 = .ok (.iaload, 1) := by decide +kernel
theorem dX1_sweptTimes_30 : decode cX1_sweptTimes 30 = .ok (.i2l, 1) := by decide +kernel
theorem dX1_sweptTimes_31 : decode cX1_sweptTimes 31 = .ok (.aload_n 0, 1) := by decide +kernel
theorem dX1_sweptTimes_32 : decode cX1_sweptTimes 32 = .ok (.getfield 24, 3) := by decide +kernel
theorem dX1_sweptTimes_35 : decode cX1_sweptTimes 35 = .ok (.iload 4, 2) := by decide +kernel
theorem dX1_sweptTimes_37 : decode cX1_sweptTimes 37 = .ok (.aaload, 1) := by decide +kernel
theorem dX1_sweptTimes_38 : decode cX1_sweptTimes 38 = .ok (.iload_n 1, 1) := by decide +kernel
theorem dX1_sweptTimes_39 : decode cX1_sweptTimes 39 = .ok (.laload, 1) := by decide +kernel
theorem dX1_sweptTimes_40 : decode cX1_sweptTimes 40 = .ok (.lmul, 1) := by decide +kernel
theorem dX1_sweptTimes_41 : decode cX1_sweptTimes 41 = .ok (.ladd, 1) := by decide +kernel
theorem dX1_sweptTimes_42 : decode cX1_sweptTimes 42 = .ok (.lstore_n 2, 1) := by decide +kernel
theorem dX1_sweptTimes_43 : decode cX1_sweptTimes 43 = .ok (.iinc 4 1, 3) := by decide +kernel
theorem dX1_sweptTimes_46 : decode cX1_sweptTimes 46 = .ok (.goto (-41), 3) := by decide +kernel
theorem dX1_sweptTimes_49 : decode cX1_sweptTimes 49 = .ok (.lload_n 2, 1) := by decide +kernel
theorem dX1_sweptTimes_50 : decode cX1_sweptTimes 50 = .ok (.lreturn, 1) := by decide +kernel
theorem dX1_couplesKnown_0 : decode cX1_couplesKnown 0 = .ok (.iconst 0, 1) := by decide +kernel
theorem dX1_couplesKnown_1 : decode cX1_couplesKnown 1 = .ok (.istore_n 2, 1) := by decide +kernel
theorem dX1_couplesKnown_2 : decode cX1_couplesKnown 2 = .ok (.iconst 0, 1) := by decide +kernel
theorem dX1_couplesKnown_3 : decode cX1_couplesKnown 3 = .ok (.istore_n 3, 1) := by decide +kernel
theorem dX1_couplesKnown_4 : decode cX1_couplesKnown 4 = .ok (.iload_n 3, 1) := by decide +kernel
theorem dX1_couplesKnown_5 : decode cX1_couplesKnown 5 = .ok (.iload_n 1, 1) := by decide +kernel
theorem dX1_couplesKnown_6 : decode cX1_couplesKnown 6 = .ok (.if_icmp .ge 49, 3) := by decide +kernel
theorem dX1_couplesKnown_9 : decode cX1_couplesKnown 9 = .ok (.iload_n 3, 1) := by decide +kernel
theorem dX1_couplesKnown_10 : decode cX1_couplesKnown 10 = .ok (.iconst 1, 1) := by decide +kernel
theorem dX1_couplesKnown_11 : decode cX1_couplesKnown 11 = .ok (.iadd, 1) := by decide +kernel
theorem dX1_couplesKnown_12 : decode cX1_couplesKnown 12 = .ok (.istore 4, 2) := by decide +kernel
theorem dX1_couplesKnown_14 : decode cX1_couplesKnown 14 = .ok (.iload 4, 2) := by decide +kernel
theorem dX1_couplesKnown_16 : decode cX1_couplesKnown 16 = .ok (.iload_n 1, 1) := by decide +kernel
theorem dX1_couplesKnown_17 : decode cX1_couplesKnown 17 = .ok (.if_icmp .ge 32, 3) := by decide +kernel
theorem dX1_couplesKnown_20 : decode cX1_couplesKnown 20 = .ok (.aload_n 0, 1) := by decide +kernel
theorem dX1_couplesKnown_21 : decode cX1_couplesKnown 21 = .ok (.iconst 1, 1) := by decide +kernel
theorem dX1_couplesKnown_22 : decode cX1_couplesKnown 22 = .ok (.iload_n 3, 1) := by decide +kernel
theorem dX1_couplesKnown_23 : decode cX1_couplesKnown 23 = .ok (.ishl, 1) := by decide +kernel
theorem dX1_couplesKnown_24 : decode cX1_couplesKnown 24 = .ok (.iconst 1, 1) := by decide +kernel
theorem dX1_couplesKnown_25 : decode cX1_couplesKnown 25 = .ok (.iload 4, 2) := by decide +kernel
theorem dX1_couplesKnown_27 : decode cX1_couplesKnown 27 = .ok (.ishl, 1) := by decide +kernel
theorem dX1_couplesKnown_28 : decode cX1_couplesKnown 28 = .ok (.iconst 0, 1) := by decide +kernel
theorem dX1_couplesKnown_29 : decode cX1_couplesKnown 29 = .ok (.iconst 0, 1) := by decide +kernel
theorem dX1_couplesKnown_30 : decode cX1_couplesKnown 30 = .ok (.invokevirtual 46, 3) := by decide +kernel
theorem dX1_couplesKnown_33 : decode cX1_couplesKnown 33 = .ok (.aload_n 0, 1) := by decide +kernel
theorem dX1_couplesKnown_34 : decode cX1_couplesKnown 34 = .ok (.invokevirtual 50, 3) := by decide +kernel
theorem dX1_couplesKnown_37 : decode cX1_couplesKnown 37 = .ok (.ifCond .eq 6, 3) := by decide +kernel
theorem dX1_couplesKnown_40 : decode cX1_couplesKnown 40 = .ok (.iinc 2 1, 3) := by decide +kernel
theorem dX1_couplesKnown_43 : decode cX1_couplesKnown 43 = .ok (.iinc 4 1, 3) := by decide +kernel
theorem dX1_couplesKnown_46 : decode cX1_couplesKnown 46 = .ok (.goto (-32), 3) := by decide +kernel
theorem dX1_couplesKnown_49 : decode cX1_couplesKnown 49 = .ok (.iinc 3 1, 3) := by decide +kernel
theorem dX1_couplesKnown_52 : decode cX1_couplesKnown 52 = .ok (.goto (-48), 3) := by decide +kernel
theorem dX1_couplesKnown_55 : decode cX1_couplesKnown 55 = .ok (.iload_n 2, 1) := by decide +kernel
theorem dX1_couplesKnown_56 : decode cX1_couplesKnown 56 = .ok (.ireturn, 1) := by decide +kernel
theorem dX1_scaledDoubts_0 : decode cX1_scaledDoubts 0 = .ok (.lconst 0, 1) := by decide +kernel
theorem dX1_scaledDoubts_1 : decode cX1_scaledDoubts 1 = .ok (.lstore_n 2, 1) := by decide +kernel
theorem dX1_scaledDoubts_2 : decode cX1_scaledDoubts 2 = .ok (.iconst 0, 1) := by decide +kernel
theorem dX1_scaledDoubts_3 : decode cX1_scaledDoubts 3 = .ok (.istore 4, 2) := by decide +kernel
theorem dX1_scaledDoubts_5 : decode cX1_scaledDoubts 5 = .ok (.iload 4, 2) := by decide +kernel
theorem dX1_scaledDoubts_7 : decode cX1_scaledDoubts 7 = .ok (.iload_n 1, 1) := by decide +kernel
theorem dX1_scaledDoubts_8 : decode cX1_scaledDoubts 8 = .ok (.if_icmp .ge 55, 3) := by decide +kernel
theorem dX1_scaledDoubts_11 : decode cX1_scaledDoubts 11 = .ok (.iload 4, 2) := by decide +kernel
theorem dX1_scaledDoubts_13 : decode cX1_scaledDoubts 13 = .ok (.iconst 1, 1) := by decide +kernel
theorem dX1_scaledDoubts_14 : decode cX1_scaledDoubts 14 = .ok (.iadd, 1) := by decide +kernel
theorem dX1_scaledDoubts_15 : decode cX1_scaledDoubts 15 = .ok (.istore 5, 2) := by decide +kernel
theorem dX1_scaledDoubts_17 : decode cX1_scaledDoubts 17 = .ok (.iload 5, 2) := by decide +kernel
theorem dX1_scaledDoubts_19 : decode cX1_scaledDoubts 19 = .ok (.iload_n 1, 1) := by decide +kernel
theorem dX1_scaledDoubts_20 : decode cX1_scaledDoubts 20 = .ok (.if_icmp .ge 37, 3) := by decide +kernel
theorem dX1_scaledDoubts_23 : decode cX1_scaledDoubts 23 = .ok (.aload_n 0, 1) := by decide +kernel
theorem dX1_scaledDoubts_24 : decode cX1_scaledDoubts 24 = .ok (.iconst 1, 1) := by decide +kernel
theorem dX1_scaledDoubts_25 : decode cX1_scaledDoubts 25 = .ok (.iload 4, 2) := by decide +kernel
theorem dX1_scaledDoubts_27 : decode cX1_scaledDoubts 27 = .ok (.ishl, 1) := by decide +kernel
theorem dX1_scaledDoubts_28 : decode cX1_scaledDoubts 28 = .ok (.iconst 1, 1) := by decide +kernel
theorem dX1_scaledDoubts_29 : decode cX1_scaledDoubts 29 = .ok (.iload 5, 2) := by decide +kernel
theorem dX1_scaledDoubts_31 : decode cX1_scaledDoubts 31 = .ok (.ishl, 1) := by decide +kernel
theorem dX1_scaledDoubts_32 : decode cX1_scaledDoubts 32 = .ok (.iconst 0, 1) := by decide +kernel
theorem dX1_scaledDoubts_33 : decode cX1_scaledDoubts 33 = .ok (.iconst 0, 1) := by decide +kernel
theorem dX1_scaledDoubts_34 : decode cX1_scaledDoubts 34 = .ok (.invokevirtual 46, 3) := by decide +kernel
theorem dX1_scaledDoubts_37 : decode cX1_scaledDoubts 37 = .ok (.aload_n 0, 1) := by decide +kernel
theorem dX1_scaledDoubts_38 : decode cX1_scaledDoubts 38 = .ok (.invokevirtual 50, 3) := by decide +kernel
theorem dX1_scaledDoubts_41 : decode cX1_scaledDoubts 41 = .ok (.ifCond .eq 10, 3) := by decide +kernel
theorem dX1_scaledDoubts_44 : decode cX1_scaledDoubts 44 = .ok (.lload_n 2, 1) := by decide +kernel
theorem dX1_scaledDoubts_45 : decode cX1_scaledDoubts 45 = .ok (.aload_n 0, 1) := by decide +kernel
theorem dX1_scaledDoubts_46 : decode cX1_scaledDoubts 46 = .ok (.invokevirtual 54, 3) := by decide +kernel
theorem dX1_scaledDoubts_49 : decode cX1_scaledDoubts 49 = .ok (.ladd, 1) := by decide +kernel
theorem dX1_scaledDoubts_50 : decode cX1_scaledDoubts 50 = .ok (.lstore_n 2, 1) := by decide +kernel
theorem dX1_scaledDoubts_51 : decode cX1_scaledDoubts 51 = .ok (.iinc 5 1, 3) := by decide +kernel
theorem dX1_scaledDoubts_54 : decode cX1_scaledDoubts 54 = .ok (.goto (-37), 3) := by decide +kernel
theorem dX1_scaledDoubts_57 : decode cX1_scaledDoubts 57 = .ok (.iinc 4 1, 3) := by decide +kernel
theorem dX1_scaledDoubts_60 : decode cX1_scaledDoubts 60 = .ok (.goto (-55), 3) := by decide +kernel
theorem dX1_scaledDoubts_63 : decode cX1_scaledDoubts 63 = .ok (.lload_n 2, 1) := by decide +kernel
theorem dX1_scaledDoubts_64 : decode cX1_scaledDoubts 64 = .ok (.lreturn, 1) := by decide +kernel
