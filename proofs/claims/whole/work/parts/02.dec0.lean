theorem dX0_init_0 : decode cX0_init 0 = .ok (.aload_n 0, 1) := by decide +kernel
theorem dX0_init_1 : decode cX0_init 1 = .ok (.invokespecial 3, 3) := by decide +kernel
theorem dX0_init_4 : decode cX0_init 4 = .ok (.aload_n 0, 1) := by decide +kernel
theorem dX0_init_5 : decode cX0_init 5 = .ok (.bipush 7, 2) := by decide +kernel
theorem dX0_init_7 : decode cX0_init 7 = .ok (.newarray .int, 2) := by decide +kernel
theorem dX0_init_9 : decode cX0_init 9 = .ok (.putfield 9, 3) := by decide +kernel
theorem dX0_init_12 : decode cX0_init 12 = .ok (.aload_n 0, 1) := by decide +kernel
theorem dX0_init_13 : decode cX0_init 13 = .ok (.bipush 64, 2) := by decide +kernel
theorem dX0_init_15 : decode cX0_init 15 = .ok (.newarray .int, 2) := by decide +kernel
theorem dX0_init_17 : decode cX0_init 17 = .ok (.putfield 15, 3) := by decide +kernel
theorem dX0_init_20 : decode cX0_init 20 = .ok (.return_, 1) := by decide +kernel
theorem dX0_begin_0 : decode cX0_begin 0 = .ok (.aload_n 0, 1) := by decide +kernel
theorem dX0_begin_1 : decode cX0_begin 1 = .ok (.getfield 9, 3) := by decide +kernel
theorem dX0_begin_4 : decode cX0_begin 4 = .ok (.iconst 0, 1) := by decide +kernel
theorem dX0_begin_5 : decode cX0_begin 5 = .ok (.invokestatic 18, 3) := by decide +kernel
theorem dX0_begin_8 : decode cX0_begin 8 = .ok (.aload_n 0, 1) := by decide +kernel
theorem dX0_begin_9 : decode cX0_begin 9 = .ok (.getfield 15, 3) := by decide +kernel
theorem dX0_begin_12 : decode cX0_begin 12 = .ok (.iconst (-1), 1) := by decide +kernel
theorem dX0_begin_13 : decode cX0_begin 13 = .ok (.invokestatic 18, 3) := by decide +kernel
theorem dX0_begin_16 : decode cX0_begin 16 = .ok (.aload_n 0, 1) := by decide +kernel
theorem dX0_begin_17 : decode cX0_begin 17 = .ok (.iconst 0, 1) := by decide +kernel
theorem dX0_begin_18 : decode cX0_begin 18 = .ok (.iconst 0, 1) := by decide +kernel
theorem dX0_begin_19 : decode cX0_begin 19 = .ok (.invokevirtual 24, 3) := by decide +kernel
theorem dX0_begin_22 : decode cX0_begin 22 = .ok (.aload_n 0, 1) := by decide +kernel
theorem dX0_begin_23 : decode cX0_begin 23 = .ok (.iconst 0, 1) := by decide +kernel
theorem dX0_begin_24 : decode cX0_begin 24 = .ok (.putfield 28, 3) := by decide +kernel
theorem dX0_begin_27 : decode cX0_begin 27 = .ok (.aload_n 0, 1) := by decide +kernel
theorem dX0_begin_28 : decode cX0_begin 28 = .ok (.iconst (-1), 1) := by decide +kernel
theorem dX0_begin_29 : decode cX0_begin 29 = .ok (.putfield 32, 3) := by decide +kernel
theorem dX0_begin_32 : decode cX0_begin 32 = .ok (.aload_n 0, 1) := by decide +kernel
theorem dX0_begin_33 : decode cX0_begin 33 = .ok (.iconst 0, 1) := by decide +kernel
theorem dX0_begin_34 : decode cX0_begin 34 = .ok (.putfield 35, 3) := by decide +kernel
theorem dX0_begin_37 : decode cX0_begin 37 = .ok (.aload_n 0, 1) := by decide +kernel
theorem dX0_begin_38 : decode cX0_begin 38 = .ok (.iconst 0, 1) := by decide +kernel
theorem dX0_begin_39 : decode cX0_begin 39 = .ok (.putfield 38, 3) := by decide +kernel
theorem dX0_begin_42 : decode cX0_begin 42 = .ok (.return_, 1) := by decide +kernel
theorem dX0_copyFrom_0 : decode cX0_copyFrom 0 = .ok (.aload_n 1, 1) := by decide +kernel
theorem dX0_copyFrom_1 : decode cX0_copyFrom 1 = .ok (.getfield 9, 3) := by decide +kernel
theorem dX0_copyFrom_4 : decode cX0_copyFrom 4 = .ok (.iconst 0, 1) := by decide +kernel
theorem dX0_copyFrom_5 : decode cX0_copyFrom 5 = .ok (.aload_n 0, 1) := by decide +kernel
theorem dX0_copyFrom_6 : decode cX0_copyFrom 6 = .ok (.getfield 9, 3) := by decide +kernel
theorem dX0_copyFrom_9 : decode cX0_copyFrom 9 = .ok (.iconst 0, 1) := by decide +kernel
theorem dX0_copyFrom_10 : decode cX0_copyFrom 10 = .ok (.bipush 7, 2) := by decide +kernel
theorem dX0_copyFrom_12 : decode cX0_copyFrom 12 = .ok (.invokestatic 41, 3) := by decide +kernel
theorem dX0_copyFrom_15 : decode cX0_copyFrom 15 = .ok (.aload_n 1, 1) := by decide +kernel
theorem dX0_copyFrom_16 : decode cX0_copyFrom 16 = .ok (.getfield 15, 3) := by decide +kernel
theorem dX0_copyFrom_19 : decode cX0_copyFrom 19 = .ok (.iconst 0, 1) := by decide +kernel
theorem dX0_copyFrom_20 : decode cX0_copyFrom 20 = .ok (.aload_n 0, 1) := by decide +kernel
theorem dX0_copyFrom_21 : decode cX0_copyFrom 21 = .ok (.getfield 15, 3) := by decide +kernel
theorem dX0_copyFrom_24 : decode cX0_copyFrom 24 = .ok (.iconst 0, 1) := by decide +kernel
theorem dX0_copyFrom_25 : decode cX0_copyFrom 25 = .ok (.bipush 64, 2) := by decide +kernel
theorem dX0_copyFrom_27 : decode cX0_copyFrom 27 = .ok (.invokestatic 41, 3) := by decide +kernel
theorem dX0_copyFrom_30 : decode cX0_copyFrom 30 = .ok (.aload_n 0, 1) := by decide +kernel
theorem dX0_copyFrom_31 : decode cX0_copyFrom 31 = .ok (.aload_n 1, 1) := by decide +kernel
theorem dX0_copyFrom_32 : decode cX0_copyFrom 32 = .ok (.getfield 47, 3) := by decide +kernel
theorem dX0_copyFrom_35 : decode cX0_copyFrom 35 = .ok (.putfield 47, 3) := by decide +kernel
theorem dX0_copyFrom_38 : decode cX0_copyFrom 38 = .ok (.aload_n 0, 1) := by decide +kernel
theorem dX0_copyFrom_39 : decode cX0_copyFrom 39 = .ok (.aload_n 1, 1) := by decide +kernel
theorem dX0_copyFrom_40 : decode cX0_copyFrom 40 = .ok (.getfield 50, 3) := by decide +kernel
theorem dX0_copyFrom_43 : decode cX0_copyFrom 43 = .ok (.putfield 50, 3) := by decide +kernel
theorem dX0_copyFrom_46 : decode cX0_copyFrom 46 = .ok (.aload_n 0, 1) := by decide +kernel
theorem dX0_copyFrom_47 : decode cX0_copyFrom 47 = .ok (.aload_n 1, 1) := by decide +kernel
theorem dX0_copyFrom_48 : decode cX0_copyFrom 48 = .ok (.getfield 28, 3) := by decide +kernel
theorem dX0_copyFrom_51 : decode cX0_copyFrom 51 = .ok (.putfield 28, 3) := by decide +kernel
theorem dX0_copyFrom_54 : decode cX0_copyFrom 54 = .ok (.aload_n 0, 1) := by decide +kernel
theorem dX0_copyFrom_55 : decode cX0_copyFrom 55 = .ok (.aload_n 1, 1) := by decide +kernel
theorem dX0_copyFrom_56 : decode cX0_copyFrom 56 = .ok (.getfield 53, 3) := by decide +kernel
theorem dX0_copyFrom_59 : decode cX0_copyFrom 59 = .ok (.putfield 53, 3) := by decide +kernel
theorem dX0_copyFrom_62 : decode cX0_copyFrom 62 = .ok (.aload_n 0, 1) := by decide +kernel
theorem dX0_copyFrom_63 : decode cX0_copyFrom 63 = .ok (.aload_n 1, 1) := by decide +kernel
theorem dX0_copyFrom_64 : decode cX0_copyFrom 64 = .ok (.getfield 56, 3) := by decide +kernel
theorem dX0_copyFrom_67 : decode cX0_copyFrom 67 = .ok (.putfield 56, 3) := by decide +kernel
theorem dX0_copyFrom_70 : decode cX0_copyFrom 70 = .ok (.aload_n 0, 1) := by decide +kernel
theorem dX0_copyFrom_71 : decode cX0_copyFrom 71 = .ok (.aload_n 1, 1) := by decide +kernel
theorem dX0_copyFrom_72 : decode cX0_copyFrom 72 = .ok (.getfield 32, 3) := by decide +kernel
theorem dX0_copyFrom_75 : decode cX0_copyFrom 75 = .ok (.putfield 32, 3) := by decide +kernel
theorem dX0_copyFrom_78 : decode cX0_copyFrom 78 = .ok (.aload_n 0, 1) := by decide +kernel
theorem dX0_copyFrom_79 : decode cX0_copyFrom 79 = .ok (.aload_n 1, 1) := by decide +kernel
theorem dX0_copyFrom_80 : decode cX0_copyFrom 80 = .ok (.getfield 35, 3) := by decide +kernel
theorem dX0_copyFrom_83 : decode cX0_copyFrom 83 = .ok (.putfield 35, 3) := by decide +kernel
theorem dX0_copyFrom_86 : decode cX0_copyFrom 86 = .ok (.aload_n 0, 1) := by decide +kernel
theorem dX0_copyFrom_87 : decode cX0_copyFrom 87 = .ok (.aload_n 1, 1) := by decide +kernel
theorem dX0_copyFrom_88 : decode cX0_copyFrom 88 = .ok (.getfield 38, 3) := by decide +kernel
theorem dX0_copyFrom_91 : decode cX0_copyFrom 91 = .ok (.putfield 38, 3) := by decide +kernel
theorem dX0_copyFrom_94 : decode cX0_copyFrom 94 = .ok (.return_, 1) := by decide +kernel
theorem dX0_become_0 : decode cX0_become 0 = .ok (.aload_n 0, 1) := by decide +kernel
theorem dX0_become_1 : decode cX0_become 1 = .ok (.iload_n 1, 1) := by decide +kernel
theorem dX0_become_2 : decode cX0_become 2 = .ok (.putfield 47, 3) := by decide +kernel
theorem dX0_become_5 : decode cX0_become 5 = .ok (.aload_n 0, 1) := by decide +kernel
theorem dX0_become_6 : decode cX0_become 6 = .ok (.iload_n 2, 1) := by decide +kernel
theorem dX0_become_7 : decode cX0_become 7 = .ok (.putfield 50, 3) := by decide +kernel
theorem dX0_become_10 : decode cX0_become 10 = .ok (.aload_n 0, 1) := by decide +kernel
theorem dX0_become_11 : decode cX0_become 11 = .ok (.iconst (-1), 1) := by decide +kernel
theorem dX0_become_12 : decode cX0_become 12 = .ok (.putfield 53, 3) := by decide +kernel
theorem dX0_become_15 : decode cX0_become 15 = .ok (.aload_n 0, 1) := by decide +kernel
theorem dX0_become_16 : decode cX0_become 16 = .ok (.iconst (-1), 1) := by decide +kernel
theorem dX0_become_17 : decode cX0_become 17 = .ok (.putfield 56, 3) := by decide +kernel
theorem dX0_become_20 : decode cX0_become 20 = .ok (.return_, 1) := by decide +kernel
theorem dX0_spans_0 : decode cX0_spans 0 = .ok (.aload_n 0, 1) := by decide +kernel
theorem dX0_spans_1 : decode cX0_spans 1 = .ok (.getfield 53, 3) := by decide +kernel
theorem dX0_spans_4 : decode cX0_spans 4 = .ok (.iconst (-1), 1) := by decide +kernel
theorem dX0_spans_5 : decode cX0_spans 5 = .ok (.if_icmp .eq 23, 3) := by decide +kernel
theorem dX0_spans_8 : decode cX0_spans 8 = .ok (.aload_n 0, 1) := by decide +kernel
theorem dX0_spans_9 : decode cX0_spans 9 = .ok (.getfield 53, 3) := by decide +kernel
theorem dX0_spans_12 : decode cX0_spans 12 = .ok (.iload_n 1, 1) := by decide +kernel
theorem dX0_spans_13 : decode cX0_spans 13 = .ok (.if_icmp .gt 15, 3) := by decide +kernel
theorem dX0_spans_16 : decode cX0_spans 16 = .ok (.iload_n 1, 1) := by decide +kernel
theorem dX0_spans_17 : decode cX0_spans 17 = .ok (.aload_n 0, 1) := by decide +kernel
theorem dX0_spans_18 : decode cX0_spans 18 = .ok (.getfield 56, 3) := by decide +kernel
theorem dX0_spans_21 : decode cX0_spans 21 = .ok (.if_icmp .gt 7, 3) := by decide +kernel
theorem dX0_spans_24 : decode cX0_spans 24 = .ok (.iconst 1, 1) := by decide +kernel
theorem dX0_spans_25 : decode cX0_spans 25 = .ok (.goto 4, 3) := by decide +kernel
theorem dX0_spans_28 : decode cX0_spans 28 = .ok (.iconst 0, 1) := by decide +kernel
theorem dX0_spans_29 : decode cX0_spans 29 = .ok (.ireturn, 1) := by decide +kernel
theorem dX0_hasLeft_0 : decode cX0_hasLeft 0 = .ok (.aload_n 0, 1) := by decide +kernel
theorem dX0_hasLeft_1 : decode cX0_hasLeft 1 = .ok (.getfield 32, 3) := by decide +kernel
theorem dX0_hasLeft_4 : decode cX0_hasLeft 4 = .ok (.iconst (-1), 1) := by decide +kernel
theorem dX0_hasLeft_5 : decode cX0_hasLeft 5 = .ok (.if_icmp .eq 34, 3) := by decide +kernel
theorem dX0_hasLeft_8 : decode cX0_hasLeft 8 = .ok (.aload_n 0, 1) := by decide +kernel
theorem dX0_hasLeft_9 : decode cX0_hasLeft 9 = .ok (.iload_n 1, 1) := by decide +kernel
theorem dX0_hasLeft_10 : decode cX0_hasLeft 10 = .ok (.invokevirtual 59, 3) := by decide +kernel
theorem dX0_hasLeft_13 : decode cX0_hasLeft 13 = .ok (.ifCond .eq 26, 3) := by decide +kernel
theorem dX0_hasLeft_16 : decode cX0_hasLeft 16 = .ok (.aload_n 0, 1) := by decide +kernel
theorem dX0_hasLeft_17 : decode cX0_hasLeft 17 = .ok (.aload_n 0, 1) := by decide +kernel
theorem dX0_hasLeft_18 : decode cX0_hasLeft 18 = .ok (.getfield 32, 3) := by decide +kernel
theorem dX0_hasLeft_21 : decode cX0_hasLeft 21 = .ok (.invokevirtual 59, 3) := by decide +kernel
theorem dX0_hasLeft_24 : decode cX0_hasLeft 24 = .ok (.ifCond .eq 11, 3) := by decide +kernel
theorem dX0_hasLeft_27 : decode cX0_hasLeft 27 = .ok (.aload_n 0, 1) := by decide +kernel
theorem dX0_hasLeft_28 : decode cX0_hasLeft 28 = .ok (.getfield 32, 3) := by decide +kernel
theorem dX0_hasLeft_31 : decode cX0_hasLeft 31 = .ok (.iload_n 1, 1) := by decide +kernel
theorem dX0_hasLeft_32 : decode cX0_hasLeft 32 = .ok (.if_icmp .le 7, 3) := by decide +kernel
theorem dX0_hasLeft_35 : decode cX0_hasLeft 35 = .ok (.iconst 1, 1) := by decide +kernel
theorem dX0_hasLeft_36 : decode cX0_hasLeft 36 = .ok (.goto 4, 3) := by decide +kernel
theorem dX0_hasLeft_39 : decode cX0_hasLeft 39 = .ok (.iconst 0, 1) := by decide +kernel
theorem dX0_hasLeft_40 : decode cX0_hasLeft 40 = .ok (.ireturn, 1) := by decide +kernel
theorem dX0_countWasted_0 : decode cX0_countWasted 0 = .ok (.aload_n 0, 1) := by decide +kernel
theorem dX0_countWasted_1 : decode cX0_countWasted 1 = .ok (.getfield 9, 3) := by decide +kernel
theorem dX0_countWasted_4 : decode cX0_countWasted 4 = .ok (.iconst 4, 1) := by decide +kernel
theorem dX0_countWasted_5 : decode cX0_countWasted 5 = .ok (.dup2, 1) := by decide +kernel
theorem dX0_countWasted_6 : decode cX0_countWasted 6 = .ok (.iaload, 1) := by decide +kernel
theorem dX0_countWasted_7 : decode cX0_countWasted 7 = .ok (.iconst 1, 1) := by decide +kernel
theorem dX0_countWasted_8 : decode cX0_countWasted 8 = .ok (.iadd, 1) := by decide +kernel
theorem dX0_countWasted_9 : decode cX0_countWasted 9 = .ok (.iastore, 1) := by decide +kernel
theorem dX0_countWasted_10 : decode cX0_countWasted 10 = .ok (.aload_n 0, 1) := by decide +kernel
theorem dX0_countWasted_11 : decode cX0_countWasted 11 = .ok (.getfield 47, 3) := by decide +kernel
theorem dX0_countWasted_14 : decode cX0_countWasted 14 = .ok (.iconst 5, 1) := by decide +kernel
theorem dX0_countWasted_15 : decode cX0_countWasted 15 = .ok (.if_icmp .ne 13, 3) := by decide +kernel
theorem dX0_countWasted_18 : decode cX0_countWasted 18 = .ok (.aload_n 0, 1) := by decide +kernel
theorem dX0_countWasted_19 : decode cX0_countWasted 19 = .ok (.aload_n 0, 1) := by decide +kernel
theorem dX0_countWasted_20 : decode cX0_countWasted 20 = .ok (.getfield 50, 3) := by decide +kernel
theorem dX0_countWasted_23 : decode cX0_countWasted 23 = .ok (.iconst 2, 1) := by decide +kernel
theorem dX0_countWasted_24 : decode cX0_countWasted 24 = .ok (.idiv, 1) := by decide +kernel
theorem dX0_countWasted_25 : decode cX0_countWasted 25 = .ok (.putfield 50, 3) := by decide +kernel
theorem dX0_countWasted_28 : decode cX0_countWasted 28 = .ok (.return_, 1) := by decide +kernel
theorem dX0_countSaved_0 : decode cX0_countSaved 0 = .ok (.aload_n 0, 1) := by decide +kernel
theorem dX0_countSaved_1 : decode cX0_countSaved 1 = .ok (.getfield 9, 3) := by decide +kernel
theorem dX0_countSaved_4 : decode cX0_countSaved 4 = .ok (.iconst 5, 1) := by decide +kernel
theorem dX0_countSaved_5 : decode cX0_countSaved 5 = .ok (.dup2, 1) := by decide +kernel
theorem dX0_countSaved_6 : decode cX0_countSaved 6 = .ok (.iaload, 1) := by decide +kernel
theorem dX0_countSaved_7 : decode cX0_countSaved 7 = .ok (.iconst 1, 1) := by decide +kernel
theorem dX0_countSaved_8 : decode cX0_countSaved 8 = .ok (.iadd, 1) := by decide +kernel
theorem dX0_countSaved_9 : decode cX0_countSaved 9 = .ok (.iastore, 1) := by decide +kernel
theorem dX0_countSaved_10 : decode cX0_countSaved 10 = .ok (.aload_n 0, 1) := by decide +kernel
theorem dX0_countSaved_11 : decode cX0_countSaved 11 = .ok (.getfield 47, 3) := by decide +kernel
theorem dX0_countSaved_14 : decode cX0_countSaved 14 = .ok (.iconst 5, 1) := by decide +kernel
theorem dX0_countSaved_15 : decode cX0_countSaved 15 = .ok (.if_icmp .ne 18, 3) := by decide +kernel
theorem dX0_countSaved_18 : decode cX0_countSaved 18 = .ok (.aload_n 0, 1) := by decide +kernel
theorem dX0_countSaved_19 : decode cX0_countSaved 19 = .ok (.aload_n 0, 1) := by decide +kernel
theorem dX0_countSaved_20 : decode cX0_countSaved 20 = .ok (.getfield 50, 3) := by decide +kernel
theorem dX0_countSaved_23 : decode cX0_countSaved 23 = .ok (.iconst 1, 1) := by decide +kernel
theorem dX0_countSaved_24 : decode cX0_countSaved 24 = .ok (.iadd, 1) := by decide +kernel
theorem dX0_countSaved_25 : decode cX0_countSaved 25 = .ok (.bipush 8, 2) := by decide +kernel
theorem dX0_countSaved_27 : decode cX0_countSaved 27 = .ok (.invokestatic 63, 3) := by decide +kernel
theorem dX0_countSaved_30 : decode cX0_countSaved 30 = .ok (.putfield 50, 3) := by decide +kernel
theorem dX0_countSaved_33 : decode cX0_countSaved 33 = .ok (.return_, 1) := by decide +kernel
theorem dX0_learn_0 : decode cX0_learn 0 = .ok (.aload_n 0, 1) := by decide +kernel
theorem dX0_learn_1 : decode cX0_learn 1 = .ok (.getfield 32, 3) := by decide +kernel
theorem dX0_learn_4 : decode cX0_learn 4 = .ok (.iconst (-1), 1) := by decide +kernel
theorem dX0_learn_5 : decode cX0_learn 5 = .ok (.if_icmp .eq 31, 3) := by decide +kernel
theorem dX0_learn_8 : decode cX0_learn 8 = .ok (.aload_n 0, 1) := by decide +kernel
theorem dX0_learn_9 : decode cX0_learn 9 = .ok (.getfield 15, 3) := by decide +kernel
theorem dX0_learn_12 : decode cX0_learn 12 = .ok (.aload_n 0, 1) := by decide +kernel
theorem dX0_learn_13 : decode cX0_learn 13 = .ok (.getfield 32, 3) := by decide +kernel
theorem dX0_learn_16 : decode cX0_learn 16 = .ok (.iload_n 1, 1) := by decide +kernel
theorem dX0_learn_17 : decode cX0_learn 17 = .ok (.iastore, 1) := by decide +kernel
theorem dX0_learn_18 : decode cX0_learn 18 = .ok (.aload_n 0, 1) := by decide +kernel
theorem dX0_learn_19 : decode cX0_learn 19 = .ok (.aload_n 0, 1) := by decide +kernel
theorem dX0_learn_20 : decode cX0_learn 20 = .ok (.getfield 35, 3) := by decide +kernel
theorem dX0_learn_23 : decode cX0_learn 23 = .ok (.putfield 38, 3) := by decide +kernel
theorem dX0_learn_26 : decode cX0_learn 26 = .ok (.aload_n 0, 1) := by decide +kernel
theorem dX0_learn_27 : decode cX0_learn 27 = .ok (.iload_n 1, 1) := by decide +kernel
theorem dX0_learn_28 : decode cX0_learn 28 = .ok (.aload_n 0, 1) := by decide +kernel
theorem dX0_learn_29 : decode cX0_learn 29 = .ok (.getfield 32, 3) := by decide +kernel
theorem dX0_learn_32 : decode cX0_learn 32 = .ok (.isub, 1) := by decide +kernel
theorem dX0_learn_33 : decode cX0_learn 33 = .ok (.putfield 35, 3) := by decide +kernel
theorem dX0_learn_36 : decode cX0_learn 36 = .ok (.aload_n 0, 1) := by decide +kernel
theorem dX0_learn_37 : decode cX0_learn 37 = .ok (.iload_n 1, 1) := by decide +kernel
theorem dX0_learn_38 : decode cX0_learn 38 = .ok (.putfield 32, 3) := by decide +kernel
theorem dX0_learn_41 : decode cX0_learn 41 = .ok (.return_, 1) := by decide +kernel
theorem dX0_isSteady_0 : decode cX0_isSteady 0 = .ok (.aload_n 0, 1) := by decide +kernel
theorem dX0_isSteady_1 : decode cX0_isSteady 1 = .ok (.getfield 35, 3) := by decide +kernel
theorem dX0_isSteady_4 : decode cX0_isSteady 4 = .ok (.ifCond .eq 18, 3) := by decide +kernel
theorem dX0_isSteady_7 : decode cX0_isSteady 7 = .ok (.aload_n 0, 1) := by decide +kernel
theorem dX0_isSteady_8 : decode cX0_isSteady 8 = .ok (.getfield 35, 3) := by decide +kernel
theorem dX0_isSteady_11 : decode cX0_isSteady 11 = .ok (.aload_n 0, 1) := by decide +kernel
theorem dX0_isSteady_12 : decode cX0_isSteady 12 = .ok (.getfield 38, 3) := by decide +kernel
theorem dX0_isSteady_15 : decode cX0_isSteady 15 = .ok (.if_icmp .ne 7, 3) := by decide +kernel
theorem dX0_isSteady_18 : decode cX0_isSteady 18 = .ok (.iconst 1, 1) := by decide +kernel
theorem dX0_isSteady_19 : decode cX0_isSteady 19 = .ok (.goto 4, 3) := by decide +kernel
theorem dX0_isSteady_22 : decode cX0_isSteady 22 = .ok (.iconst 0, 1) := by decide +kernel
theorem dX0_isSteady_23 : decode cX0_isSteady 23 = .ok (.ireturn, 1) := by decide +kernel
theorem dX1_init_0 : decode cX1_init 0 = .ok (.aload_n 0, 1) := by decide +kernel
theorem dX1_init_1 : decode cX1_init 1 = .ok (.invokespecial 3, 3) := by decide +kernel
theorem dX1_init_4 : decode cX1_init 4 = .ok (.aload_n 0, 1) := by decide +kernel
theorem dX1_init_5 : decode cX1_init 5 = .ok (.bipush 7, 2) := by decide +kernel
theorem dX1_init_7 : decode cX1_init 7 = .ok (.newarray .int, 2) := by decide +kernel
theorem dX1_init_9 : decode cX1_init 9 = .ok (.putfield 11, 3) := by decide +kernel
theorem dX1_init_12 : decode cX1_init 12 = .ok (.aload_n 0, 1) := by decide +kernel
theorem dX1_init_13 : decode cX1_init 13 = .ok (.bipush 24, 2) := by decide +kernel
theorem dX1_init_15 : decode cX1_init 15 = .ok (.newarray .int, 2) := by decide +kernel
theorem dX1_init_17 : decode cX1_init 17 = .ok (.putfield 15, 3) := by decide +kernel
theorem dX1_init_20 : decode cX1_init 20 = .ok (.aload_n 0, 1) := by decide +kernel
theorem dX1_init_21 : decode cX1_init 21 = .ok (.bipush 25, 2) := by decide +kernel
theorem dX1_init_23 : decode cX1_init 23 = .ok (.newarray .long, 2) := by decide +kernel
theorem dX1_init_25 : decode cX1_init 25 = .ok (.putfield 18, 3) := by decide +kernel
theorem dX1_init_28 : decode cX1_init 28 = .ok (.aload_n 0, 1) := by decide +kernel
theorem dX1_init_29 : decode cX1_init 29 = .ok (.bipush 25, 2) := by decide +kernel
theorem dX1_init_31 : decode cX1_init 31 = .ok (.newarray .long, 2) := by decide +kernel
theorem dX1_init_33 : decode cX1_init 33 = .ok (.putfield 22, 3) := by decide +kernel
theorem dX1_init_36 : decode cX1_init 36 = .ok (.return_, 1) := by decide +kernel
theorem dX1_leastStalls_0 : decode cX1_leastStalls 0 = .ok (.aload_n 0, 1) := by decide +kernel
theorem dX1_leastStalls_1 : decode cX1_leastStalls 1 = .ok (.aload_n 1, 1) := by decide +kernel
theorem dX1_leastStalls_2 : decode cX1_leastStalls 2 = .ok (.iload_n 2, 1) := by decide +kernel
theorem dX1_leastStalls_3 : decode cX1_leastStalls 3 = .ok (.invokevirtual 25, 3) := by decide +kernel
theorem dX1_leastStalls_6 : decode cX1_leastStalls 6 = .ok (.ifCond .ne 6, 3) := by decide +kernel
theorem dX1_leastStalls_9 : decode cX1_leastStalls 9 = .ok (.bipush (-103), 2) := by decide +kernel
theorem dX1_leastStalls_11 : decode cX1_leastStalls 11 = .ok (.ireturn, 1) := by decide +kernel
theorem dX1_leastStalls_12 : decode cX1_leastStalls 12 = .ok (.aload_n 0, 1) := by decide +kernel
theorem dX1_leastStalls_13 : decode cX1_leastStalls 13 = .ok (.aload_n 1, 1) := by decide +kernel
theorem dX1_leastStalls_14 : decode cX1_leastStalls 14 = .ok (.getfield 29, 3) := by decide +kernel
theorem dX1_leastStalls_17 : decode cX1_leastStalls 17 = .ok (.putfield 35, 3) := by decide +kernel
theorem dX1_leastStalls_20 : decode cX1_leastStalls 20 = .ok (.aload_n 0, 1) := by decide +kernel
theorem dX1_leastStalls_21 : decode cX1_leastStalls 21 = .ok (.aload_n 1, 1) := by decide +kernel
theorem dX1_leastStalls_22 : decode cX1_leastStalls 22 = .ok (.getfield 36, 3) := by decide +kernel
theorem dX1_leastStalls_25 : decode cX1_leastStalls 25 = .ok (.invokestatic 39, 3) := by decide +kernel
theorem dX1_leastStalls_28 : decode cX1_leastStalls 28 = .ok (.putfield 43, 3) := by decide +kernel
theorem dX1_leastStalls_31 : decode cX1_leastStalls 31 = .ok (.aload_n 0, 1) := by decide +kernel
theorem dX1_leastStalls_32 : decode cX1_leastStalls 32 = .ok (.aload_n 1, 1) := by decide +kernel
theorem dX1_leastStalls_33 : decode cX1_leastStalls 33 = .ok (.getfield 36, 3) := by decide +kernel
theorem dX1_leastStalls_36 : decode cX1_leastStalls 36 = .ok (.iconst 1, 1) := by decide +kernel
theorem dX1_leastStalls_37 : decode cX1_leastStalls 37 = .ok (.isub, 1) := by decide +kernel
theorem dX1_leastStalls_38 : decode cX1_leastStalls 38 = .ok (.invokestatic 39, 3) := by decide +kernel
theorem dX1_leastStalls_41 : decode cX1_leastStalls 41 = .ok (.putfield 47, 3) := by decide +kernel
theorem dX1_leastStalls_44 : decode cX1_leastStalls 44 = .ok (.aload_n 0, 1) := by decide +kernel
theorem dX1_leastStalls_45 : decode cX1_leastStalls 45 = .ok (.getfield 18, 3) := by decide +kernel
theorem dX1_leastStalls_48 : decode cX1_leastStalls 48 = .ok (.lconst 0, 1) := by decide +kernel
theorem dX1_leastStalls_49 : decode cX1_leastStalls 49 = .ok (.invokestatic 50, 3) := by decide +kernel
theorem dX1_leastStalls_52 : decode cX1_leastStalls 52 = .ok (.aload_n 0, 1) := by decide +kernel
theorem dX1_leastStalls_53 : decode cX1_leastStalls 53 = .ok (.getfield 22, 3) := by decide +kernel
theorem dX1_leastStalls_56 : decode cX1_leastStalls 56 = .ok (.lconst 0, 1) := by decide +kernel
theorem dX1_leastStalls_57 : decode cX1_leastStalls 57 = .ok (.invokestatic 50, 3) := by decide +kernel
theorem dX1_leastStalls_60 : decode cX1_leastStalls 60 = .ok (.aload_n 0, 1) := by decide +kernel
theorem dX1_leastStalls_61 : decode cX1_leastStalls 61 = .ok (.getfield 18, 3) := by decide +kernel
theorem dX1_leastStalls_64 : decode cX1_leastStalls 64 = .ok (.iconst 0, 1) := by decide +kernel
theorem dX1_leastStalls_65 : decode cX1_leastStalls 65 = .ok (.lconst 1, 1) := by decide +kernel
theorem dX1_leastStalls_66 : decode cX1_leastStalls 66 = .ok (.lastore, 1) := by decide +kernel
theorem dX1_leastStalls_67 : decode cX1_leastStalls 67 = .ok (.iconst 0, 1) := by decide +kernel
theorem dX1_leastStalls_68 : decode cX1_leastStalls 68 = .ok (.istore_n 3, 1) := by decide +kernel
theorem dX1_leastStalls_69 : decode cX1_leastStalls 69 = .ok (.iload_n 3, 1) := by decide +kernel
theorem dX1_leastStalls_70 : decode cX1_leastStalls 70 = .ok (.iload_n 2, 1) := by decide +kernel
theorem dX1_leastStalls_71 : decode cX1_leastStalls 71 = .ok (.if_icmp .ge 48, 3) := by decide +kernel
theorem dX1_leastStalls_74 : decode cX1_leastStalls 74 = .ok (.aload_n 0, 1) := by decide +kernel
theorem dX1_leastStalls_75 : decode cX1_leastStalls 75 = .ok (.aload_n 0, 1) := by decide +kernel
theorem dX1_leastStalls_76 : decode cX1_leastStalls 76 = .ok (.getfield 15, 3) := by decide +kernel
theorem dX1_leastStalls_79 : decode cX1_leastStalls 79 = .ok (.iload_n 3, 1) := by decide +kernel
theorem dX1_leastStalls_80 : decode cX1_leastStalls 80 = .ok (.iaload, 1) := by decide +kernel
theorem dX1_leastStalls_81 : decode cX1_leastStalls 81 = .ok (.iload_n 2, 1) := by decide +kernel
theorem dX1_leastStalls_82 : decode cX1_leastStalls 82 = .ok (.invokevirtual 56, 3) := by decide +kernel
theorem dX1_leastStalls_85 : decode cX1_leastStalls 85 = .ok (.aload_n 1, 1) := by decide +kernel
theorem dX1_leastStalls_86 : decode cX1_leastStalls 86 = .ok (.getfield 60, 3) := by decide +kernel
theorem dX1_leastStalls_89 : decode cX1_leastStalls 89 = .ok (.iload_n 2, 1) := by decide +kernel
theorem dX1_leastStalls_90 : decode cX1_leastStalls 90 = .ok (.isub, 1) := by decide +kernel
theorem dX1_leastStalls_91 : decode cX1_leastStalls 91 = .ok (.iload_n 3, 1) := by decide +kernel
theorem dX1_leastStalls_92 : decode cX1_leastStalls 92 = .ok (.iadd, 1) := by decide +kernel
theorem dX1_leastStalls_93 : decode cX1_leastStalls 93 = .ok (.iconst 1, 1) := by decide +kernel
theorem dX1_leastStalls_94 : decode cX1_leastStalls 94 = .ok (.iadd, 1) := by decide +kernel
theorem dX1_leastStalls_95 : decode cX1_leastStalls 95 = .ok (.aload_n 1, 1) := by decide +kernel
theorem dX1_leastStalls_96 : decode cX1_leastStalls 96 = .ok (.getfield 63, 3) := by decide +kernel
theorem dX1_leastStalls_99 : decode cX1_leastStalls 99 = .ok (.irem, 1) := by decide +kernel
theorem dX1_leastStalls_100 : decode cX1_leastStalls 100 = .ok (.ifCond .ne 8, 3) := by decide +kernel
theorem dX1_leastStalls_103 : decode cX1_leastStalls 103 = .ok (.aload_n 0, 1) := by decide +kernel
theorem dX1_leastStalls_104 : decode cX1_leastStalls 104 = .ok (.iload_n 2, 1) := by decide +kernel
theorem dX1_leastStalls_105 : decode cX1_leastStalls 105 = .ok (.invokevirtual 66, 3) := by decide +kernel
theorem dX1_leastStalls_108 : decode cX1_leastStalls 108 = .ok (.aload_n 0, 1) := by decide +kernel
theorem dX1_leastStalls_109 : decode cX1_leastStalls 109 = .ok (.iload_n 2, 1) := by decide +kernel
theorem dX1_leastStalls_110 : decode cX1_leastStalls 110 = .ok (.invokevirtual 70, 3) := by decide +kernel
theorem dX1_leastStalls_113 : decode cX1_leastStalls 113 = .ok (.iinc 3 1, 3) := by decide +kernel
theorem dX1_leastStalls_116 : decode cX1_leastStalls 116 = .ok (.goto (-47), 3) := by decide +kernel
theorem dX1_leastStalls_119 : decode cX1_leastStalls 119 = .ok (.aload_n 0, 1) := by decide +kernel
theorem dX1_leastStalls_120 : decode cX1_leastStalls 120 = .ok (.iload_n 2, 1) := by decide +kernel
theorem dX1_leastStalls_121 : decode cX1_leastStalls 121 = .ok (.invokevirtual 73, 3) := by decide +kernel
theorem dX1_leastStalls_124 : decode cX1_leastStalls 124 = .ok (.ireturn, 1) := by decide +kernel
theorem dX1_number_0 : decode cX1_number 0 = .ok (.iconst 0, 1) := by decide +kernel
theorem dX1_number_1 : decode cX1_number 1 = .ok (.istore_n 3, 1) := by decide +kernel
theorem dX1_number_2 : decode cX1_number 2 = .ok (.iconst 0, 1) := by decide +kernel
theorem dX1_number_3 : decode cX1_number 3 = .ok (.istore 4, 2) := by decide +kernel
theorem dX1_number_5 : decode cX1_number 5 = .ok (.iload 4, 2) := by decide +kernel
theorem dX1_number_7 : decode cX1_number 7 = .ok (.iload_n 2, 1) := by decide +kernel
theorem dX1_number_8 : decode cX1_number 8 = .ok (.if_icmp .ge 89, 3) := by decide +kernel
theorem dX1_number_11 : decode cX1_number 11 = .ok (.aload_n 1, 1) := by decide +kernel
theorem dX1_number_12 : decode cX1_number 12 = .ok (.aload_n 1, 1) := by decide +kernel
theorem dX1_number_13 : decode cX1_number 13 = .ok (.getfield 60, 3) := by decide +kernel
theorem dX1_number_16 : decode cX1_number 16 = .ok (.iload_n 2, 1) := by decide +kernel
theorem dX1_number_17 : decode cX1_number 17 = .ok (.isub, 1) := by decide +kernel
theorem dX1_number_18 : decode cX1_number 18 = .ok (.iload 4, 2) := by decide +kernel
theorem dX1_number_20 : decode cX1_number 20 = .ok (.iadd, 1) := by decide +kernel
theorem dX1_number_21 : decode cX1_number 21 = .ok (.iconst 1, 1) := by decide +kernel
theorem dX1_number_22 : decode cX1_number 22 = .ok (.iadd, 1) := by decide +kernel
theorem dX1_number_23 : decode cX1_number 23 = .ok (.invokevirtual 77, 3) := by decide +kernel
theorem dX1_number_26 : decode cX1_number 26 = .ok (.istore 5, 2) := by decide +kernel
theorem dX1_number_28 : decode cX1_number 28 = .ok (.iconst 0, 1) := by decide +kernel
theorem dX1_number_29 : decode cX1_number 29 = .ok (.istore 6, 2) := by decide +kernel
theorem dX1_number_31 : decode cX1_number 31 = .ok (.iload 6, 2) := by decide +kernel
theorem dX1_number_33 : decode cX1_number 33 = .ok (.iload_n 3, 1) := by decide +kernel
theorem dX1_number_34 : decode cX1_number 34 = .ok (.if_icmp .ge 21, 3) := by decide +kernel
theorem dX1_number_37 : decode cX1_number 37 = .ok (.aload_n 0, 1) := by decide +kernel
theorem dX1_number_38 : decode cX1_number 38 = .ok (.getfield 11, 3) := by decide +kernel
theorem dX1_number_41 : decode cX1_number 41 = .ok (.iload 6, 2) := by decide +kernel
theorem dX1_number_43 : decode cX1_number 43 = .ok (.iaload, 1) := by decide +kernel
theorem dX1_number_44 : decode cX1_number 44 = .ok (.iload 5, 2) := by decide +kernel
theorem dX1_number_46 : decode cX1_number 46 = .ok (.if_icmp .eq 9, 3) := by decide +kernel
theorem dX1_number_49 : decode cX1_number 49 = .ok (.iinc 6 1, 3) := by decide +kernel
theorem dX1_number_52 : decode cX1_number 52 = .ok (.goto (-21), 3) := by decide +kernel
theorem dX1_number_55 : decode cX1_number 55 = .ok (.iload 6, 2) := by decide +kernel
theorem dX1_number_57 : decode cX1_number 57 = .ok (.bipush 7, 2) := by decide +kernel
theorem dX1_number_59 : decode cX1_number 59 = .ok (.if_icmp .lt 5, 3) := by decide +kernel
theorem dX1_number_62 : decode cX1_number 62 = .ok (.iconst 0, 1) := by decide +kernel
theorem dX1_number_63 : decode cX1_number 63 = .ok (.ireturn, 1) := by decide +kernel
theorem dX1_number_64 : decode cX1_number 64 = .ok (.iload 6, 2) := by decide +kernel
theorem dX1_number_66 : decode cX1_number 66 = .ok (.iload_n 3, 1) := by decide +kernel
theorem dX1_number_67 : decode cX1_number 67 = .ok (.if_icmp .ne 15, 3) := by decide +kernel
theorem dX1_number_70 : decode cX1_number 70 = .ok (.aload_n 0, 1) := by decide +kernel
theorem dX1_number_71 : decode cX1_number 71 = .ok (.getfield 11, 3) := by decide +kernel
theorem dX1_number_74 : decode cX1_number 74 = .ok (.iload 6, 2) := by decide +kernel
theorem dX1_number_76 : decode cX1_number 76 = .ok (.iload 5, 2) := by decide +kernel
theorem dX1_number_78 : decode cX1_number 78 = .ok (.iastore, 1) := by decide +kernel
theorem dX1_number_79 : decode cX1_number 79 = .ok (.iinc 3 1, 3) := by decide +kernel
theorem dX1_number_82 : decode cX1_number 82 = .ok (.aload_n 0, 1) := by decide +kernel
theorem dX1_number_83 : decode cX1_number 83 = .ok (.getfield 15, 3) := by decide +kernel
theorem dX1_number_86 : decode cX1_number 86 = .ok (.iload 4, 2) := by decide +kernel
theorem dX1_number_88 : decode cX1_number 88 = .ok (.iload 6, 2) := by decide +kernel
theorem dX1_number_90 : decode cX1_number 90 = .ok (.iastore, 1) := by decide +kernel
theorem dX1_number_91 : decode cX1_number 91 = .ok (.iinc 4 1, 3) := by decide +kernel
theorem dX1_number_94 : decode cX1_number 94 = .ok (.goto (-89), 3) := by decide +kernel
theorem dX1_number_97 : decode cX1_number 97 = .ok (.iconst 1, 1) := by decide +kernel
theorem dX1_number_98 : decode cX1_number 98 = .ok (.ireturn, 1) := by decide +kernel
theorem dX1_sized_0 : decode cX1_sized 0 = .ok (.iload_n 0, 1) := by decide +kernel
theorem dX1_sized_1 : decode cX1_sized 1 = .ok (.iconst 0, 1) := by decide +kernel
theorem dX1_sized_2 : decode cX1_sized 2 = .ok (.bipush 6, 2) := by decide +kernel
theorem dX1_sized_4 : decode cX1_sized 4 = .ok (.invokestatic 80, 3) := by decide +kernel
theorem dX1_sized_7 : decode cX1_sized 7 = .ok (.ifCond .eq 11, 3) := by decide +kernel
theorem dX1_sized_10 : decode cX1_sized 10 = .ok (.getstatic 84, 3) := by decide +kernel
theorem dX1_sized_13 : decode cX1_sized 13 = .ok (.iload_n 0, 1) := by decide +kernel
theorem dX1_sized_14 : decode cX1_sized 14 = .ok (.laload, 1) := by decide +kernel
theorem dX1_sized_15 : decode cX1_sized 15 = .ok (.goto 4, 3) := by decide +kernel
theorem dX1_sized_18 : decode cX1_sized 18 = .ok (.lconst 0, 1) := by decide +kernel
theorem dX1_sized_19 : decode cX1_sized 19 = .ok (.lreturn, 1) := by decide +kernel
theorem dX1_passAsk_0 : decode cX1_passAsk 0 = .ok (.iload_n 1, 1) := by decide +kernel
theorem dX1_passAsk_1 : decode cX1_passAsk 1 = .ok (.bipush 6, 2) := by decide +kernel
theorem dX1_passAsk_3 : decode cX1_passAsk 3 = .ok (.if_icmp .ge 11, 3) := by decide +kernel
theorem dX1_passAsk_6 : decode cX1_passAsk 6 = .ok (.getstatic 87, 3) := by decide +kernel
theorem dX1_passAsk_9 : decode cX1_passAsk 9 = .ok (.iload_n 1, 1) := by decide +kernel
theorem dX1_passAsk_10 : decode cX1_passAsk 10 = .ok (.laload, 1) := by decide +kernel
theorem dX1_passAsk_11 : decode cX1_passAsk 11 = .ok (.goto 4, 3) := by decide +kernel
theorem dX1_passAsk_14 : decode cX1_passAsk 14 = .ok (.lconst 0, 1) := by decide +kernel
theorem dX1_passAsk_15 : decode cX1_passAsk 15 = .ok (.lstore_n 3, 1) := by decide +kernel
theorem dX1_passAsk_16 : decode cX1_passAsk 16 = .ok (.iload_n 1, 1) := by decide +kernel
theorem dX1_passAsk_17 : decode cX1_passAsk 17 = .ok (.bipush 6, 2) := by decide +kernel
theorem dX1_passAsk_19 : decode cX1_passAsk 19 = .ok (.if_icmp .ge 11, 3) := by decide +kernel
theorem dX1_passAsk_22 : decode cX1_passAsk 22 = .ok (.getstatic 87, 3) := by decide +kernel
theorem dX1_passAsk_25 : decode cX1_passAsk 25 = .ok (.iload_n 1, 1) := by decide +kernel
theorem dX1_passAsk_26 : decode cX1_passAsk 26 = .ok (.laload, 1) := by decide +kernel
theorem dX1_passAsk_27 : decode cX1_passAsk 27 = .ok (.goto 6, 3) := by decide +kernel
theorem dX1_passAsk_30 : decode cX1_passAsk 30 = .ok (.ldc2_w 90, 3) := by decide +kernel
theorem dX1_passAsk_33 : decode cX1_passAsk 33 = .ok (.lstore 5, 2) := by decide +kernel
theorem dX1_passAsk_35 : decode cX1_passAsk 35 = .ok (.lconst 0, 1) := by decide +kernel
theorem dX1_passAsk_36 : decode cX1_passAsk 36 = .ok (.lstore 7, 2) := by decide +kernel
theorem dX1_passAsk_38 : decode cX1_passAsk 38 = .ok (.lconst 0, 1) := by decide +kernel
theorem dX1_passAsk_39 : decode cX1_passAsk 39 = .ok (.lstore 9, 2) := by decide +kernel
theorem dX1_passAsk_41 : decode cX1_passAsk 41 = .ok (.lconst 0, 1) := by decide +kernel
theorem dX1_passAsk_42 : decode cX1_passAsk 42 = .ok (.lstore 11, 2) := by decide +kernel
theorem dX1_passAsk_44 : decode cX1_passAsk 44 = .ok (.lconst 0, 1) := by decide +kernel
theorem dX1_passAsk_45 : decode cX1_passAsk 45 = .ok (.lstore 13, 2) := by decide +kernel
theorem dX1_passAsk_47 : decode cX1_passAsk 47 = .ok (.lconst 0, 1) := by decide +kernel
theorem dX1_passAsk_48 : decode cX1_passAsk 48 = .ok (.lstore 15, 2) := by decide +kernel
theorem dX1_passAsk_50 : decode cX1_passAsk 50 = .ok (.lconst 0, 1) := by decide +kernel
theorem dX1_passAsk_51 : decode cX1_passAsk 51 = .ok (.lstore 17, 2) := by decide +kernel
theorem dX1_passAsk_53 : decode cX1_passAsk 53 = .ok (.iconst 0, 1) := by decide +kernel
theorem dX1_passAsk_54 : decode cX1_passAsk 54 = .ok (.istore 19, 2) := by decide +kernel
theorem dX1_passAsk_56 : decode cX1_passAsk 56 = .ok (.iload 19, 2) := by decide +kernel
theorem dX1_passAsk_58 : decode cX1_passAsk 58 = .ok (.iload_n 2, 1) := by decide +kernel
theorem dX1_passAsk_59 : decode cX1_passAsk 59 = .ok (.if_icmp .gt 194, 3) := by decide +kernel
theorem dX1_passAsk_62 : decode cX1_passAsk 62 = .ok (.aload_n 0, 1) := by decide +kernel
theorem dX1_passAsk_63 : decode cX1_passAsk 63 = .ok (.getfield 18, 3) := by decide +kernel
theorem dX1_passAsk_66 : decode cX1_passAsk 66 = .ok (.iload 19, 2) := by decide +kernel
theorem dX1_passAsk_68 : decode cX1_passAsk 68 = .ok (.laload, 1) := by decide +kernel
theorem dX1_passAsk_69 : decode cX1_passAsk 69 = .ok (.lload 7, 2) := by decide +kernel
theorem dX1_passAsk_71 : decode cX1_passAsk 71 = .ok (.lor, 1) := by decide +kernel
theorem dX1_passAsk_72 : decode cX1_passAsk 72 = .ok (.lstore 20, 2) := by decide +kernel
theorem dX1_passAsk_74 : decode cX1_passAsk 74 = .ok (.aload_n 0, 1) := by decide +kernel
theorem dX1_passAsk_75 : decode cX1_passAsk 75 = .ok (.getfield 22, 3) := by decide +kernel
theorem dX1_passAsk_78 : decode cX1_passAsk 78 = .ok (.iload 19, 2) := by decide +kernel
theorem dX1_passAsk_80 : decode cX1_passAsk 80 = .ok (.laload, 1) := by decide +kernel
theorem dX1_passAsk_81 : decode cX1_passAsk 81 = .ok (.lload 9, 2) := by decide +kernel
theorem dX1_passAsk_83 : decode cX1_passAsk 83 = .ok (.lor, 1) := by decide +kernel
theorem dX1_passAsk_84 : decode cX1_passAsk 84 = .ok (.lstore 22, 2) := by decide +kernel
theorem dX1_passAsk_86 : decode cX1_passAsk 86 = .ok (.aload_n 0, 1) := by decide +kernel
theorem dX1_passAsk_87 : decode cX1_passAsk 87 = .ok (.getfield 18, 3) := by decide +kernel
theorem dX1_passAsk_90 : decode cX1_passAsk 90 = .ok (.iload 19, 2) := by decide +kernel
theorem dX1_passAsk_92 : decode cX1_passAsk 92 = .ok (.lload 20, 2) := by decide +kernel
theorem dX1_passAsk_94 : decode cX1_passAsk 94 = .ok (.lload_n 3, 1) := by decide +kernel
theorem dX1_passAsk_95 : decode cX1_passAsk 95 = .ok (.land, 1) := by decide +kernel
theorem dX1_passAsk_96 : decode cX1_passAsk 96 = .ok (.lload 11, 2) := by decide +kernel
theorem dX1_passAsk_98 : decode cX1_passAsk 98 = .ok (.lor, 1) := by decide +kernel
theorem dX1_passAsk_99 : decode cX1_passAsk 99 = .ok (.lastore, 1) := by decide +kernel
theorem dX1_passAsk_100 : decode cX1_passAsk 100 = .ok (.aload_n 0, 1) := by decide +kernel
theorem dX1_passAsk_101 : decode cX1_passAsk 101 = .ok (.getfield 22, 3) := by decide +kernel
theorem dX1_passAsk_104 : decode cX1_passAsk 104 = .ok (.iload 19, 2) := by decide +kernel
theorem dX1_passAsk_106 : decode cX1_passAsk 106 = .ok (.lload 22, 2) := by decide +kernel
theorem dX1_passAsk_108 : decode cX1_passAsk 108 = .ok (.lload 5, 2) := by decide +kernel
theorem dX1_passAsk_110 : decode cX1_passAsk 110 = .ok (.land, 1) := by decide +kernel
theorem dX1_passAsk_111 : decode cX1_passAsk 111 = .ok (.lload 13, 2) := by decide +kernel
theorem dX1_passAsk_113 : decode cX1_passAsk 113 = .ok (.lor, 1) := by decide +kernel
theorem dX1_passAsk_114 : decode cX1_passAsk 114 = .ok (.lastore, 1) := by decide +kernel
theorem dX1_passAsk_115 : decode cX1_passAsk 115 = .ok (.aload_n 0, 1) := by decide +kernel
theorem dX1_passAsk_116 : decode cX1_passAsk 116 = .ok (.lload 20, 2) := by decide +kernel
theorem dX1_passAsk_118 : decode cX1_passAsk 118 = .ok (.lload_n 3, 1) := by decide +kernel
theorem dX1_passAsk_119 : decode cX1_passAsk 119 = .ok (.ldc2_w 90, 3) := by decide +kernel
theorem dX1_passAsk_122 : decode cX1_passAsk 122 = .ok (.lxor, 1) := by decide +kernel
theorem dX1_passAsk_123 : decode cX1_passAsk 123 = .ok (.land, 1) := by decide +kernel
theorem dX1_passAsk_124 : decode cX1_passAsk 124 = .ok (.lload 15, 2) := by decide +kernel
theorem dX1_passAsk_126 : decode cX1_passAsk 126 = .ok (.ldc2_w 90, 3) := by decide +kernel
theorem dX1_passAsk_129 : decode cX1_passAsk 129 = .ok (.lxor, 1) := by decide +kernel
theorem dX1_passAsk_130 : decode cX1_passAsk 130 = .ok (.land, 1) := by decide +kernel
theorem dX1_passAsk_131 : decode cX1_passAsk 131 = .ok (.putfield 92, 3) := by decide +kernel
theorem dX1_passAsk_134 : decode cX1_passAsk 134 = .ok (.aload_n 0, 1) := by decide +kernel
theorem dX1_passAsk_135 : decode cX1_passAsk 135 = .ok (.lload 22, 2) := by decide +kernel
theorem dX1_passAsk_137 : decode cX1_passAsk 137 = .ok (.lload 5, 2) := by decide +kernel
theorem dX1_passAsk_139 : decode cX1_passAsk 139 = .ok (.ldc2_w 90, 3) := by decide +kernel
theorem dX1_passAsk_142 : decode cX1_passAsk 142 = .ok (.lxor, 1) := by decide +kernel
theorem dX1_passAsk_143 : decode cX1_passAsk 143 = .ok (.land, 1) := by decide +kernel
theorem dX1_passAsk_144 : decode cX1_passAsk 144 = .ok (.lload 17, 2) := by decide +kernel
theorem dX1_passAsk_146 : decode cX1_passAsk 146 = .ok (.ldc2_w 90, 3) := by decide +kernel
theorem dX1_passAsk_149 : decode cX1_passAsk 149 = .ok (.lxor, 1) := by decide +kernel
theorem dX1_passAsk_150 : decode cX1_passAsk 150 = .ok (.land, 1) := by decide +kernel
theorem dX1_passAsk_151 : decode cX1_passAsk 151 = .ok (.putfield 95, 3) := by decide +kernel
theorem dX1_passAsk_154 : decode cX1_passAsk 154 = .ok (.lload 15, 2) := by decide +kernel
theorem dX1_passAsk_156 : decode cX1_passAsk 156 = .ok (.aload_n 0, 1) := by decide +kernel
theorem dX1_passAsk_157 : decode cX1_passAsk 157 = .ok (.getfield 92, 3) := by decide +kernel
theorem dX1_passAsk_160 : decode cX1_passAsk 160 = .ok (.lor, 1) := by decide +kernel
theorem dX1_passAsk_161 : decode cX1_passAsk 161 = .ok (.lstore 15, 2) := by decide +kernel
theorem dX1_passAsk_163 : decode cX1_passAsk 163 = .ok (.lload 17, 2) := by decide +kernel
theorem dX1_passAsk_165 : decode cX1_passAsk 165 = .ok (.aload_n 0, 1) := by decide +kernel
theorem dX1_passAsk_166 : decode cX1_passAsk 166 = .ok (.getfield 95, 3) := by decide +kernel
theorem dX1_passAsk_169 : decode cX1_passAsk 169 = .ok (.lor, 1) := by decide +kernel
theorem dX1_passAsk_170 : decode cX1_passAsk 170 = .ok (.lstore 17, 2) := by decide +kernel
theorem dX1_passAsk_172 : decode cX1_passAsk 172 = .ok (.aload_n 0, 1) := by decide +kernel
theorem dX1_passAsk_173 : decode cX1_passAsk 173 = .ok (.aload_n 0, 1) := by decide +kernel
theorem dX1_passAsk_174 : decode cX1_passAsk 174 = .ok (.getfield 35, 3) := by decide +kernel
theorem dX1_passAsk_177 : decode cX1_passAsk 177 = .ok (.iconst 1, 1) := by decide +kernel
theorem dX1_passAsk_178 : decode cX1_passAsk 178 = .ok (.isub, 1) := by decide +kernel
theorem dX1_passAsk_179 : decode cX1_passAsk 179 = .ok (.invokevirtual 98, 3) := by decide +kernel
theorem dX1_passAsk_182 : decode cX1_passAsk 182 = .ok (.aload_n 0, 1) := by decide +kernel
theorem dX1_passAsk_183 : decode cX1_passAsk 183 = .ok (.getfield 92, 3) := by decide +kernel
theorem dX1_passAsk_186 : decode cX1_passAsk 186 = .ok (.lstore 11, 2) := by decide +kernel
theorem dX1_passAsk_188 : decode cX1_passAsk 188 = .ok (.aload_n 0, 1) := by decide +kernel
theorem dX1_passAsk_189 : decode cX1_passAsk 189 = .ok (.getfield 95, 3) := by decide +kernel
theorem dX1_passAsk_192 : decode cX1_passAsk 192 = .ok (.lstore 13, 2) := by decide +kernel
theorem dX1_passAsk_194 : decode cX1_passAsk 194 = .ok (.aload_n 0, 1) := by decide +kernel
theorem dX1_passAsk_195 : decode cX1_passAsk 195 = .ok (.iconst 1, 1) := by decide +kernel
theorem dX1_passAsk_196 : decode cX1_passAsk 196 = .ok (.invokevirtual 98, 3) := by decide +kernel
theorem dX1_passAsk_199 : decode cX1_passAsk 199 = .ok (.lload 11, 2) := by decide +kernel
theorem dX1_passAsk_201 : decode cX1_passAsk 201 = .ok (.aload_n 0, 1) := by decide +kernel
theorem dX1_passAsk_202 : decode cX1_passAsk 202 = .ok (.getfield 92, 3) := by decide +kernel
theorem dX1_passAsk_205 : decode cX1_passAsk 205 = .ok (.lload_n 3, 1) := by decide +kernel
theorem dX1_passAsk_206 : decode cX1_passAsk 206 = .ok (.land, 1) := by decide +kernel
theorem dX1_passAsk_207 : decode cX1_passAsk 207 = .ok (.lor, 1) := by decide +kernel
theorem dX1_passAsk_208 : decode cX1_passAsk 208 = .ok (.lstore 11, 2) := by decide +kernel
theorem dX1_passAsk_210 : decode cX1_passAsk 210 = .ok (.lload 13, 2) := by decide +kernel
theorem dX1_passAsk_212 : decode cX1_passAsk 212 = .ok (.aload_n 0, 1) := by decide +kernel
theorem dX1_passAsk_213 : decode cX1_passAsk 213 = .ok (.getfield 95, 3) := by decide +kernel
theorem dX1_passAsk_216 : decode cX1_passAsk 216 = .ok (.lload 5, 2) := by decide +kernel
theorem dX1_passAsk_218 : decode cX1_passAsk 218 = .ok (.land, 1) := by decide +kernel
theorem dX1_passAsk_219 : decode cX1_passAsk 219 = .ok (.lor, 1) := by decide +kernel
theorem dX1_passAsk_220 : decode cX1_passAsk 220 = .ok (.lstore 13, 2) := by decide +kernel
theorem dX1_passAsk_222 : decode cX1_passAsk 222 = .ok (.aload_n 0, 1) := by decide +kernel
theorem dX1_passAsk_223 : decode cX1_passAsk 223 = .ok (.getfield 92, 3) := by decide +kernel
theorem dX1_passAsk_226 : decode cX1_passAsk 226 = .ok (.lload_n 3, 1) := by decide +kernel
theorem dX1_passAsk_227 : decode cX1_passAsk 227 = .ok (.ldc2_w 90, 3) := by decide +kernel
theorem dX1_passAsk_230 : decode cX1_passAsk 230 = .ok (.lxor, 1) := by decide +kernel
theorem dX1_passAsk_231 : decode cX1_passAsk 231 = .ok (.land, 1) := by decide +kernel
theorem dX1_passAsk_232 : decode cX1_passAsk 232 = .ok (.lstore 7, 2) := by decide +kernel
theorem dX1_passAsk_234 : decode cX1_passAsk 234 = .ok (.aload_n 0, 1) := by decide +kernel
theorem dX1_passAsk_235 : decode cX1_passAsk 235 = .ok (.getfield 95, 3) := by decide +kernel
theorem dX1_passAsk_238 : decode cX1_passAsk 238 = .ok (.lload 5, 2) := by decide +kernel
theorem dX1_passAsk_240 : decode cX1_passAsk 240 = .ok (.ldc2_w 90, 3) := by decide +kernel
theorem dX1_passAsk_243 : decode cX1_passAsk 243 = .ok (.lxor, 1) := by decide +kernel
theorem dX1_passAsk_244 : decode cX1_passAsk 244 = .ok (.land, 1) := by decide +kernel
theorem dX1_passAsk_245 : decode cX1_passAsk 245 = .ok (.lstore 9, 2) := by decide +kernel
theorem dX1_passAsk_247 : decode cX1_passAsk 247 = .ok (.iinc 19 1, 3) := by decide +kernel
theorem dX1_passAsk_250 : decode cX1_passAsk 250 = .ok (.goto (-194), 3) := by decide +kernel
theorem dX1_passAsk_253 : decode cX1_passAsk 253 = .ok (.return_, 1) := by decide +kernel
theorem dX1_passTick_0 : decode cX1_passTick 0 = .ok (.iconst 0, 1) := by decide +kernel
theorem dX1_passTick_1 : decode cX1_passTick 1 = .ok (.istore_n 2, 1) := by decide +kernel
theorem dX1_passTick_2 : decode cX1_passTick 2 = .ok (.iload_n 2, 1) := by decide +kernel
theorem dX1_passTick_3 : decode cX1_passTick 3 = .ok (.iload_n 1, 1) := by decide +kernel
theorem dX1_passTick_4 : decode cX1_passTick 4 = .ok (.if_icmp .gt 57, 3) := by decide +kernel
theorem dX1_passTick_7 : decode cX1_passTick 7 = .ok (.aload_n 0, 1) := by decide +kernel
theorem dX1_passTick_8 : decode cX1_passTick 8 = .ok (.aload_n 0, 1) := by decide +kernel
theorem dX1_passTick_9 : decode cX1_passTick 9 = .ok (.getfield 18, 3) := by decide +kernel
theorem dX1_passTick_12 : decode cX1_passTick 12 = .ok (.iload_n 2, 1) := by decide +kernel
theorem dX1_passTick_13 : decode cX1_passTick 13 = .ok (.laload, 1) := by decide +kernel
theorem dX1_passTick_14 : decode cX1_passTick 14 = .ok (.putfield 92, 3) := by decide +kernel
theorem dX1_passTick_17 : decode cX1_passTick 17 = .ok (.aload_n 0, 1) := by decide +kernel
theorem dX1_passTick_18 : decode cX1_passTick 18 = .ok (.aload_n 0, 1) := by decide +kernel
theorem dX1_passTick_19 : decode cX1_passTick 19 = .ok (.getfield 22, 3) := by decide +kernel
theorem dX1_passTick_22 : decode cX1_passTick 22 = .ok (.iload_n 2, 1) := by decide +kernel
theorem dX1_passTick_23 : decode cX1_passTick 23 = .ok (.laload, 1) := by decide +kernel
theorem dX1_passTick_24 : decode cX1_passTick 24 = .ok (.putfield 95, 3) := by decide +kernel
theorem dX1_passTick_27 : decode cX1_passTick 27 = .ok (.aload_n 0, 1) := by decide +kernel
theorem dX1_passTick_28 : decode cX1_passTick 28 = .ok (.aload_n 0, 1) := by decide +kernel
theorem dX1_passTick_29 : decode cX1_passTick 29 = .ok (.getfield 35, 3) := by decide +kernel
theorem dX1_passTick_32 : decode cX1_passTick 32 = .ok (.invokevirtual 98, 3) := by decide +kernel
theorem dX1_passTick_35 : decode cX1_passTick 35 = .ok (.aload_n 0, 1) := by decide +kernel
theorem dX1_passTick_36 : decode cX1_passTick 36 = .ok (.getfield 18, 3) := by decide +kernel
theorem dX1_passTick_39 : decode cX1_passTick 39 = .ok (.iload_n 2, 1) := by decide +kernel
theorem dX1_passTick_40 : decode cX1_passTick 40 = .ok (.aload_n 0, 1) := by decide +kernel
theorem dX1_passTick_41 : decode cX1_passTick 41 = .ok (.getfield 92, 3) := by decide +kernel
theorem dX1_passTick_44 : decode cX1_passTick 44 = .ok (.lastore, 1) := by decide +kernel
theorem dX1_passTick_45 : decode cX1_passTick 45 = .ok (.aload_n 0, 1) := by decide +kernel
theorem dX1_passTick_46 : decode cX1_passTick 46 = .ok (.getfield 22, 3) := by decide +kernel
theorem dX1_passTick_49 : decode cX1_passTick 49 = .ok (.iload_n 2, 1) := by decide +kernel
theorem dX1_passTick_50 : decode cX1_passTick 50 = .ok (.aload_n 0, 1) := by decide +kernel
theorem dX1_passTick_51 : decode cX1_passTick 51 = .ok (.getfield 95, 3) := by decide +kernel
theorem dX1_passTick_54 : decode cX1_passTick 54 = .ok (.lastore, 1) := by decide +kernel
theorem dX1_passTick_55 : decode cX1_passTick 55 = .ok (.iinc 2 1, 3) := by decide +kernel
theorem dX1_passTick_58 : decode cX1_passTick 58 = .ok (.goto (-56), 3) := by decide +kernel
theorem dX1_passTick_61 : decode cX1_passTick 61 = .ok (.return_, 1) := by decide +kernel
theorem dX1_dropDearer_0 : decode cX1_dropDearer 0 = .ok (.lconst 0, 1) := by decide +kernel
theorem dX1_dropDearer_1 : decode cX1_dropDearer 1 = .ok (.lstore_n 2, 1) := by decide +kernel
theorem dX1_dropDearer_2 : decode cX1_dropDearer 2 = .ok (.lconst 0, 1) := by decide +kernel
theorem dX1_dropDearer_3 : decode cX1_dropDearer 3 = .ok (.lstore 4, 2) := by decide +kernel
theorem dX1_dropDearer_5 : decode cX1_dropDearer 5 = .ok (.iconst 0, 1) := by decide +kernel
theorem dX1_dropDearer_6 : decode cX1_dropDearer 6 = .ok (.istore 6, 2) := by decide +kernel
theorem dX1_dropDearer_8 : decode cX1_dropDearer 8 = .ok (.iload 6, 2) := by decide +kernel
theorem dX1_dropDearer_10 : decode cX1_dropDearer 10 = .ok (.iload_n 1, 1) := by decide +kernel
theorem dX1_dropDearer_11 : decode cX1_dropDearer 11 = .ok (.if_icmp .gt 62, 3) := by decide +kernel
theorem dX1_dropDearer_14 : decode cX1_dropDearer 14 = .ok (.aload_n 0, 1) := by decide +kernel
theorem dX1_dropDearer_15 : decode cX1_dropDearer 15 = .ok (.getfield 18, 3) := by decide +kernel
theorem dX1_dropDearer_18 : decode cX1_dropDearer 18 = .ok (.iload 6, 2) := by decide +kernel
theorem dX1_dropDearer_20 : decode cX1_dropDearer 20 = .ok (.dup2, 1) := by decide +kernel
theorem dX1_dropDearer_21 : decode cX1_dropDearer 21 = .ok (.laload, 1) := by decide +kernel
theorem dX1_dropDearer_22 : decode cX1_dropDearer 22 = .ok (.lload_n 2, 1) := by decide +kernel
theorem dX1_dropDearer_23 : decode cX1_dropDearer 23 = .ok (.ldc2_w 90, 3) := by decide +kernel
theorem dX1_dropDearer_26 : decode cX1_dropDearer 26 = .ok (.lxor, 1) := by decide +kernel
theorem dX1_dropDearer_27 : decode cX1_dropDearer 27 = .ok (.land, 1) := by decide +kernel
theorem dX1_dropDearer_28 : decode cX1_dropDearer 28 = .ok (.lastore, 1) := by decide +kernel
theorem dX1_dropDearer_29 : decode cX1_dropDearer 29 = .ok (.aload_n 0, 1) := by decide +kernel
theorem dX1_dropDearer_30 : decode cX1_dropDearer 30 = .ok (.getfield 22, 3) := by decide +kernel
theorem dX1_dropDearer_33 : decode cX1_dropDearer 33 = .ok (.iload 6, 2) := by decide +kernel
theorem dX1_dropDearer_35 : decode cX1_dropDearer 35 = .ok (.dup2, 1) := by decide +kernel
theorem dX1_dropDearer_36 : decode cX1_dropDearer 36 = .ok (.laload, 1) := by decide +kernel
theorem dX1_dropDearer_37 : decode cX1_dropDearer 37 = .ok (.lload 4, 2) := by decide +kernel
theorem dX1_dropDearer_39 : decode cX1_dropDearer 39 = .ok (.ldc2_w 90, 3) := by decide +kernel
theorem dX1_dropDearer_42 : decode cX1_dropDearer 42 = .ok (.lxor, 1) := by decide +kernel
theorem dX1_dropDearer_43 : decode cX1_dropDearer 43 = .ok (.land, 1) := by decide +kernel
theorem dX1_dropDearer_44 : decode cX1_dropDearer 44 = .ok (.lastore, 1) := by decide +kernel
theorem dX1_dropDearer_45 : decode cX1_dropDearer 45 = .ok (.lload_n 2, 1) := by decide +kernel
theorem dX1_dropDearer_46 : decode cX1_dropDearer 46 = .ok (.aload_n 0, 1) := by decide +kernel
theorem dX1_dropDearer_47 : decode cX1_dropDearer 47 = .ok (.getfield 18, 3) := by decide +kernel
theorem dX1_dropDearer_50 : decode cX1_dropDearer 50 = .ok (.iload 6, 2) := by decide +kernel
theorem dX1_dropDearer_52 : decode cX1_dropDearer 52 = .ok (.laload, 1) := by decide +kernel
theorem dX1_dropDearer_53 : decode cX1_dropDearer 53 = .ok (.lor, 1) := by decide +kernel
theorem dX1_dropDearer_54 : decode cX1_dropDearer 54 = .ok (.lstore_n 2, 1) := by decide +kernel
theorem dX1_dropDearer_55 : decode cX1_dropDearer 55 = .ok (.lload 4, 2) := by decide +kernel
theorem dX1_dropDearer_57 : decode cX1_dropDearer 57 = .ok (.aload_n 0, 1) := by decide +kernel
theorem dX1_dropDearer_58 : decode cX1_dropDearer 58 = .ok (.getfield 22, 3) := by decide +kernel
theorem dX1_dropDearer_61 : decode cX1_dropDearer 61 = .ok (.iload 6, 2) := by decide +kernel
theorem dX1_dropDearer_63 : decode cX1_dropDearer 63 = .ok (.laload, 1) := by decide +kernel
theorem dX1_dropDearer_64 : decode cX1_dropDearer 64 = .ok (.lor, 1) := by decide +kernel
theorem dX1_dropDearer_65 : decode cX1_dropDearer 65 = .ok (.lstore 4, 2) := by decide +kernel
theorem dX1_dropDearer_67 : decode cX1_dropDearer 67 = .ok (.iinc 6 1, 3) := by decide +kernel
theorem dX1_dropDearer_70 : decode cX1_dropDearer 70 = .ok (.goto (-62), 3) := by decide +kernel
theorem dX1_dropDearer_73 : decode cX1_dropDearer 73 = .ok (.return_, 1) := by decide +kernel
theorem dX1_cheapest_0 : decode cX1_cheapest 0 = .ok (.iconst 0, 1) := by decide +kernel
theorem dX1_cheapest_1 : decode cX1_cheapest 1 = .ok (.istore_n 2, 1) := by decide +kernel
theorem dX1_cheapest_2 : decode cX1_cheapest 2 = .ok (.iload_n 2, 1) := by decide +kernel
theorem dX1_cheapest_3 : decode cX1_cheapest 3 = .ok (.iload_n 1, 1) := by decide +kernel
theorem dX1_cheapest_4 : decode cX1_cheapest 4 = .ok (.if_icmp .ge 27, 3) := by decide +kernel
theorem dX1_cheapest_7 : decode cX1_cheapest 7 = .ok (.aload_n 0, 1) := by decide +kernel
theorem dX1_cheapest_8 : decode cX1_cheapest 8 = .ok (.getfield 18, 3) := by decide +kernel
theorem dX1_cheapest_11 : decode cX1_cheapest 11 = .ok (.iload_n 2, 1) := by decide +kernel
theorem dX1_cheapest_12 : decode cX1_cheapest 12 = .ok (.laload, 1) := by decide +kernel
theorem dX1_cheapest_13 : decode cX1_cheapest 13 = .ok (.aload_n 0, 1) := by decide +kernel
theorem dX1_cheapest_14 : decode cX1_cheapest 14 = .ok (.getfield 22, 3) := by decide +kernel
theorem dX1_cheapest_17 : decode cX1_cheapest 17 = .ok (.iload_n 2, 1) := by decide +kernel
theorem dX1_cheapest_18 : decode cX1_cheapest 18 = .ok (.laload, 1) := by decide +kernel
theorem dX1_cheapest_19 : decode cX1_cheapest 19 = .ok (.lor, 1) := by decide +kernel
theorem dX1_cheapest_20 : decode cX1_cheapest 20 = .ok (.lconst 0, 1) := by decide +kernel
theorem dX1_cheapest_21 : decode cX1_cheapest 21 = .ok (.lcmp, 1) := by decide +kernel
theorem dX1_cheapest_22 : decode cX1_cheapest 22 = .ok (.ifCond .ne 9, 3) := by decide +kernel
theorem dX1_cheapest_25 : decode cX1_cheapest 25 = .ok (.iinc 2 1, 3) := by decide +kernel
theorem dX1_cheapest_28 : decode cX1_cheapest 28 = .ok (.goto (-26), 3) := by decide +kernel
theorem dX1_cheapest_31 : decode cX1_cheapest 31 = .ok (.iload_n 2, 1) := by decide +kernel
theorem dX1_cheapest_32 : decode cX1_cheapest 32 = .ok (.ireturn, 1) := by decide +kernel
theorem dX1_serveUpTo_0 : decode cX1_serveUpTo 0 = .ok (.iconst 0, 1) := by decide +kernel
theorem dX1_serveUpTo_1 : decode cX1_serveUpTo 1 = .ok (.istore_n 2, 1) := by decide +kernel
theorem dX1_serveUpTo_2 : decode cX1_serveUpTo 2 = .ok (.iload_n 2, 1) := by decide +kernel
theorem dX1_serveUpTo_3 : decode cX1_serveUpTo 3 = .ok (.iload_n 1, 1) := by decide +kernel
theorem dX1_serveUpTo_4 : decode cX1_serveUpTo 4 = .ok (.if_icmp .ge 27, 3) := by decide +kernel
theorem dX1_serveUpTo_7 : decode cX1_serveUpTo 7 = .ok (.aload_n 0, 1) := by decide +kernel
theorem dX1_serveUpTo_8 : decode cX1_serveUpTo 8 = .ok (.getfield 92, 3) := by decide +kernel
theorem dX1_serveUpTo_11 : decode cX1_serveUpTo 11 = .ok (.aload_n 0, 1) := by decide +kernel
theorem dX1_serveUpTo_12 : decode cX1_serveUpTo 12 = .ok (.getfield 95, 3) := by decide +kernel
theorem dX1_serveUpTo_15 : decode cX1_serveUpTo 15 = .ok (.lor, 1) := by decide +kernel
theorem dX1_serveUpTo_16 : decode cX1_serveUpTo 16 = .ok (.lconst 0, 1) := by decide +kernel
theorem dX1_serveUpTo_17 : decode cX1_serveUpTo 17 = .ok (.lcmp, 1) := by decide +kernel
theorem dX1_serveUpTo_18 : decode cX1_serveUpTo 18 = .ok (.ifCond .eq 13, 3) := by decide +kernel
theorem dX1_serveUpTo_21 : decode cX1_serveUpTo 21 = .ok (.aload_n 0, 1) := by decide +kernel
theorem dX1_serveUpTo_22 : decode cX1_serveUpTo 22 = .ok (.invokevirtual 101, 3) := by decide +kernel
theorem dX1_serveUpTo_25 : decode cX1_serveUpTo 25 = .ok (.iinc 2 1, 3) := by decide +kernel
theorem dX1_serveUpTo_28 : decode cX1_serveUpTo 28 = .ok (.goto (-26), 3) := by decide +kernel
theorem dX1_serveUpTo_31 : decode cX1_serveUpTo 31 = .ok (.return_, 1) := by decide +kernel
theorem dX1_serveOneOrNone_0 : decode cX1_serveOneOrNone 0 = .ok (.aload_n 0, 1) := by decide +kernel
theorem dX1_serveOneOrNone_1 : decode cX1_serveOneOrNone 1 = .ok (.getfield 92, 3) := by decide +kernel
theorem dX1_serveOneOrNone_4 : decode cX1_serveOneOrNone 4 = .ok (.aload_n 0, 1) := by decide +kernel
theorem dX1_serveOneOrNone_5 : decode cX1_serveOneOrNone 5 = .ok (.getfield 43, 3) := by decide +kernel
theorem dX1_serveOneOrNone_8 : decode cX1_serveOneOrNone 8 = .ok (.land, 1) := by decide +kernel
theorem dX1_serveOneOrNone_9 : decode cX1_serveOneOrNone 9 = .ok (.lstore_n 1, 1) := by decide +kernel
theorem dX1_serveOneOrNone_10 : decode cX1_serveOneOrNone 10 = .ok (.aload_n 0, 1) := by decide +kernel
theorem dX1_serveOneOrNone_11 : decode cX1_serveOneOrNone 11 = .ok (.getfield 95, 3) := by decide +kernel
theorem dX1_serveOneOrNone_14 : decode cX1_serveOneOrNone 14 = .ok (.aload_n 0, 1) := by decide +kernel
theorem dX1_serveOneOrNone_15 : decode cX1_serveOneOrNone 15 = .ok (.getfield 47, 3) := by decide +kernel
theorem dX1_serveOneOrNone_18 : decode cX1_serveOneOrNone 18 = .ok (.land, 1) := by decide +kernel
theorem dX1_serveOneOrNone_19 : decode cX1_serveOneOrNone 19 = .ok (.lstore_n 3, 1) := by decide +kernel
theorem dX1_serveOneOrNone_20 : decode cX1_serveOneOrNone 20 = .ok (.aload_n 0, 1) := by decide +kernel
theorem dX1_serveOneOrNone_21 : decode cX1_serveOneOrNone 21 = .ok (.getfield 92, 3) := by decide +kernel
theorem dX1_serveOneOrNone_24 : decode cX1_serveOneOrNone 24 = .ok (.aload_n 0, 1) := by decide +kernel
theorem dX1_serveOneOrNone_25 : decode cX1_serveOneOrNone 25 = .ok (.getfield 43, 3) := by decide +kernel
theorem dX1_serveOneOrNone_28 : decode cX1_serveOneOrNone 28 = .ok (.ldc2_w 90, 3) := by decide +kernel
theorem dX1_serveOneOrNone_31 : decode cX1_serveOneOrNone 31 = .ok (.lxor, 1) := by decide +kernel
theorem dX1_serveOneOrNone_32 : decode cX1_serveOneOrNone 32 = .ok (.land, 1) := by decide +kernel
theorem dX1_serveOneOrNone_33 : decode cX1_serveOneOrNone 33 = .ok (.lload_n 3, 1) := by decide +kernel
theorem dX1_serveOneOrNone_34 : decode cX1_serveOneOrNone 34 = .ok (.lor, 1) := by decide +kernel
theorem dX1_serveOneOrNone_35 : decode cX1_serveOneOrNone 35 = .ok (.lstore 5, 2) := by decide +kernel
theorem dX1_serveOneOrNone_37 : decode cX1_serveOneOrNone 37 = .ok (.aload_n 0, 1) := by decide +kernel
theorem dX1_serveOneOrNone_38 : decode cX1_serveOneOrNone 38 = .ok (.getfield 95, 3) := by decide +kernel
theorem dX1_serveOneOrNone_41 : decode cX1_serveOneOrNone 41 = .ok (.aload_n 0, 1) := by decide +kernel
theorem dX1_serveOneOrNone_42 : decode cX1_serveOneOrNone 42 = .ok (.getfield 47, 3) := by decide +kernel
theorem dX1_serveOneOrNone_45 : decode cX1_serveOneOrNone 45 = .ok (.ldc2_w 90, 3) := by decide +kernel
theorem dX1_serveOneOrNone_48 : decode cX1_serveOneOrNone 48 = .ok (.lxor, 1) := by decide +kernel
theorem dX1_serveOneOrNone_49 : decode cX1_serveOneOrNone 49 = .ok (.land, 1) := by decide +kernel
theorem dX1_serveOneOrNone_50 : decode cX1_serveOneOrNone 50 = .ok (.lstore 7, 2) := by decide +kernel
theorem dX1_serveOneOrNone_52 : decode cX1_serveOneOrNone 52 = .ok (.iconst 0, 1) := by decide +kernel
theorem dX1_serveOneOrNone_53 : decode cX1_serveOneOrNone 53 = .ok (.istore 9, 2) := by decide +kernel
theorem dX1_serveOneOrNone_55 : decode cX1_serveOneOrNone 55 = .ok (.iload 9, 2) := by decide +kernel
theorem dX1_serveOneOrNone_57 : decode cX1_serveOneOrNone 57 = .ok (.bipush 6, 2) := by decide +kernel
theorem dX1_serveOneOrNone_59 : decode cX1_serveOneOrNone 59 = .ok (.if_icmp .ge 45, 3) := by decide +kernel
theorem dX1_serveOneOrNone_62 : decode cX1_serveOneOrNone 62 = .ok (.lload 5, 2) := by decide +kernel
theorem dX1_serveOneOrNone_64 : decode cX1_serveOneOrNone 64 = .ok (.lload_n 1, 1) := by decide +kernel
theorem dX1_serveOneOrNone_65 : decode cX1_serveOneOrNone 65 = .ok (.getstatic 87, 3) := by decide +kernel
theorem dX1_serveOneOrNone_68 : decode cX1_serveOneOrNone 68 = .ok (.iload 9, 2) := by decide +kernel
theorem dX1_serveOneOrNone_70 : decode cX1_serveOneOrNone 70 = .ok (.laload, 1) := by decide +kernel
theorem dX1_serveOneOrNone_71 : decode cX1_serveOneOrNone 71 = .ok (.land, 1) := by decide +kernel
theorem dX1_serveOneOrNone_72 : decode cX1_serveOneOrNone 72 = .ok (.iconst 1, 1) := by decide +kernel
theorem dX1_serveOneOrNone_73 : decode cX1_serveOneOrNone 73 = .ok (.iload 9, 2) := by decide +kernel
theorem dX1_serveOneOrNone_75 : decode cX1_serveOneOrNone 75 = .ok (.ishl, 1) := by decide +kernel
theorem dX1_serveOneOrNone_76 : decode cX1_serveOneOrNone 76 = .ok (.lushr, 1) := by decide +kernel
theorem dX1_serveOneOrNone_77 : decode cX1_serveOneOrNone 77 = .ok (.lor, 1) := by decide +kernel
theorem dX1_serveOneOrNone_78 : decode cX1_serveOneOrNone 78 = .ok (.lstore 5, 2) := by decide +kernel
theorem dX1_serveOneOrNone_80 : decode cX1_serveOneOrNone 80 = .ok (.lload 7, 2) := by decide +kernel
theorem dX1_serveOneOrNone_82 : decode cX1_serveOneOrNone 82 = .ok (.lload_n 3, 1) := by decide +kernel
theorem dX1_serveOneOrNone_83 : decode cX1_serveOneOrNone 83 = .ok (.getstatic 87, 3) := by decide +kernel
theorem dX1_serveOneOrNone_86 : decode cX1_serveOneOrNone 86 = .ok (.iload 9, 2) := by decide +kernel
theorem dX1_serveOneOrNone_88 : decode cX1_serveOneOrNone 88 = .ok (.laload, 1) := by decide +kernel
theorem dX1_serveOneOrNone_89 : decode cX1_serveOneOrNone 89 = .ok (.land, 1) := by decide +kernel
theorem dX1_serveOneOrNone_90 : decode cX1_serveOneOrNone 90 = .ok (.iconst 1, 1) := by decide +kernel
theorem dX1_serveOneOrNone_91 : decode cX1_serveOneOrNone 91 = .ok (.iload 9, 2) := by decide +kernel
theorem dX1_serveOneOrNone_93 : decode cX1_serveOneOrNone 93 = .ok (.ishl, 1) := by decide +kernel
theorem dX1_serveOneOrNone_94 : decode cX1_serveOneOrNone 94 = .ok (.lushr, 1) := by decide +kernel
theorem dX1_serveOneOrNone_95 : decode cX1_serveOneOrNone 95 = .ok (.lor, 1) := by decide +kernel
theorem dX1_serveOneOrNone_96 : decode cX1_serveOneOrNone 96 = .ok (.lstore 7, 2) := by decide +kernel
theorem dX1_serveOneOrNone_98 : decode cX1_serveOneOrNone 98 = .ok (.iinc 9 1, 3) := by decide +kernel
theorem dX1_serveOneOrNone_101 : decode cX1_serveOneOrNone 101 = .ok (.goto (-46), 3) := by decide +kernel
theorem dX1_serveOneOrNone_104 : decode cX1_serveOneOrNone 104 = .ok (.iconst 0, 1) := by decide +kernel
theorem dX1_serveOneOrNone_105 : decode cX1_serveOneOrNone 105 = .ok (.istore 9, 2) := by decide +kernel
theorem dX1_serveOneOrNone_107 : decode cX1_serveOneOrNone 107 = .ok (.iload 9, 2) := by decide +kernel
theorem dX1_serveOneOrNone_109 : decode cX1_serveOneOrNone 109 = .ok (.bipush 6, 2) := by decide +kernel
theorem dX1_serveOneOrNone_111 : decode cX1_serveOneOrNone 111 = .ok (.if_icmp .ge 63, 3) := by decide +kernel
theorem dX1_serveOneOrNone_114 : decode cX1_serveOneOrNone 114 = .ok (.aload_n 0, 1) := by decide +kernel
