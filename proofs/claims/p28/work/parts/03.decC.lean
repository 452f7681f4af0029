theorem dX0_last_0 : decode cX0_last 0 = .ok (.iload_n 0, 1) := by decide +kernel
theorem dX0_last_1 : decode cX0_last 1 = .ok (.bipush 7, 2) := by decide +kernel
theorem dX0_last_3 : decode cX0_last 3 = .ok (.iand, 1) := by decide +kernel
theorem dX0_last_4 : decode cX0_last 4 = .ok (.iconst 1, 1) := by decide +kernel
theorem dX0_last_5 : decode cX0_last 5 = .ok (.isub, 1) := by decide +kernel
theorem dX0_last_6 : decode cX0_last 6 = .ok (.ireturn, 1) := by decide +kernel
theorem dX0_steps_0 : decode cX0_steps 0 = .ok (.iload_n 0, 1) := by decide +kernel
theorem dX0_steps_1 : decode cX0_steps 1 = .ok (.iconst 3, 1) := by decide +kernel
theorem dX0_steps_2 : decode cX0_steps 2 = .ok (.iconst 2, 1) := by decide +kernel
theorem dX0_steps_3 : decode cX0_steps 3 = .ok (.iload_n 1, 1) := by decide +kernel
theorem dX0_steps_4 : decode cX0_steps 4 = .ok (.imul, 1) := by decide +kernel
theorem dX0_steps_5 : decode cX0_steps 5 = .ok (.iadd, 1) := by decide +kernel
theorem dX0_steps_6 : decode cX0_steps 6 = .ok (.ishr, 1) := by decide +kernel
theorem dX0_steps_7 : decode cX0_steps 7 = .ok (.iconst 3, 1) := by decide +kernel
theorem dX0_steps_8 : decode cX0_steps 8 = .ok (.iand, 1) := by decide +kernel
theorem dX0_steps_9 : decode cX0_steps 9 = .ok (.ireturn, 1) := by decide +kernel
theorem dX0_left_0 : decode cX0_left 0 = .ok (.iload_n 0, 1) := by decide +kernel
theorem dX0_left_1 : decode cX0_left 1 = .ok (.bipush 11, 2) := by decide +kernel
theorem dX0_left_3 : decode cX0_left 3 = .ok (.iconst 4, 1) := by decide +kernel
theorem dX0_left_4 : decode cX0_left 4 = .ok (.iload_n 1, 1) := by decide +kernel
theorem dX0_left_5 : decode cX0_left 5 = .ok (.imul, 1) := by decide +kernel
theorem dX0_left_6 : decode cX0_left 6 = .ok (.iadd, 1) := by decide +kernel
theorem dX0_left_7 : decode cX0_left 7 = .ok (.ishr, 1) := by decide +kernel
theorem dX0_left_8 : decode cX0_left 8 = .ok (.bipush 15, 2) := by decide +kernel
theorem dX0_left_10 : decode cX0_left 10 = .ok (.iand, 1) := by decide +kernel
theorem dX0_left_11 : decode cX0_left 11 = .ok (.ireturn, 1) := by decide +kernel
theorem dX0_withSteps_0 : decode cX0_withSteps 0 = .ok (.iconst 3, 1) := by decide +kernel
theorem dX0_withSteps_1 : decode cX0_withSteps 1 = .ok (.iconst 2, 1) := by decide +kernel
theorem dX0_withSteps_2 : decode cX0_withSteps 2 = .ok (.iload_n 1, 1) := by decide +kernel
theorem dX0_withSteps_3 : decode cX0_withSteps 3 = .ok (.imul, 1) := by decide +kernel
theorem dX0_withSteps_4 : decode cX0_withSteps 4 = .ok (.iadd, 1) := by decide +kernel
theorem dX0_withSteps_5 : decode cX0_withSteps 5 = .ok (.istore_n 3, 1) := by decide +kernel
theorem dX0_withSteps_6 : decode cX0_withSteps 6 = .ok (.iload_n 0, 1) := by decide +kernel
theorem dX0_withSteps_7 : decode cX0_withSteps 7 = .ok (.iconst 3, 1) := by decide +kernel
theorem dX0_withSteps_8 : decode cX0_withSteps 8 = .ok (.iload_n 3, 1) := by decide +kernel
theorem dX0_withSteps_9 : decode cX0_withSteps 9 = .ok (.ishl, 1) := by decide +kernel
theorem dX0_withSteps_10 : decode cX0_withSteps 10 = .ok (.iconst (-1), 1) := by decide +kernel
theorem dX0_withSteps_11 : decode cX0_withSteps 11 = .ok (.ixor, 1) := by decide +kernel
theorem dX0_withSteps_12 : decode cX0_withSteps 12 = .ok (.iand, 1) := by decide +kernel
theorem dX0_withSteps_13 : decode cX0_withSteps 13 = .ok (.iload_n 2, 1) := by decide +kernel
theorem dX0_withSteps_14 : decode cX0_withSteps 14 = .ok (.iconst 3, 1) := by decide +kernel
theorem dX0_withSteps_15 : decode cX0_withSteps 15 = .ok (.iand, 1) := by decide +kernel
theorem dX0_withSteps_16 : decode cX0_withSteps 16 = .ok (.iload_n 3, 1) := by decide +kernel
theorem dX0_withSteps_17 : decode cX0_withSteps 17 = .ok (.ishl, 1) := by decide +kernel
theorem dX0_withSteps_18 : decode cX0_withSteps 18 = .ok (.ior, 1) := by decide +kernel
theorem dX0_withSteps_19 : decode cX0_withSteps 19 = .ok (.ireturn, 1) := by decide +kernel
theorem dX0_withLeft_0 : decode cX0_withLeft 0 = .ok (.bipush 11, 2) := by decide +kernel
theorem dX0_withLeft_2 : decode cX0_withLeft 2 = .ok (.iconst 4, 1) := by decide +kernel
theorem dX0_withLeft_3 : decode cX0_withLeft 3 = .ok (.iload_n 1, 1) := by decide +kernel
theorem dX0_withLeft_4 : decode cX0_withLeft 4 = .ok (.imul, 1) := by decide +kernel
theorem dX0_withLeft_5 : decode cX0_withLeft 5 = .ok (.iadd, 1) := by decide +kernel
theorem dX0_withLeft_6 : decode cX0_withLeft 6 = .ok (.istore_n 3, 1) := by decide +kernel
theorem dX0_withLeft_7 : decode cX0_withLeft 7 = .ok (.iload_n 0, 1) := by decide +kernel
theorem dX0_withLeft_8 : decode cX0_withLeft 8 = .ok (.bipush 15, 2) := by decide +kernel
theorem dX0_withLeft_10 : decode cX0_withLeft 10 = .ok (.iload_n 3, 1) := by decide +kernel
theorem dX0_withLeft_11 : decode cX0_withLeft 11 = .ok (.ishl, 1) := by decide +kernel
theorem dX0_withLeft_12 : decode cX0_withLeft 12 = .ok (.iconst (-1), 1) := by decide +kernel
theorem dX0_withLeft_13 : decode cX0_withLeft 13 = .ok (.ixor, 1) := by decide +kernel
theorem dX0_withLeft_14 : decode cX0_withLeft 14 = .ok (.iand, 1) := by decide +kernel
theorem dX0_withLeft_15 : decode cX0_withLeft 15 = .ok (.iload_n 2, 1) := by decide +kernel
theorem dX0_withLeft_16 : decode cX0_withLeft 16 = .ok (.bipush 15, 2) := by decide +kernel
theorem dX0_withLeft_18 : decode cX0_withLeft 18 = .ok (.iand, 1) := by decide +kernel
theorem dX0_withLeft_19 : decode cX0_withLeft 19 = .ok (.iload_n 3, 1) := by decide +kernel
theorem dX0_withLeft_20 : decode cX0_withLeft 20 = .ok (.ishl, 1) := by decide +kernel
theorem dX0_withLeft_21 : decode cX0_withLeft 21 = .ok (.ior, 1) := by decide +kernel
theorem dX0_withLeft_22 : decode cX0_withLeft 22 = .ok (.ireturn, 1) := by decide +kernel
theorem dX0_mayBowl_0 : decode cX0_mayBowl 0 = .ok (.iload_n 1, 1) := by decide +kernel
theorem dX0_mayBowl_1 : decode cX0_mayBowl 1 = .ok (.ifCond .lt 28, 3) := by decide +kernel
theorem dX0_mayBowl_4 : decode cX0_mayBowl 4 = .ok (.iload_n 1, 1) := by decide +kernel
theorem dX0_mayBowl_5 : decode cX0_mayBowl 5 = .ok (.iconst 4, 1) := by decide +kernel
theorem dX0_mayBowl_6 : decode cX0_mayBowl 6 = .ok (.if_icmp .ge 23, 3) := by decide +kernel
theorem dX0_mayBowl_9 : decode cX0_mayBowl 9 = .ok (.iload_n 0, 1) := by decide +kernel
theorem dX0_mayBowl_10 : decode cX0_mayBowl 10 = .ok (.iload_n 1, 1) := by decide +kernel
theorem dX0_mayBowl_11 : decode cX0_mayBowl 11 = .ok (.invokestatic 11, 3) := by decide +kernel
theorem dX0_mayBowl_14 : decode cX0_mayBowl 14 = .ok (.ifCond .le 15, 3) := by decide +kernel
theorem dX0_mayBowl_17 : decode cX0_mayBowl 17 = .ok (.iload_n 0, 1) := by decide +kernel
theorem dX0_mayBowl_18 : decode cX0_mayBowl 18 = .ok (.invokestatic 15, 3) := by decide +kernel
theorem dX0_mayBowl_21 : decode cX0_mayBowl 21 = .ok (.iload_n 1, 1) := by decide +kernel
theorem dX0_mayBowl_22 : decode cX0_mayBowl 22 = .ok (.if_icmp .eq 7, 3) := by decide +kernel
theorem dX0_mayBowl_25 : decode cX0_mayBowl 25 = .ok (.iconst 1, 1) := by decide +kernel
theorem dX0_mayBowl_26 : decode cX0_mayBowl 26 = .ok (.goto 4, 3) := by decide +kernel
theorem dX0_mayBowl_29 : decode cX0_mayBowl 29 = .ok (.iconst 0, 1) := by decide +kernel
theorem dX0_mayBowl_30 : decode cX0_mayBowl 30 = .ok (.ireturn, 1) := by decide +kernel
theorem dX0_first_0 : decode cX0_first 0 = .ok (.iconst 0, 1) := by decide +kernel
theorem dX0_first_1 : decode cX0_first 1 = .ok (.istore_n 1, 1) := by decide +kernel
theorem dX0_first_2 : decode cX0_first 2 = .ok (.iload_n 1, 1) := by decide +kernel
theorem dX0_first_3 : decode cX0_first 3 = .ok (.iconst 4, 1) := by decide +kernel
theorem dX0_first_4 : decode cX0_first 4 = .ok (.if_icmp .ge 19, 3) := by decide +kernel
theorem dX0_first_7 : decode cX0_first 7 = .ok (.iload_n 0, 1) := by decide +kernel
theorem dX0_first_8 : decode cX0_first 8 = .ok (.iload_n 1, 1) := by decide +kernel
theorem dX0_first_9 : decode cX0_first 9 = .ok (.invokestatic 19, 3) := by decide +kernel
theorem dX0_first_12 : decode cX0_first 12 = .ok (.ifCond .eq 5, 3) := by decide +kernel
theorem dX0_first_15 : decode cX0_first 15 = .ok (.iload_n 1, 1) := by decide +kernel
theorem dX0_first_16 : decode cX0_first 16 = .ok (.ireturn, 1) := by decide +kernel
theorem dX0_first_17 : decode cX0_first 17 = .ok (.iinc 1 1, 3) := by decide +kernel
theorem dX0_first_20 : decode cX0_first 20 = .ok (.goto (-18), 3) := by decide +kernel
theorem dX0_first_23 : decode cX0_first 23 = .ok (.iconst (-1), 1) := by decide +kernel
theorem dX0_first_24 : decode cX0_first 24 = .ok (.ireturn, 1) := by decide +kernel
theorem dX0_after_0 : decode cX0_after 0 = .ok (.iload_n 1, 1) := by decide +kernel
theorem dX0_after_1 : decode cX0_after 1 = .ok (.ifCond .lt 8, 3) := by decide +kernel
theorem dX0_after_4 : decode cX0_after 4 = .ok (.iload_n 1, 1) := by decide +kernel
theorem dX0_after_5 : decode cX0_after 5 = .ok (.iconst 4, 1) := by decide +kernel
theorem dX0_after_6 : decode cX0_after 6 = .ok (.if_icmp .lt 5, 3) := by decide +kernel
theorem dX0_after_9 : decode cX0_after 9 = .ok (.iload_n 0, 1) := by decide +kernel
theorem dX0_after_10 : decode cX0_after 10 = .ok (.ireturn, 1) := by decide +kernel
theorem dX0_after_11 : decode cX0_after 11 = .ok (.iload_n 0, 1) := by decide +kernel
theorem dX0_after_12 : decode cX0_after 12 = .ok (.bipush (-8), 2) := by decide +kernel
theorem dX0_after_14 : decode cX0_after 14 = .ok (.iand, 1) := by decide +kernel
theorem dX0_after_15 : decode cX0_after 15 = .ok (.iload_n 1, 1) := by decide +kernel
theorem dX0_after_16 : decode cX0_after 16 = .ok (.iconst 1, 1) := by decide +kernel
theorem dX0_after_17 : decode cX0_after 17 = .ok (.iadd, 1) := by decide +kernel
theorem dX0_after_18 : decode cX0_after 18 = .ok (.ior, 1) := by decide +kernel
theorem dX0_after_19 : decode cX0_after 19 = .ok (.istore_n 2, 1) := by decide +kernel
theorem dX0_after_20 : decode cX0_after 20 = .ok (.iconst 0, 1) := by decide +kernel
theorem dX0_after_21 : decode cX0_after 21 = .ok (.istore_n 3, 1) := by decide +kernel
theorem dX0_after_22 : decode cX0_after 22 = .ok (.iload_n 3, 1) := by decide +kernel
theorem dX0_after_23 : decode cX0_after 23 = .ok (.iconst 4, 1) := by decide +kernel
theorem dX0_after_24 : decode cX0_after 24 = .ok (.if_icmp .ge 46, 3) := by decide +kernel
theorem dX0_after_27 : decode cX0_after 27 = .ok (.iload_n 0, 1) := by decide +kernel
theorem dX0_after_28 : decode cX0_after 28 = .ok (.iload_n 3, 1) := by decide +kernel
theorem dX0_after_29 : decode cX0_after 29 = .ok (.invokestatic 23, 3) := by decide +kernel
theorem dX0_after_32 : decode cX0_after 32 = .ok (.istore 4, 2) := by decide +kernel
theorem dX0_after_34 : decode cX0_after 34 = .ok (.iload_n 2, 1) := by decide +kernel
theorem dX0_after_35 : decode cX0_after 35 = .ok (.iload_n 3, 1) := by decide +kernel
theorem dX0_after_36 : decode cX0_after 36 = .ok (.iload_n 3, 1) := by decide +kernel
theorem dX0_after_37 : decode cX0_after 37 = .ok (.iload_n 1, 1) := by decide +kernel
theorem dX0_after_38 : decode cX0_after 38 = .ok (.if_icmp .ne 14, 3) := by decide +kernel
theorem dX0_after_41 : decode cX0_after 41 = .ok (.iconst 3, 1) := by decide +kernel
theorem dX0_after_42 : decode cX0_after 42 = .ok (.iload 4, 2) := by decide +kernel
theorem dX0_after_44 : decode cX0_after 44 = .ok (.iconst 1, 1) := by decide +kernel
theorem dX0_after_45 : decode cX0_after 45 = .ok (.iadd, 1) := by decide +kernel
theorem dX0_after_46 : decode cX0_after 46 = .ok (.invokestatic 26, 3) := by decide +kernel
theorem dX0_after_49 : decode cX0_after 49 = .ok (.goto 11, 3) := by decide +kernel
theorem dX0_after_52 : decode cX0_after 52 = .ok (.iconst 0, 1) := by decide +kernel
theorem dX0_after_53 : decode cX0_after 53 = .ok (.iload 4, 2) := by decide +kernel
theorem dX0_after_55 : decode cX0_after 55 = .ok (.iconst 1, 1) := by decide +kernel
theorem dX0_after_56 : decode cX0_after 56 = .ok (.isub, 1) := by decide +kernel
theorem dX0_after_57 : decode cX0_after 57 = .ok (.invokestatic 31, 3) := by decide +kernel
theorem dX0_after_60 : decode cX0_after 60 = .ok (.invokestatic 34, 3) := by decide +kernel
theorem dX0_after_63 : decode cX0_after 63 = .ok (.istore_n 2, 1) := by decide +kernel
theorem dX0_after_64 : decode cX0_after 64 = .ok (.iinc 3 1, 3) := by decide +kernel
theorem dX0_after_67 : decode cX0_after 67 = .ok (.goto (-45), 3) := by decide +kernel
theorem dX0_after_70 : decode cX0_after 70 = .ok (.iload_n 2, 1) := by decide +kernel
theorem dX0_after_71 : decode cX0_after 71 = .ok (.iload_n 1, 1) := by decide +kernel
theorem dX0_after_72 : decode cX0_after 72 = .ok (.iconst 0, 1) := by decide +kernel
theorem dX0_after_73 : decode cX0_after 73 = .ok (.iload_n 0, 1) := by decide +kernel
theorem dX0_after_74 : decode cX0_after 74 = .ok (.iload_n 1, 1) := by decide +kernel
theorem dX0_after_75 : decode cX0_after 75 = .ok (.invokestatic 11, 3) := by decide +kernel
theorem dX0_after_78 : decode cX0_after 78 = .ok (.iconst 1, 1) := by decide +kernel
theorem dX0_after_79 : decode cX0_after 79 = .ok (.isub, 1) := by decide +kernel
theorem dX0_after_80 : decode cX0_after 80 = .ok (.invokestatic 31, 3) := by decide +kernel
theorem dX0_after_83 : decode cX0_after 83 = .ok (.invokestatic 38, 3) := by decide +kernel
theorem dX0_after_86 : decode cX0_after 86 = .ok (.ireturn, 1) := by decide +kernel
theorem dX1_init_0 : decode cX1_init 0 = .ok (.aload_n 0, 1) := by decide +kernel
theorem dX1_init_1 : decode cX1_init 1 = .ok (.invokespecial 7, 3) := by decide +kernel
theorem dX1_init_4 : decode cX1_init 4 = .ok (.aload_n 0, 1) := by decide +kernel
theorem dX1_init_5 : decode cX1_init 5 = .ok (.sipush 350, 3) := by decide +kernel
theorem dX1_init_8 : decode cX1_init 8 = .ok (.newarray .int, 2) := by decide +kernel
theorem dX1_init_10 : decode cX1_init 10 = .ok (.putfield 13, 3) := by decide +kernel
theorem dX1_init_13 : decode cX1_init 13 = .ok (.aload_n 0, 1) := by decide +kernel
theorem dX1_init_14 : decode cX1_init 14 = .ok (.sipush 1400, 3) := by decide +kernel
theorem dX1_init_17 : decode cX1_init 17 = .ok (.newarray .int, 2) := by decide +kernel
theorem dX1_init_19 : decode cX1_init 19 = .ok (.putfield 17, 3) := by decide +kernel
theorem dX1_init_22 : decode cX1_init 22 = .ok (.aload_n 0, 1) := by decide +kernel
theorem dX1_init_23 : decode cX1_init 23 = .ok (.sipush 3159, 3) := by decide +kernel
theorem dX1_init_26 : decode cX1_init 26 = .ok (.newarray .int, 2) := by decide +kernel
theorem dX1_init_28 : decode cX1_init 28 = .ok (.putfield 20, 3) := by decide +kernel
theorem dX1_init_31 : decode cX1_init 31 = .ok (.aload_n 0, 1) := by decide +kernel
theorem dX1_init_32 : decode cX1_init 32 = .ok (.sipush 3159, 3) := by decide +kernel
theorem dX1_init_35 : decode cX1_init 35 = .ok (.newarray .int, 2) := by decide +kernel
theorem dX1_init_37 : decode cX1_init 37 = .ok (.putfield 23, 3) := by decide +kernel
theorem dX1_init_40 : decode cX1_init 40 = .ok (.aload_n 0, 1) := by decide +kernel
theorem dX1_init_41 : decode cX1_init 41 = .ok (.sipush 1024, 3) := by decide +kernel
theorem dX1_init_44 : decode cX1_init 44 = .ok (.newarray .int, 2) := by decide +kernel
theorem dX1_init_46 : decode cX1_init 46 = .ok (.putfield 26, 3) := by decide +kernel
theorem dX1_init_49 : decode cX1_init 49 = .ok (.aload_n 0, 1) := by decide +kernel
theorem dX1_init_50 : decode cX1_init 50 = .ok (.sipush 350, 3) := by decide +kernel
theorem dX1_init_53 : decode cX1_init 53 = .ok (.newarray .int, 2) := by decide +kernel
theorem dX1_init_55 : decode cX1_init 55 = .ok (.putfield 29, 3) := by decide +kernel
theorem dX1_init_58 : decode cX1_init 58 = .ok (.aload_n 0, 1) := by decide +kernel
theorem dX1_init_59 : decode cX1_init 59 = .ok (.iconst (-1), 1) := by decide +kernel
theorem dX1_init_60 : decode cX1_init 60 = .ok (.putfield 32, 3) := by decide +kernel
theorem dX1_init_63 : decode cX1_init 63 = .ok (.aload_n 0, 1) := by decide +kernel
theorem dX1_init_64 : decode cX1_init 64 = .ok (.aload_n 1, 1) := by decide +kernel
theorem dX1_init_65 : decode cX1_init 65 = .ok (.putfield 36, 3) := by decide +kernel
theorem dX1_init_68 : decode cX1_init 68 = .ok (.aload_n 0, 1) := by decide +kernel
theorem dX1_init_69 : decode cX1_init 69 = .ok (.aload_n 2, 1) := by decide +kernel
theorem dX1_init_70 : decode cX1_init 70 = .ok (.putfield 40, 3) := by decide +kernel
theorem dX1_init_73 : decode cX1_init 73 = .ok (.return_, 1) := by decide +kernel
theorem dX1_seek_0 : decode cX1_seek 0 = .ok (.aload_n 0, 1) := by decide +kernel
theorem dX1_seek_1 : decode cX1_seek 1 = .ok (.aload_n 0, 1) := by decide +kernel
theorem dX1_seek_2 : decode cX1_seek 2 = .ok (.getfield 40, 3) := by decide +kernel
theorem dX1_seek_5 : decode cX1_seek 5 = .ok (.getfield 44, 3) := by decide +kernel
theorem dX1_seek_8 : decode cX1_seek 8 = .ok (.iload_n 1, 1) := by decide +kernel
theorem dX1_seek_9 : decode cX1_seek 9 = .ok (.iload_n 2, 1) := by decide +kernel
theorem dX1_seek_10 : decode cX1_seek 10 = .ok (.iload_n 3, 1) := by decide +kernel
theorem dX1_seek_11 : decode cX1_seek 11 = .ok (.aload_n 0, 1) := by decide +kernel
theorem dX1_seek_12 : decode cX1_seek 12 = .ok (.getfield 40, 3) := by decide +kernel
theorem dX1_seek_15 : decode cX1_seek 15 = .ok (.getfield 47, 3) := by decide +kernel
theorem dX1_seek_18 : decode cX1_seek 18 = .ok (.iconst 1, 1) := by decide +kernel
theorem dX1_seek_19 : decode cX1_seek 19 = .ok (.isub, 1) := by decide +kernel
theorem dX1_seek_20 : decode cX1_seek 20 = .ok (.invokevirtual 50, 3) := by decide +kernel
theorem dX1_seek_23 : decode cX1_seek 23 = .ok (.return_, 1) := by decide +kernel
theorem dX1_seekFor_0 : decode cX1_seekFor 0 = .ok (.aload_n 0, 1) := by decide +kernel
theorem dX1_seekFor_1 : decode cX1_seekFor 1 = .ok (.iload_n 2, 1) := by decide +kernel
theorem dX1_seekFor_2 : decode cX1_seekFor 2 = .ok (.iload_n 3, 1) := by decide +kernel
theorem dX1_seekFor_3 : decode cX1_seekFor 3 = .ok (.invokevirtual 54, 3) := by decide +kernel
theorem dX1_seekFor_6 : decode cX1_seekFor 6 = .ok (.aload_n 0, 1) := by decide +kernel
theorem dX1_seekFor_7 : decode cX1_seekFor 7 = .ok (.getfield 58, 3) := by decide +kernel
theorem dX1_seekFor_10 : decode cX1_seekFor 10 = .ok (.iconst 1, 1) := by decide +kernel
theorem dX1_seekFor_11 : decode cX1_seekFor 11 = .ok (.isub, 1) := by decide +kernel
theorem dX1_seekFor_12 : decode cX1_seekFor 12 = .ok (.istore 6, 2) := by decide +kernel
theorem dX1_seekFor_14 : decode cX1_seekFor 14 = .ok (.iload 6, 2) := by decide +kernel
theorem dX1_seekFor_16 : decode cX1_seekFor 16 = .ok (.ifCond .lt 20, 3) := by decide +kernel
theorem dX1_seekFor_19 : decode cX1_seekFor 19 = .ok (.aload_n 0, 1) := by decide +kernel
theorem dX1_seekFor_20 : decode cX1_seekFor 20 = .ok (.iload 6, 2) := by decide +kernel
theorem dX1_seekFor_22 : decode cX1_seekFor 22 = .ok (.aload_n 1, 1) := by decide +kernel
theorem dX1_seekFor_23 : decode cX1_seekFor 23 = .ok (.iload 4, 2) := by decide +kernel
theorem dX1_seekFor_25 : decode cX1_seekFor 25 = .ok (.iload 5, 2) := by decide +kernel
theorem dX1_seekFor_27 : decode cX1_seekFor 27 = .ok (.invokevirtual 61, 3) := by decide +kernel
theorem dX1_seekFor_30 : decode cX1_seekFor 30 = .ok (.iinc 6 (-1), 3) := by decide +kernel
theorem dX1_seekFor_33 : decode cX1_seekFor 33 = .ok (.goto (-19), 3) := by decide +kernel
theorem dX1_seekFor_36 : decode cX1_seekFor 36 = .ok (.return_, 1) := by decide +kernel
theorem dX1_valueAt_0 : decode cX1_valueAt 0 = .ok (.iload_n 1, 1) := by decide +kernel
theorem dX1_valueAt_1 : decode cX1_valueAt 1 = .ok (.ifCond .lt 26, 3) := by decide +kernel
theorem dX1_valueAt_4 : decode cX1_valueAt 4 = .ok (.iload_n 1, 1) := by decide +kernel
theorem dX1_valueAt_5 : decode cX1_valueAt 5 = .ok (.aload_n 0, 1) := by decide +kernel
theorem dX1_valueAt_6 : decode cX1_valueAt 6 = .ok (.getfield 58, 3) := by decide +kernel
theorem dX1_valueAt_9 : decode cX1_valueAt 9 = .ok (.if_icmp .ge 18, 3) := by decide +kernel
theorem dX1_valueAt_12 : decode cX1_valueAt 12 = .ok (.iload_n 2, 1) := by decide +kernel
theorem dX1_valueAt_13 : decode cX1_valueAt 13 = .ok (.ifCond .lt 14, 3) := by decide +kernel
theorem dX1_valueAt_16 : decode cX1_valueAt 16 = .ok (.iload_n 2, 1) := by decide +kernel
theorem dX1_valueAt_17 : decode cX1_valueAt 17 = .ok (.aload_n 0, 1) := by decide +kernel
theorem dX1_valueAt_18 : decode cX1_valueAt 18 = .ok (.getfield 40, 3) := by decide +kernel
theorem dX1_valueAt_21 : decode cX1_valueAt 21 = .ok (.getfield 47, 3) := by decide +kernel
theorem dX1_valueAt_24 : decode cX1_valueAt 24 = .ok (.if_icmp .lt 7, 3) := by decide +kernel
theorem dX1_valueAt_27 : decode cX1_valueAt 27 = .ok (.iconst 0, 1) := by decide +kernel
theorem dX1_valueAt_28 : decode cX1_valueAt 28 = .ok (.goto 14, 3) := by decide +kernel
theorem dX1_valueAt_31 : decode cX1_valueAt 31 = .ok (.aload_n 0, 1) := by decide +kernel
theorem dX1_valueAt_32 : decode cX1_valueAt 32 = .ok (.getfield 20, 3) := by decide +kernel
theorem dX1_valueAt_35 : decode cX1_valueAt 35 = .ok (.iload_n 1, 1) := by decide +kernel
theorem dX1_valueAt_36 : decode cX1_valueAt 36 = .ok (.bipush 9, 2) := by decide +kernel
theorem dX1_valueAt_38 : decode cX1_valueAt 38 = .ok (.imul, 1) := by decide +kernel
theorem dX1_valueAt_39 : decode cX1_valueAt 39 = .ok (.iload_n 2, 1) := by decide +kernel
theorem dX1_valueAt_40 : decode cX1_valueAt 40 = .ok (.iadd, 1) := by decide +kernel
theorem dX1_valueAt_41 : decode cX1_valueAt 41 = .ok (.iaload, 1) := by decide +kernel
theorem dX1_valueAt_42 : decode cX1_valueAt 42 = .ok (.ireturn, 1) := by decide +kernel
theorem dX1_whomAt_0 : decode cX1_whomAt 0 = .ok (.iload_n 1, 1) := by decide +kernel
theorem dX1_whomAt_1 : decode cX1_whomAt 1 = .ok (.ifCond .lt 26, 3) := by decide +kernel
theorem dX1_whomAt_4 : decode cX1_whomAt 4 = .ok (.iload_n 1, 1) := by decide +kernel
theorem dX1_whomAt_5 : decode cX1_whomAt 5 = .ok (.aload_n 0, 1) := by decide +kernel
theorem dX1_whomAt_6 : decode cX1_whomAt 6 = .ok (.getfield 58, 3) := by decide +kernel
theorem dX1_whomAt_9 : decode cX1_whomAt 9 = .ok (.if_icmp .ge 18, 3) := by decide +kernel
theorem dX1_whomAt_12 : decode cX1_whomAt 12 = .ok (.iload_n 2, 1) := by decide +kernel
theorem dX1_whomAt_13 : decode cX1_whomAt 13 = .ok (.ifCond .lt 14, 3) := by decide +kernel
theorem dX1_whomAt_16 : decode cX1_whomAt 16 = .ok (.iload_n 2, 1) := by decide +kernel
theorem dX1_whomAt_17 : decode cX1_whomAt 17 = .ok (.aload_n 0, 1) := by decide +kernel
theorem dX1_whomAt_18 : decode cX1_whomAt 18 = .ok (.getfield 40, 3) := by decide +kernel
theorem dX1_whomAt_21 : decode cX1_whomAt 21 = .ok (.getfield 47, 3) := by decide +kernel
theorem dX1_whomAt_24 : decode cX1_whomAt 24 = .ok (.if_icmp .lt 7, 3) := by decide +kernel
theorem dX1_whomAt_27 : decode cX1_whomAt 27 = .ok (.iconst (-1), 1) := by decide +kernel
theorem dX1_whomAt_28 : decode cX1_whomAt 28 = .ok (.goto 14, 3) := by decide +kernel
theorem dX1_whomAt_31 : decode cX1_whomAt 31 = .ok (.aload_n 0, 1) := by decide +kernel
theorem dX1_whomAt_32 : decode cX1_whomAt 32 = .ok (.getfield 23, 3) := by decide +kernel
theorem dX1_whomAt_35 : decode cX1_whomAt 35 = .ok (.iload_n 1, 1) := by decide +kernel
theorem dX1_whomAt_36 : decode cX1_whomAt 36 = .ok (.bipush 9, 2) := by decide +kernel
theorem dX1_whomAt_38 : decode cX1_whomAt 38 = .ok (.imul, 1) := by decide +kernel
theorem dX1_whomAt_39 : decode cX1_whomAt 39 = .ok (.iload_n 2, 1) := by decide +kernel
theorem dX1_whomAt_40 : decode cX1_whomAt 40 = .ok (.iadd, 1) := by decide +kernel
theorem dX1_whomAt_41 : decode cX1_whomAt 41 = .ok (.iaload, 1) := by decide +kernel
theorem dX1_whomAt_42 : decode cX1_whomAt 42 = .ok (.ireturn, 1) := by decide +kernel
theorem dX1_nodeOf_0 : decode cX1_nodeOf 0 = .ok (.iload_n 2, 1) := by decide +kernel
theorem dX1_nodeOf_1 : decode cX1_nodeOf 1 = .ok (.aload_n 0, 1) := by decide +kernel
theorem dX1_nodeOf_2 : decode cX1_nodeOf 2 = .ok (.getfield 65, 3) := by decide +kernel
theorem dX1_nodeOf_5 : decode cX1_nodeOf 5 = .ok (.isub, 1) := by decide +kernel
theorem dX1_nodeOf_6 : decode cX1_nodeOf 6 = .ok (.istore_n 3, 1) := by decide +kernel
theorem dX1_nodeOf_7 : decode cX1_nodeOf 7 = .ok (.iload_n 3, 1) := by decide +kernel
theorem dX1_nodeOf_8 : decode cX1_nodeOf 8 = .ok (.ifCond .lt 11, 3) := by decide +kernel
theorem dX1_nodeOf_11 : decode cX1_nodeOf 11 = .ok (.iload_n 3, 1) := by decide +kernel
theorem dX1_nodeOf_12 : decode cX1_nodeOf 12 = .ok (.aload_n 0, 1) := by decide +kernel
theorem dX1_nodeOf_13 : decode cX1_nodeOf 13 = .ok (.getfield 68, 3) := by decide +kernel
theorem dX1_nodeOf_16 : decode cX1_nodeOf 16 = .ok (.if_icmp .lt 5, 3) := by decide +kernel
theorem dX1_nodeOf_19 : decode cX1_nodeOf 19 = .ok (.iconst (-1), 1) := by decide +kernel
theorem dX1_nodeOf_20 : decode cX1_nodeOf 20 = .ok (.ireturn, 1) := by decide +kernel
theorem dX1_nodeOf_21 : decode cX1_nodeOf 21 = .ok (.aload_n 0, 1) := by decide +kernel
theorem dX1_nodeOf_22 : decode cX1_nodeOf 22 = .ok (.aload_n 0, 1) := by decide +kernel
theorem dX1_nodeOf_23 : decode cX1_nodeOf 23 = .ok (.iload_n 1, 1) := by decide +kernel
theorem dX1_nodeOf_24 : decode cX1_nodeOf 24 = .ok (.aload_n 0, 1) := by decide +kernel
theorem dX1_nodeOf_25 : decode cX1_nodeOf 25 = .ok (.getfield 68, 3) := by decide +kernel
theorem dX1_nodeOf_28 : decode cX1_nodeOf 28 = .ok (.iload_n 3, 1) := by decide +kernel
theorem dX1_nodeOf_29 : decode cX1_nodeOf 29 = .ok (.isub, 1) := by decide +kernel
theorem dX1_nodeOf_30 : decode cX1_nodeOf 30 = .ok (.invokevirtual 71, 3) := by decide +kernel
theorem dX1_nodeOf_33 : decode cX1_nodeOf 33 = .ok (.iload_n 3, 1) := by decide +kernel
theorem dX1_nodeOf_34 : decode cX1_nodeOf 34 = .ok (.bipush 27, 2) := by decide +kernel
theorem dX1_nodeOf_36 : decode cX1_nodeOf 36 = .ok (.ishl, 1) := by decide +kernel
theorem dX1_nodeOf_37 : decode cX1_nodeOf 37 = .ok (.ior, 1) := by decide +kernel
theorem dX1_nodeOf_38 : decode cX1_nodeOf 38 = .ok (.invokevirtual 77, 3) := by decide +kernel
theorem dX1_nodeOf_41 : decode cX1_nodeOf 41 = .ok (.istore 4, 2) := by decide +kernel
theorem dX1_nodeOf_43 : decode cX1_nodeOf 43 = .ok (.iload 4, 2) := by decide +kernel
theorem dX1_nodeOf_45 : decode cX1_nodeOf 45 = .ok (.ifCond .lt 12, 3) := by decide +kernel
theorem dX1_nodeOf_48 : decode cX1_nodeOf 48 = .ok (.aload_n 0, 1) := by decide +kernel
theorem dX1_nodeOf_49 : decode cX1_nodeOf 49 = .ok (.iload 4, 2) := by decide +kernel
theorem dX1_nodeOf_51 : decode cX1_nodeOf 51 = .ok (.invokevirtual 81, 3) := by decide +kernel
theorem dX1_nodeOf_54 : decode cX1_nodeOf 54 = .ok (.ifCond .ne 7, 3) := by decide +kernel
theorem dX1_nodeOf_57 : decode cX1_nodeOf 57 = .ok (.iconst (-1), 1) := by decide +kernel
theorem dX1_nodeOf_58 : decode cX1_nodeOf 58 = .ok (.goto 10, 3) := by decide +kernel
theorem dX1_nodeOf_61 : decode cX1_nodeOf 61 = .ok (.aload_n 0, 1) := by decide +kernel
theorem dX1_nodeOf_62 : decode cX1_nodeOf 62 = .ok (.getfield 26, 3) := by decide +kernel
theorem dX1_nodeOf_65 : decode cX1_nodeOf 65 = .ok (.iload 4, 2) := by decide +kernel
theorem dX1_nodeOf_67 : decode cX1_nodeOf 67 = .ok (.iaload, 1) := by decide +kernel
theorem dX1_nodeOf_68 : decode cX1_nodeOf 68 = .ok (.ireturn, 1) := by decide +kernel
theorem dX1_grow_0 : decode cX1_grow 0 = .ok (.iconst 0, 1) := by decide +kernel
theorem dX1_grow_1 : decode cX1_grow 1 = .ok (.bipush 8, 2) := by decide +kernel
theorem dX1_grow_3 : decode cX1_grow 3 = .ok (.aload_n 0, 1) := by decide +kernel
theorem dX1_grow_4 : decode cX1_grow 4 = .ok (.getfield 40, 3) := by decide +kernel
theorem dX1_grow_7 : decode cX1_grow 7 = .ok (.getfield 85, 3) := by decide +kernel
theorem dX1_grow_10 : decode cX1_grow 10 = .ok (.iload_n 2, 1) := by decide +kernel
theorem dX1_grow_11 : decode cX1_grow 11 = .ok (.isub, 1) := by decide +kernel
theorem dX1_grow_12 : decode cX1_grow 12 = .ok (.invokestatic 88, 3) := by decide +kernel
theorem dX1_grow_15 : decode cX1_grow 15 = .ok (.invokestatic 93, 3) := by decide +kernel
theorem dX1_grow_18 : decode cX1_grow 18 = .ok (.istore_n 3, 1) := by decide +kernel
theorem dX1_grow_19 : decode cX1_grow 19 = .ok (.aload_n 0, 1) := by decide +kernel
theorem dX1_grow_20 : decode cX1_grow 20 = .ok (.getfield 36, 3) := by decide +kernel
theorem dX1_grow_23 : decode cX1_grow 23 = .ok (.getfield 96, 3) := by decide +kernel
theorem dX1_grow_26 : decode cX1_grow 26 = .ok (.iconst 5, 1) := by decide +kernel
theorem dX1_grow_27 : decode cX1_grow 27 = .ok (.invokevirtual 104, 3) := by decide +kernel
theorem dX1_grow_30 : decode cX1_grow 30 = .ok (.istore 4, 2) := by decide +kernel
theorem dX1_grow_32 : decode cX1_grow 32 = .ok (.aload_n 0, 1) := by decide +kernel
theorem dX1_grow_33 : decode cX1_grow 33 = .ok (.getfield 32, 3) := by decide +kernel
theorem dX1_grow_36 : decode cX1_grow 36 = .ok (.iload_n 1, 1) := by decide +kernel
theorem dX1_grow_37 : decode cX1_grow 37 = .ok (.if_icmp .ne 26, 3) := by decide +kernel
theorem dX1_grow_40 : decode cX1_grow 40 = .ok (.aload_n 0, 1) := by decide +kernel
theorem dX1_grow_41 : decode cX1_grow 41 = .ok (.getfield 68, 3) := by decide +kernel
theorem dX1_grow_44 : decode cX1_grow 44 = .ok (.iload_n 3, 1) := by decide +kernel
theorem dX1_grow_45 : decode cX1_grow 45 = .ok (.if_icmp .ne 18, 3) := by decide +kernel
theorem dX1_grow_48 : decode cX1_grow 48 = .ok (.aload_n 0, 1) := by decide +kernel
theorem dX1_grow_49 : decode cX1_grow 49 = .ok (.getfield 107, 3) := by decide +kernel
theorem dX1_grow_52 : decode cX1_grow 52 = .ok (.iload 4, 2) := by decide +kernel
theorem dX1_grow_54 : decode cX1_grow 54 = .ok (.if_icmp .ne 9, 3) := by decide +kernel
theorem dX1_grow_57 : decode cX1_grow 57 = .ok (.aload_n 0, 1) := by decide +kernel
theorem dX1_grow_58 : decode cX1_grow 58 = .ok (.iload_n 2, 1) := by decide +kernel
theorem dX1_grow_59 : decode cX1_grow 59 = .ok (.putfield 65, 3) := by decide +kernel
theorem dX1_grow_62 : decode cX1_grow 62 = .ok (.return_, 1) := by decide +kernel
theorem dX1_grow_63 : decode cX1_grow 63 = .ok (.aload_n 0, 1) := by decide +kernel
theorem dX1_grow_64 : decode cX1_grow 64 = .ok (.iload_n 1, 1) := by decide +kernel
theorem dX1_grow_65 : decode cX1_grow 65 = .ok (.putfield 32, 3) := by decide +kernel
theorem dX1_grow_68 : decode cX1_grow 68 = .ok (.aload_n 0, 1) := by decide +kernel
theorem dX1_grow_69 : decode cX1_grow 69 = .ok (.iload_n 2, 1) := by decide +kernel
theorem dX1_grow_70 : decode cX1_grow 70 = .ok (.putfield 65, 3) := by decide +kernel
theorem dX1_grow_73 : decode cX1_grow 73 = .ok (.aload_n 0, 1) := by decide +kernel
theorem dX1_grow_74 : decode cX1_grow 74 = .ok (.iload_n 3, 1) := by decide +kernel
theorem dX1_grow_75 : decode cX1_grow 75 = .ok (.putfield 68, 3) := by decide +kernel
theorem dX1_grow_78 : decode cX1_grow 78 = .ok (.aload_n 0, 1) := by decide +kernel
theorem dX1_grow_79 : decode cX1_grow 79 = .ok (.iload 4, 2) := by decide +kernel
theorem dX1_grow_81 : decode cX1_grow 81 = .ok (.putfield 107, 3) := by decide +kernel
theorem dX1_grow_84 : decode cX1_grow 84 = .ok (.aload_n 0, 1) := by decide +kernel
theorem dX1_grow_85 : decode cX1_grow 85 = .ok (.iconst 0, 1) := by decide +kernel
theorem dX1_grow_86 : decode cX1_grow 86 = .ok (.putfield 58, 3) := by decide +kernel
theorem dX1_grow_89 : decode cX1_grow 89 = .ok (.aload_n 0, 1) := by decide +kernel
theorem dX1_grow_90 : decode cX1_grow 90 = .ok (.iload_n 1, 1) := by decide +kernel
theorem dX1_grow_91 : decode cX1_grow 91 = .ok (.iconst 0, 1) := by decide +kernel
theorem dX1_grow_92 : decode cX1_grow 92 = .ok (.invokevirtual 111, 3) := by decide +kernel
theorem dX1_grow_95 : decode cX1_grow 95 = .ok (.pop, 1) := by decide +kernel
theorem dX1_grow_96 : decode cX1_grow 96 = .ok (.iconst 0, 1) := by decide +kernel
theorem dX1_grow_97 : decode cX1_grow 97 = .ok (.istore 5, 2) := by decide +kernel
theorem dX1_grow_99 : decode cX1_grow 99 = .ok (.iload 5, 2) := by decide +kernel
theorem dX1_grow_101 : decode cX1_grow 101 = .ok (.aload_n 0, 1) := by decide +kernel
theorem dX1_grow_102 : decode cX1_grow 102 = .ok (.getfield 58, 3) := by decide +kernel
theorem dX1_grow_105 : decode cX1_grow 105 = .ok (.if_icmp .ge 97, 3) := by decide +kernel
theorem dX1_grow_108 : decode cX1_grow 108 = .ok (.iload 5, 2) := by decide +kernel
theorem dX1_grow_110 : decode cX1_grow 110 = .ok (.sipush 350, 3) := by decide +kernel
theorem dX1_grow_113 : decode cX1_grow 113 = .ok (.if_icmp .ge 89, 3) := by decide +kernel
theorem dX1_grow_116 : decode cX1_grow 116 = .ok (.aload_n 0, 1) := by decide +kernel
theorem dX1_grow_117 : decode cX1_grow 117 = .ok (.getfield 13, 3) := by decide +kernel
theorem dX1_grow_120 : decode cX1_grow 120 = .ok (.iload 5, 2) := by decide +kernel
theorem dX1_grow_122 : decode cX1_grow 122 = .ok (.iaload, 1) := by decide +kernel
theorem dX1_grow_123 : decode cX1_grow 123 = .ok (.ldc 114, 2) := by decide +kernel
theorem dX1_grow_125 : decode cX1_grow 125 = .ok (.iand, 1) := by decide +kernel
theorem dX1_grow_126 : decode cX1_grow 126 = .ok (.istore 6, 2) := by decide +kernel
theorem dX1_grow_128 : decode cX1_grow 128 = .ok (.aload_n 0, 1) := by decide +kernel
theorem dX1_grow_129 : decode cX1_grow 129 = .ok (.getfield 13, 3) := by decide +kernel
theorem dX1_grow_132 : decode cX1_grow 132 = .ok (.iload 5, 2) := by decide +kernel
theorem dX1_grow_134 : decode cX1_grow 134 = .ok (.iaload, 1) := by decide +kernel
theorem dX1_grow_135 : decode cX1_grow 135 = .ok (.bipush 27, 2) := by decide +kernel
theorem dX1_grow_137 : decode cX1_grow 137 = .ok (.ishr, 1) := by decide +kernel
theorem dX1_grow_138 : decode cX1_grow 138 = .ok (.istore 7, 2) := by decide +kernel
theorem dX1_grow_140 : decode cX1_grow 140 = .ok (.iconst 0, 1) := by decide +kernel
theorem dX1_grow_141 : decode cX1_grow 141 = .ok (.istore 8, 2) := by decide +kernel
theorem dX1_grow_143 : decode cX1_grow 143 = .ok (.iload 8, 2) := by decide +kernel
theorem dX1_grow_145 : decode cX1_grow 145 = .ok (.iconst 4, 1) := by decide +kernel
theorem dX1_grow_146 : decode cX1_grow 146 = .ok (.if_icmp .ge 50, 3) := by decide +kernel
theorem dX1_grow_149 : decode cX1_grow 149 = .ok (.aload_n 0, 1) := by decide +kernel
theorem dX1_grow_150 : decode cX1_grow 150 = .ok (.getfield 17, 3) := by decide +kernel
theorem dX1_grow_153 : decode cX1_grow 153 = .ok (.iload 5, 2) := by decide +kernel
theorem dX1_grow_155 : decode cX1_grow 155 = .ok (.iconst 4, 1) := by decide +kernel
theorem dX1_grow_156 : decode cX1_grow 156 = .ok (.imul, 1) := by decide +kernel
theorem dX1_grow_157 : decode cX1_grow 157 = .ok (.iload 8, 2) := by decide +kernel
theorem dX1_grow_159 : decode cX1_grow 159 = .ok (.iadd, 1) := by decide +kernel
theorem dX1_grow_160 : decode cX1_grow 160 = .ok (.iload 6, 2) := by decide +kernel
theorem dX1_grow_162 : decode cX1_grow 162 = .ok (.iload 8, 2) := by decide +kernel
theorem dX1_grow_164 : decode cX1_grow 164 = .ok (.invokestatic 115, 3) := by decide +kernel
theorem dX1_grow_167 : decode cX1_grow 167 = .ok (.ifCond .eq 21, 3) := by decide +kernel
theorem dX1_grow_170 : decode cX1_grow 170 = .ok (.aload_n 0, 1) := by decide +kernel
theorem dX1_grow_171 : decode cX1_grow 171 = .ok (.iload 6, 2) := by decide +kernel
theorem dX1_grow_173 : decode cX1_grow 173 = .ok (.iload 8, 2) := by decide +kernel
theorem dX1_grow_175 : decode cX1_grow 175 = .ok (.invokestatic 119, 3) := by decide +kernel
theorem dX1_grow_178 : decode cX1_grow 178 = .ok (.iload 7, 2) := by decide +kernel
theorem dX1_grow_180 : decode cX1_grow 180 = .ok (.iconst 1, 1) := by decide +kernel
theorem dX1_grow_181 : decode cX1_grow 181 = .ok (.iadd, 1) := by decide +kernel
theorem dX1_grow_182 : decode cX1_grow 182 = .ok (.invokevirtual 111, 3) := by decide +kernel
theorem dX1_grow_185 : decode cX1_grow 185 = .ok (.goto 4, 3) := by decide +kernel
theorem dX1_grow_188 : decode cX1_grow 188 = .ok (.iconst (-1), 1) := by decide +kernel
theorem dX1_grow_189 : decode cX1_grow 189 = .ok (.iastore, 1) := by decide +kernel
theorem dX1_grow_190 : decode cX1_grow 190 = .ok (.iinc 8 1, 3) := by decide +kernel
theorem dX1_grow_193 : decode cX1_grow 193 = .ok (.goto (-50), 3) := by decide +kernel
theorem dX1_grow_196 : decode cX1_grow 196 = .ok (.iinc 5 1, 3) := by decide +kernel
theorem dX1_grow_199 : decode cX1_grow 199 = .ok (.goto (-100), 3) := by decide +kernel
theorem dX1_grow_202 : decode cX1_grow 202 = .ok (.return_, 1) := by decide +kernel
theorem dX1_add_0 : decode cX1_add 0 = .ok (.iload_n 2, 1) := by decide +kernel
theorem dX1_add_1 : decode cX1_add 1 = .ok (.aload_n 0, 1) := by decide +kernel
theorem dX1_add_2 : decode cX1_add 2 = .ok (.getfield 68, 3) := by decide +kernel
theorem dX1_add_5 : decode cX1_add 5 = .ok (.if_icmp .lt 7, 3) := by decide +kernel
theorem dX1_add_8 : decode cX1_add 8 = .ok (.sipush 350, 3) := by decide +kernel
theorem dX1_add_11 : decode cX1_add 11 = .ok (.ireturn, 1) := by decide +kernel
theorem dX1_add_12 : decode cX1_add 12 = .ok (.aload_n 0, 1) := by decide +kernel
theorem dX1_add_13 : decode cX1_add 13 = .ok (.iload_n 1, 1) := by decide +kernel
theorem dX1_add_14 : decode cX1_add 14 = .ok (.aload_n 0, 1) := by decide +kernel
theorem dX1_add_15 : decode cX1_add 15 = .ok (.getfield 68, 3) := by decide +kernel
theorem dX1_add_18 : decode cX1_add 18 = .ok (.iload_n 2, 1) := by decide +kernel
theorem dX1_add_19 : decode cX1_add 19 = .ok (.isub, 1) := by decide +kernel
theorem dX1_add_20 : decode cX1_add 20 = .ok (.invokevirtual 71, 3) := by decide +kernel
theorem dX1_add_23 : decode cX1_add 23 = .ok (.iload_n 2, 1) := by decide +kernel
theorem dX1_add_24 : decode cX1_add 24 = .ok (.bipush 27, 2) := by decide +kernel
theorem dX1_add_26 : decode cX1_add 26 = .ok (.ishl, 1) := by decide +kernel
theorem dX1_add_27 : decode cX1_add 27 = .ok (.ior, 1) := by decide +kernel
theorem dX1_add_28 : decode cX1_add 28 = .ok (.istore_n 3, 1) := by decide +kernel
theorem dX1_add_29 : decode cX1_add 29 = .ok (.aload_n 0, 1) := by decide +kernel
theorem dX1_add_30 : decode cX1_add 30 = .ok (.iload_n 3, 1) := by decide +kernel
theorem dX1_add_31 : decode cX1_add 31 = .ok (.invokevirtual 77, 3) := by decide +kernel
theorem dX1_add_34 : decode cX1_add 34 = .ok (.istore 4, 2) := by decide +kernel
theorem dX1_add_36 : decode cX1_add 36 = .ok (.iload 4, 2) := by decide +kernel
theorem dX1_add_38 : decode cX1_add 38 = .ok (.ifCond .ge 7, 3) := by decide +kernel
theorem dX1_add_41 : decode cX1_add 41 = .ok (.sipush 350, 3) := by decide +kernel
theorem dX1_add_44 : decode cX1_add 44 = .ok (.ireturn, 1) := by decide +kernel
theorem dX1_add_45 : decode cX1_add 45 = .ok (.aload_n 0, 1) := by decide +kernel
theorem dX1_add_46 : decode cX1_add 46 = .ok (.iload 4, 2) := by decide +kernel
theorem dX1_add_48 : decode cX1_add 48 = .ok (.invokevirtual 81, 3) := by decide +kernel
theorem dX1_add_51 : decode cX1_add 51 = .ok (.ifCond .eq 11, 3) := by decide +kernel
theorem dX1_add_54 : decode cX1_add 54 = .ok (.aload_n 0, 1) := by decide +kernel
theorem dX1_add_55 : decode cX1_add 55 = .ok (.getfield 26, 3) := by decide +kernel
theorem dX1_add_58 : decode cX1_add 58 = .ok (.iload 4, 2) := by decide +kernel
theorem dX1_add_60 : decode cX1_add 60 = .ok (.iaload, 1) := by decide +kernel
theorem dX1_add_61 : decode cX1_add 61 = .ok (.ireturn, 1) := by decide +kernel
theorem dX1_add_62 : decode cX1_add 62 = .ok (.aload_n 0, 1) := by decide +kernel
theorem dX1_add_63 : decode cX1_add 63 = .ok (.getfield 58, 3) := by decide +kernel
theorem dX1_add_66 : decode cX1_add 66 = .ok (.sipush 350, 3) := by decide +kernel
theorem dX1_add_69 : decode cX1_add 69 = .ok (.if_icmp .lt 7, 3) := by decide +kernel
theorem dX1_add_72 : decode cX1_add 72 = .ok (.sipush 350, 3) := by decide +kernel
theorem dX1_add_75 : decode cX1_add 75 = .ok (.ireturn, 1) := by decide +kernel
theorem dX1_add_76 : decode cX1_add 76 = .ok (.aload_n 0, 1) := by decide +kernel
theorem dX1_add_77 : decode cX1_add 77 = .ok (.getfield 13, 3) := by decide +kernel
theorem dX1_add_80 : decode cX1_add 80 = .ok (.aload_n 0, 1) := by decide +kernel
theorem dX1_add_81 : decode cX1_add 81 = .ok (.getfield 58, 3) := by decide +kernel
theorem dX1_add_84 : decode cX1_add 84 = .ok (.iload_n 3, 1) := by decide +kernel
theorem dX1_add_85 : decode cX1_add 85 = .ok (.iastore, 1) := by decide +kernel
theorem dX1_add_86 : decode cX1_add 86 = .ok (.aload_n 0, 1) := by decide +kernel
theorem dX1_add_87 : decode cX1_add 87 = .ok (.getfield 29, 3) := by decide +kernel
theorem dX1_add_90 : decode cX1_add 90 = .ok (.aload_n 0, 1) := by decide +kernel
theorem dX1_add_91 : decode cX1_add 91 = .ok (.getfield 58, 3) := by decide +kernel
theorem dX1_add_94 : decode cX1_add 94 = .ok (.iload 4, 2) := by decide +kernel
theorem dX1_add_96 : decode cX1_add 96 = .ok (.iastore, 1) := by decide +kernel
theorem dX1_add_97 : decode cX1_add 97 = .ok (.aload_n 0, 1) := by decide +kernel
theorem dX1_add_98 : decode cX1_add 98 = .ok (.getfield 26, 3) := by decide +kernel
theorem dX1_add_101 : decode cX1_add 101 = .ok (.iload 4, 2) := by decide +kernel
theorem dX1_add_103 : decode cX1_add 103 = .ok (.aload_n 0, 1) := by decide +kernel
theorem dX1_add_104 : decode cX1_add 104 = .ok (.getfield 58, 3) := by decide +kernel
theorem dX1_add_107 : decode cX1_add 107 = .ok (.iastore, 1) := by decide +kernel
theorem dX1_add_108 : decode cX1_add 108 = .ok (.aload_n 0, 1) := by decide +kernel
theorem dX1_add_109 : decode cX1_add 109 = .ok (.dup, 1) := by decide +kernel
theorem dX1_add_110 : decode cX1_add 110 = .ok (.getfield 58, 3) := by decide +kernel
theorem dX1_add_113 : decode cX1_add 113 = .ok (.dup_x1, 1) := by decide +kernel
theorem dX1_add_114 : decode cX1_add 114 = .ok (.iconst 1, 1) := by decide +kernel
theorem dX1_add_115 : decode cX1_add 115 = .ok (.iadd, 1) := by decide +kernel
theorem dX1_add_116 : decode cX1_add 116 = .ok (.putfield 58, 3) := by decide +kernel
theorem dX1_add_119 : decode cX1_add 119 = .ok (.ireturn, 1) := by decide +kernel
theorem dX1_isTaken_0 : decode cX1_isTaken 0 = .ok (.aload_n 0, 1) := by decide +kernel
theorem dX1_isTaken_1 : decode cX1_isTaken 1 = .ok (.getfield 26, 3) := by decide +kernel
theorem dX1_isTaken_4 : decode cX1_isTaken 4 = .ok (.iload_n 1, 1) := by decide +kernel
theorem dX1_isTaken_5 : decode cX1_isTaken 5 = .ok (.iaload, 1) := by decide +kernel
theorem dX1_isTaken_6 : decode cX1_isTaken 6 = .ok (.istore_n 2, 1) := by decide +kernel
theorem dX1_isTaken_7 : decode cX1_isTaken 7 = .ok (.iload_n 2, 1) := by decide +kernel
theorem dX1_isTaken_8 : decode cX1_isTaken 8 = .ok (.aload_n 0, 1) := by decide +kernel
theorem dX1_isTaken_9 : decode cX1_isTaken 9 = .ok (.getfield 58, 3) := by decide +kernel
theorem dX1_isTaken_12 : decode cX1_isTaken 12 = .ok (.if_icmp .ge 17, 3) := by decide +kernel
theorem dX1_isTaken_15 : decode cX1_isTaken 15 = .ok (.aload_n 0, 1) := by decide +kernel
theorem dX1_isTaken_16 : decode cX1_isTaken 16 = .ok (.getfield 29, 3) := by decide +kernel
theorem dX1_isTaken_19 : decode cX1_isTaken 19 = .ok (.iload_n 2, 1) := by decide +kernel
theorem dX1_isTaken_20 : decode cX1_isTaken 20 = .ok (.iaload, 1) := by decide +kernel
theorem dX1_isTaken_21 : decode cX1_isTaken 21 = .ok (.iload_n 1, 1) := by decide +kernel
theorem dX1_isTaken_22 : decode cX1_isTaken 22 = .ok (.if_icmp .ne 7, 3) := by decide +kernel
theorem dX1_isTaken_25 : decode cX1_isTaken 25 = .ok (.iconst 1, 1) := by decide +kernel
theorem dX1_isTaken_26 : decode cX1_isTaken 26 = .ok (.goto 4, 3) := by decide +kernel
theorem dX1_isTaken_29 : decode cX1_isTaken 29 = .ok (.iconst 0, 1) := by decide +kernel
theorem dX1_isTaken_30 : decode cX1_isTaken 30 = .ok (.ireturn, 1) := by decide +kernel
theorem dX1_slotFor_0 : decode cX1_slotFor 0 = .ok (.iload_n 1, 1) := by decide +kernel
theorem dX1_slotFor_1 : decode cX1_slotFor 1 = .ok (.ldc 122, 2) := by decide +kernel
theorem dX1_slotFor_3 : decode cX1_slotFor 3 = .ok (.imul, 1) := by decide +kernel
theorem dX1_slotFor_4 : decode cX1_slotFor 4 = .ok (.bipush 22, 2) := by decide +kernel
theorem dX1_slotFor_6 : decode cX1_slotFor 6 = .ok (.iushr, 1) := by decide +kernel
theorem dX1_slotFor_7 : decode cX1_slotFor 7 = .ok (.istore_n 2, 1) := by decide +kernel
theorem dX1_slotFor_8 : decode cX1_slotFor 8 = .ok (.iconst 0, 1) := by decide +kernel
theorem dX1_slotFor_9 : decode cX1_slotFor 9 = .ok (.istore_n 3, 1) := by decide +kernel
theorem dX1_slotFor_10 : decode cX1_slotFor 10 = .ok (.iload_n 3, 1) := by decide +kernel
theorem dX1_slotFor_11 : decode cX1_slotFor 11 = .ok (.sipush 1024, 3) := by decide +kernel
theorem dX1_slotFor_14 : decode cX1_slotFor 14 = .ok (.if_icmp .ge 46, 3) := by decide +kernel
theorem dX1_slotFor_17 : decode cX1_slotFor 17 = .ok (.iload_n 2, 1) := by decide +kernel
theorem dX1_slotFor_18 : decode cX1_slotFor 18 = .ok (.iload_n 3, 1) := by decide +kernel
theorem dX1_slotFor_19 : decode cX1_slotFor 19 = .ok (.iadd, 1) := by decide +kernel
theorem dX1_slotFor_20 : decode cX1_slotFor 20 = .ok (.sipush 1023, 3) := by decide +kernel
theorem dX1_slotFor_23 : decode cX1_slotFor 23 = .ok (.iand, 1) := by decide +kernel
theorem dX1_slotFor_24 : decode cX1_slotFor 24 = .ok (.istore 4, 2) := by decide +kernel
theorem dX1_slotFor_26 : decode cX1_slotFor 26 = .ok (.aload_n 0, 1) := by decide +kernel
theorem dX1_slotFor_27 : decode cX1_slotFor 27 = .ok (.iload 4, 2) := by decide +kernel
theorem dX1_slotFor_29 : decode cX1_slotFor 29 = .ok (.invokevirtual 81, 3) := by decide +kernel
theorem dX1_slotFor_32 : decode cX1_slotFor 32 = .ok (.ifCond .eq 19, 3) := by decide +kernel
theorem dX1_slotFor_35 : decode cX1_slotFor 35 = .ok (.aload_n 0, 1) := by decide +kernel
theorem dX1_slotFor_36 : decode cX1_slotFor 36 = .ok (.getfield 13, 3) := by decide +kernel
theorem dX1_slotFor_39 : decode cX1_slotFor 39 = .ok (.aload_n 0, 1) := by decide +kernel
theorem dX1_slotFor_40 : decode cX1_slotFor 40 = .ok (.getfield 26, 3) := by decide +kernel
theorem dX1_slotFor_43 : decode cX1_slotFor 43 = .ok (.iload 4, 2) := by decide +kernel
theorem dX1_slotFor_45 : decode cX1_slotFor 45 = .ok (.iaload, 1) := by decide +kernel
theorem dX1_slotFor_46 : decode cX1_slotFor 46 = .ok (.iaload, 1) := by decide +kernel
theorem dX1_slotFor_47 : decode cX1_slotFor 47 = .ok (.iload_n 1, 1) := by decide +kernel
theorem dX1_slotFor_48 : decode cX1_slotFor 48 = .ok (.if_icmp .ne 6, 3) := by decide +kernel
theorem dX1_slotFor_51 : decode cX1_slotFor 51 = .ok (.iload 4, 2) := by decide +kernel
theorem dX1_slotFor_53 : decode cX1_slotFor 53 = .ok (.ireturn, 1) := by decide +kernel
theorem dX1_slotFor_54 : decode cX1_slotFor 54 = .ok (.iinc 3 1, 3) := by decide +kernel
theorem dX1_slotFor_57 : decode cX1_slotFor 57 = .ok (.goto (-47), 3) := by decide +kernel
theorem dX1_slotFor_60 : decode cX1_slotFor 60 = .ok (.iconst (-1), 1) := by decide +kernel
theorem dX1_slotFor_61 : decode cX1_slotFor 61 = .ok (.ireturn, 1) := by decide +kernel
theorem dX1_trimmed_0 : decode cX1_trimmed 0 = .ok (.iload_n 1, 1) := by decide +kernel
theorem dX1_trimmed_1 : decode cX1_trimmed 1 = .ok (.istore_n 3, 1) := by decide +kernel
theorem dX1_trimmed_2 : decode cX1_trimmed 2 = .ok (.iconst 0, 1) := by decide +kernel
theorem dX1_trimmed_3 : decode cX1_trimmed 3 = .ok (.istore 4, 2) := by decide +kernel
theorem dX1_trimmed_5 : decode cX1_trimmed 5 = .ok (.iload 4, 2) := by decide +kernel
theorem dX1_trimmed_7 : decode cX1_trimmed 7 = .ok (.iconst 4, 1) := by decide +kernel
theorem dX1_trimmed_8 : decode cX1_trimmed 8 = .ok (.if_icmp .ge 82, 3) := by decide +kernel
theorem dX1_trimmed_11 : decode cX1_trimmed 11 = .ok (.iload_n 1, 1) := by decide +kernel
theorem dX1_trimmed_12 : decode cX1_trimmed 12 = .ok (.iload 4, 2) := by decide +kernel
theorem dX1_trimmed_14 : decode cX1_trimmed 14 = .ok (.invokestatic 123, 3) := by decide +kernel
theorem dX1_trimmed_17 : decode cX1_trimmed 17 = .ok (.istore 5, 2) := by decide +kernel
theorem dX1_trimmed_19 : decode cX1_trimmed 19 = .ok (.iload_n 1, 1) := by decide +kernel
theorem dX1_trimmed_20 : decode cX1_trimmed 20 = .ok (.invokestatic 126, 3) := by decide +kernel
theorem dX1_trimmed_23 : decode cX1_trimmed 23 = .ok (.iload 4, 2) := by decide +kernel
theorem dX1_trimmed_25 : decode cX1_trimmed 25 = .ok (.if_icmp .ne 7, 3) := by decide +kernel
theorem dX1_trimmed_28 : decode cX1_trimmed 28 = .ok (.iload_n 2, 1) := by decide +kernel
theorem dX1_trimmed_29 : decode cX1_trimmed 29 = .ok (.goto 6, 3) := by decide +kernel
theorem dX1_trimmed_32 : decode cX1_trimmed 32 = .ok (.iload_n 2, 1) := by decide +kernel
theorem dX1_trimmed_33 : decode cX1_trimmed 33 = .ok (.iconst 1, 1) := by decide +kernel
theorem dX1_trimmed_34 : decode cX1_trimmed 34 = .ok (.iadd, 1) := by decide +kernel
theorem dX1_trimmed_35 : decode cX1_trimmed 35 = .ok (.iconst 2, 1) := by decide +kernel
theorem dX1_trimmed_36 : decode cX1_trimmed 36 = .ok (.idiv, 1) := by decide +kernel
theorem dX1_trimmed_37 : decode cX1_trimmed 37 = .ok (.istore 6, 2) := by decide +kernel
theorem dX1_trimmed_39 : decode cX1_trimmed 39 = .ok (.aload_n 0, 1) := by decide +kernel
theorem dX1_trimmed_40 : decode cX1_trimmed 40 = .ok (.getfield 107, 3) := by decide +kernel
theorem dX1_trimmed_43 : decode cX1_trimmed 43 = .ok (.ifCond .eq 8, 3) := by decide +kernel
theorem dX1_trimmed_46 : decode cX1_trimmed 46 = .ok (.iload_n 2, 1) := by decide +kernel
theorem dX1_trimmed_47 : decode cX1_trimmed 47 = .ok (.iconst 1, 1) := by decide +kernel
theorem dX1_trimmed_48 : decode cX1_trimmed 48 = .ok (.if_icmp .gt 23, 3) := by decide +kernel
theorem dX1_trimmed_51 : decode cX1_trimmed 51 = .ok (.iload 5, 2) := by decide +kernel
theorem dX1_trimmed_53 : decode cX1_trimmed 53 = .ok (.iload 6, 2) := by decide +kernel
theorem dX1_trimmed_55 : decode cX1_trimmed 55 = .ok (.if_icmp .le 16, 3) := by decide +kernel
theorem dX1_trimmed_58 : decode cX1_trimmed 58 = .ok (.iload 6, 2) := by decide +kernel
theorem dX1_trimmed_60 : decode cX1_trimmed 60 = .ok (.istore 5, 2) := by decide +kernel
theorem dX1_trimmed_62 : decode cX1_trimmed 62 = .ok (.iload_n 3, 1) := by decide +kernel
theorem dX1_trimmed_63 : decode cX1_trimmed 63 = .ok (.iload 4, 2) := by decide +kernel
theorem dX1_trimmed_65 : decode cX1_trimmed 65 = .ok (.iload 5, 2) := by decide +kernel
theorem dX1_trimmed_67 : decode cX1_trimmed 67 = .ok (.invokestatic 129, 3) := by decide +kernel
theorem dX1_trimmed_70 : decode cX1_trimmed 70 = .ok (.istore_n 3, 1) := by decide +kernel
theorem dX1_trimmed_71 : decode cX1_trimmed 71 = .ok (.iload 5, 2) := by decide +kernel
theorem dX1_trimmed_73 : decode cX1_trimmed 73 = .ok (.ifCond .ne 11, 3) := by decide +kernel
theorem dX1_trimmed_76 : decode cX1_trimmed 76 = .ok (.iload_n 3, 1) := by decide +kernel
theorem dX1_trimmed_77 : decode cX1_trimmed 77 = .ok (.iload 4, 2) := by decide +kernel
theorem dX1_trimmed_79 : decode cX1_trimmed 79 = .ok (.iconst 0, 1) := by decide +kernel
theorem dX1_trimmed_80 : decode cX1_trimmed 80 = .ok (.invokestatic 133, 3) := by decide +kernel
theorem dX1_trimmed_83 : decode cX1_trimmed 83 = .ok (.istore_n 3, 1) := by decide +kernel
theorem dX1_trimmed_84 : decode cX1_trimmed 84 = .ok (.iinc 4 1, 3) := by decide +kernel
theorem dX1_trimmed_87 : decode cX1_trimmed 87 = .ok (.goto (-82), 3) := by decide +kernel
theorem dX1_trimmed_90 : decode cX1_trimmed 90 = .ok (.iload_n 3, 1) := by decide +kernel
theorem dX1_trimmed_91 : decode cX1_trimmed 91 = .ok (.ireturn, 1) := by decide +kernel
theorem dX1_judge_0 : decode cX1_judge 0 = .ok (.aload_n 0, 1) := by decide +kernel
theorem dX1_judge_1 : decode cX1_judge 1 = .ok (.getfield 13, 3) := by decide +kernel
theorem dX1_judge_4 : decode cX1_judge 4 = .ok (.iload_n 1, 1) := by decide +kernel
theorem dX1_judge_5 : decode cX1_judge 5 = .ok (.iaload, 1) := by decide +kernel
theorem dX1_judge_6 : decode cX1_judge 6 = .ok (.ldc 114, 2) := by decide +kernel
theorem dX1_judge_8 : decode cX1_judge 8 = .ok (.iand, 1) := by decide +kernel
theorem dX1_judge_9 : decode cX1_judge 9 = .ok (.istore 5, 2) := by decide +kernel
theorem dX1_judge_11 : decode cX1_judge 11 = .ok (.aload_n 0, 1) := by decide +kernel
theorem dX1_judge_12 : decode cX1_judge 12 = .ok (.getfield 13, 3) := by decide +kernel
theorem dX1_judge_15 : decode cX1_judge 15 = .ok (.iload_n 1, 1) := by decide +kernel
theorem dX1_judge_16 : decode cX1_judge 16 = .ok (.iaload, 1) := by decide +kernel
theorem dX1_judge_17 : decode cX1_judge 17 = .ok (.bipush 27, 2) := by decide +kernel
theorem dX1_judge_19 : decode cX1_judge 19 = .ok (.ishr, 1) := by decide +kernel
theorem dX1_judge_20 : decode cX1_judge 20 = .ok (.istore 6, 2) := by decide +kernel
theorem dX1_judge_22 : decode cX1_judge 22 = .ok (.iload_n 1, 1) := by decide +kernel
theorem dX1_judge_23 : decode cX1_judge 23 = .ok (.bipush 9, 2) := by decide +kernel
theorem dX1_judge_25 : decode cX1_judge 25 = .ok (.imul, 1) := by decide +kernel
theorem dX1_judge_26 : decode cX1_judge 26 = .ok (.istore 7, 2) := by decide +kernel
theorem dX1_judge_28 : decode cX1_judge 28 = .ok (.iconst 0, 1) := by decide +kernel
theorem dX1_judge_29 : decode cX1_judge 29 = .ok (.iload_n 3, 1) := by decide +kernel
theorem dX1_judge_30 : decode cX1_judge 30 = .ok (.invokestatic 93, 3) := by decide +kernel
theorem dX1_judge_33 : decode cX1_judge 33 = .ok (.istore 8, 2) := by decide +kernel
theorem dX1_judge_35 : decode cX1_judge 35 = .ok (.iload 4, 2) := by decide +kernel
theorem dX1_judge_37 : decode cX1_judge 37 = .ok (.aload_n 2, 1) := by decide +kernel
theorem dX1_judge_38 : decode cX1_judge 38 = .ok (.arraylength, 1) := by decide +kernel
theorem dX1_judge_39 : decode cX1_judge 39 = .ok (.iconst 1, 1) := by decide +kernel
theorem dX1_judge_40 : decode cX1_judge 40 = .ok (.isub, 1) := by decide +kernel
theorem dX1_judge_41 : decode cX1_judge 41 = .ok (.invokestatic 88, 3) := by decide +kernel
theorem dX1_judge_44 : decode cX1_judge 44 = .ok (.iload_n 3, 1) := by decide +kernel
theorem dX1_judge_45 : decode cX1_judge 45 = .ok (.iconst 1, 1) := by decide +kernel
theorem dX1_judge_46 : decode cX1_judge 46 = .ok (.iadd, 1) := by decide +kernel
theorem dX1_judge_47 : decode cX1_judge 47 = .ok (.iload 6, 2) := by decide +kernel
theorem dX1_judge_49 : decode cX1_judge 49 = .ok (.iadd, 1) := by decide +kernel
theorem dX1_judge_50 : decode cX1_judge 50 = .ok (.invokestatic 88, 3) := by decide +kernel
theorem dX1_judge_53 : decode cX1_judge 53 = .ok (.istore 9, 2) := by decide +kernel
theorem dX1_judge_55 : decode cX1_judge 55 = .ok (.iload 8, 2) := by decide +kernel
theorem dX1_judge_57 : decode cX1_judge 57 = .ok (.istore 10, 2) := by decide +kernel
theorem dX1_judge_59 : decode cX1_judge 59 = .ok (.iload 10, 2) := by decide +kernel
theorem dX1_judge_61 : decode cX1_judge 61 = .ok (.iload 9, 2) := by decide +kernel
theorem dX1_judge_63 : decode cX1_judge 63 = .ok (.if_icmp .gt 31, 3) := by decide +kernel
theorem dX1_judge_66 : decode cX1_judge 66 = .ok (.aload_n 0, 1) := by decide +kernel
theorem dX1_judge_67 : decode cX1_judge 67 = .ok (.getfield 20, 3) := by decide +kernel
theorem dX1_judge_70 : decode cX1_judge 70 = .ok (.iload 7, 2) := by decide +kernel
theorem dX1_judge_72 : decode cX1_judge 72 = .ok (.iload 10, 2) := by decide +kernel
theorem dX1_judge_74 : decode cX1_judge 74 = .ok (.iadd, 1) := by decide +kernel
theorem dX1_judge_75 : decode cX1_judge 75 = .ok (.iconst 0, 1) := by decide +kernel
theorem dX1_judge_76 : decode cX1_judge 76 = .ok (.iastore, 1) := by decide +kernel
theorem dX1_judge_77 : decode cX1_judge 77 = .ok (.aload_n 0, 1) := by decide +kernel
theorem dX1_judge_78 : decode cX1_judge 78 = .ok (.getfield 23, 3) := by decide +kernel
theorem dX1_judge_81 : decode cX1_judge 81 = .ok (.iload 7, 2) := by decide +kernel
theorem dX1_judge_83 : decode cX1_judge 83 = .ok (.iload 10, 2) := by decide +kernel
theorem dX1_judge_85 : decode cX1_judge 85 = .ok (.iadd, 1) := by decide +kernel
theorem dX1_judge_86 : decode cX1_judge 86 = .ok (.iconst (-1), 1) := by decide +kernel
theorem dX1_judge_87 : decode cX1_judge 87 = .ok (.iastore, 1) := by decide +kernel
theorem dX1_judge_88 : decode cX1_judge 88 = .ok (.iinc 10 1, 3) := by decide +kernel
theorem dX1_judge_91 : decode cX1_judge 91 = .ok (.goto (-32), 3) := by decide +kernel
theorem dX1_judge_94 : decode cX1_judge 94 = .ok (.aload_n 0, 1) := by decide +kernel
theorem dX1_judge_95 : decode cX1_judge 95 = .ok (.getfield 20, 3) := by decide +kernel
theorem dX1_judge_98 : decode cX1_judge 98 = .ok (.iload 7, 2) := by decide +kernel
theorem dX1_judge_100 : decode cX1_judge 100 = .ok (.aload_n 0, 1) := by decide +kernel
theorem dX1_judge_101 : decode cX1_judge 101 = .ok (.getfield 40, 3) := by decide +kernel
theorem dX1_judge_104 : decode cX1_judge 104 = .ok (.getfield 47, 3) := by decide +kernel
theorem dX1_judge_107 : decode cX1_judge 107 = .ok (.iadd, 1) := by decide +kernel
theorem dX1_judge_108 : decode cX1_judge 108 = .ok (.iconst 0, 1) := by decide +kernel
theorem dX1_judge_109 : decode cX1_judge 109 = .ok (.iastore, 1) := by decide +kernel
theorem dX1_judge_110 : decode cX1_judge 110 = .ok (.iconst 0, 1) := by decide +kernel
theorem dX1_judge_111 : decode cX1_judge 111 = .ok (.istore 10, 2) := by decide +kernel
theorem dX1_judge_113 : decode cX1_judge 113 = .ok (.iload 10, 2) := by decide +kernel
theorem dX1_judge_115 : decode cX1_judge 115 = .ok (.iconst 4, 1) := by decide +kernel
theorem dX1_judge_116 : decode cX1_judge 116 = .ok (.if_icmp .ge 200, 3) := by decide +kernel
theorem dX1_judge_119 : decode cX1_judge 119 = .ok (.aload_n 0, 1) := by decide +kernel
theorem dX1_judge_120 : decode cX1_judge 120 = .ok (.getfield 17, 3) := by decide +kernel
theorem dX1_judge_123 : decode cX1_judge 123 = .ok (.iload_n 1, 1) := by decide +kernel
theorem dX1_judge_124 : decode cX1_judge 124 = .ok (.iconst 4, 1) := by decide +kernel
theorem dX1_judge_125 : decode cX1_judge 125 = .ok (.imul, 1) := by decide +kernel
theorem dX1_judge_126 : decode cX1_judge 126 = .ok (.iload 10, 2) := by decide +kernel
theorem dX1_judge_128 : decode cX1_judge 128 = .ok (.iadd, 1) := by decide +kernel
theorem dX1_judge_129 : decode cX1_judge 129 = .ok (.iaload, 1) := by decide +kernel
theorem dX1_judge_130 : decode cX1_judge 130 = .ok (.bipush 9, 2) := by decide +kernel
theorem dX1_judge_132 : decode cX1_judge 132 = .ok (.imul, 1) := by decide +kernel
theorem dX1_judge_133 : decode cX1_judge 133 = .ok (.istore 11, 2) := by decide +kernel
theorem dX1_judge_135 : decode cX1_judge 135 = .ok (.iload 11, 2) := by decide +kernel
theorem dX1_judge_137 : decode cX1_judge 137 = .ok (.ifCond .ge 6, 3) := by decide +kernel
theorem dX1_judge_140 : decode cX1_judge 140 = .ok (.goto 170, 3) := by decide +kernel
theorem dX1_judge_143 : decode cX1_judge 143 = .ok (.iload 5, 2) := by decide +kernel
theorem dX1_judge_145 : decode cX1_judge 145 = .ok (.iload 10, 2) := by decide +kernel
theorem dX1_judge_147 : decode cX1_judge 147 = .ok (.invokestatic 136, 3) := by decide +kernel
theorem dX1_judge_150 : decode cX1_judge 150 = .ok (.istore 12, 2) := by decide +kernel
theorem dX1_judge_152 : decode cX1_judge 152 = .ok (.iload 5, 2) := by decide +kernel
theorem dX1_judge_154 : decode cX1_judge 154 = .ok (.iload 10, 2) := by decide +kernel
theorem dX1_judge_156 : decode cX1_judge 156 = .ok (.invokestatic 123, 3) := by decide +kernel
theorem dX1_judge_159 : decode cX1_judge 159 = .ok (.istore 13, 2) := by decide +kernel
theorem dX1_judge_161 : decode cX1_judge 161 = .ok (.iload 8, 2) := by decide +kernel
theorem dX1_judge_163 : decode cX1_judge 163 = .ok (.istore 14, 2) := by decide +kernel
theorem dX1_judge_165 : decode cX1_judge 165 = .ok (.iload 14, 2) := by decide +kernel
theorem dX1_judge_167 : decode cX1_judge 167 = .ok (.iload 9, 2) := by decide +kernel
theorem dX1_judge_169 : decode cX1_judge 169 = .ok (.if_icmp .gt 141, 3) := by decide +kernel
theorem dX1_judge_172 : decode cX1_judge 172 = .ok (.aload_n 0, 1) := by decide +kernel
theorem dX1_judge_173 : decode cX1_judge 173 = .ok (.getfield 36, 3) := by decide +kernel
theorem dX1_judge_176 : decode cX1_judge 176 = .ok (.iload 10, 2) := by decide +kernel
theorem dX1_judge_178 : decode cX1_judge 178 = .ok (.aload_n 2, 1) := by decide +kernel
theorem dX1_judge_179 : decode cX1_judge 179 = .ok (.iload 14, 2) := by decide +kernel
theorem dX1_judge_181 : decode cX1_judge 181 = .ok (.iaload, 1) := by decide +kernel
theorem dX1_judge_182 : decode cX1_judge 182 = .ok (.iload 12, 2) := by decide +kernel
theorem dX1_judge_184 : decode cX1_judge 184 = .ok (.invokevirtual 139, 3) := by decide +kernel
theorem dX1_judge_187 : decode cX1_judge 187 = .ok (.istore 15, 2) := by decide +kernel
theorem dX1_judge_189 : decode cX1_judge 189 = .ok (.aload_n 0, 1) := by decide +kernel
theorem dX1_judge_190 : decode cX1_judge 190 = .ok (.getfield 36, 3) := by decide +kernel
theorem dX1_judge_193 : decode cX1_judge 193 = .ok (.iload 10, 2) := by decide +kernel
theorem dX1_judge_195 : decode cX1_judge 195 = .ok (.aload_n 2, 1) := by decide +kernel
theorem dX1_judge_196 : decode cX1_judge 196 = .ok (.iload 14, 2) := by decide +kernel
theorem dX1_judge_198 : decode cX1_judge 198 = .ok (.iaload, 1) := by decide +kernel
theorem dX1_judge_199 : decode cX1_judge 199 = .ok (.iload 12, 2) := by decide +kernel
theorem dX1_judge_201 : decode cX1_judge 201 = .ok (.iload 13, 2) := by decide +kernel
theorem dX1_judge_203 : decode cX1_judge 203 = .ok (.aload_n 0, 1) := by decide +kernel
theorem dX1_judge_204 : decode cX1_judge 204 = .ok (.getfield 65, 3) := by decide +kernel
theorem dX1_judge_207 : decode cX1_judge 207 = .ok (.iload 6, 2) := by decide +kernel
theorem dX1_judge_209 : decode cX1_judge 209 = .ok (.iadd, 1) := by decide +kernel
theorem dX1_judge_210 : decode cX1_judge 210 = .ok (.iload 14, 2) := by decide +kernel
theorem dX1_judge_212 : decode cX1_judge 212 = .ok (.invokevirtual 142, 3) := by decide +kernel
theorem dX1_judge_215 : decode cX1_judge 215 = .ok (.istore 16, 2) := by decide +kernel
theorem dX1_judge_217 : decode cX1_judge 217 = .ok (.aload_n 0, 1) := by decide +kernel
theorem dX1_judge_218 : decode cX1_judge 218 = .ok (.getfield 40, 3) := by decide +kernel
theorem dX1_judge_221 : decode cX1_judge 221 = .ok (.iload 15, 2) := by decide +kernel
theorem dX1_judge_223 : decode cX1_judge 223 = .ok (.iload 16, 2) := by decide +kernel
theorem dX1_judge_225 : decode cX1_judge 225 = .ok (.aload_n 0, 1) := by decide +kernel
theorem dX1_judge_226 : decode cX1_judge 226 = .ok (.getfield 20, 3) := by decide +kernel
theorem dX1_judge_229 : decode cX1_judge 229 = .ok (.iload 11, 2) := by decide +kernel
theorem dX1_judge_231 : decode cX1_judge 231 = .ok (.iload 14, 2) := by decide +kernel
theorem dX1_judge_233 : decode cX1_judge 233 = .ok (.iadd, 1) := by decide +kernel
theorem dX1_judge_234 : decode cX1_judge 234 = .ok (.iconst 1, 1) := by decide +kernel
theorem dX1_judge_235 : decode cX1_judge 235 = .ok (.iadd, 1) := by decide +kernel
theorem dX1_judge_236 : decode cX1_judge 236 = .ok (.iaload, 1) := by decide +kernel
theorem dX1_judge_237 : decode cX1_judge 237 = .ok (.aload_n 0, 1) := by decide +kernel
theorem dX1_judge_238 : decode cX1_judge 238 = .ok (.getfield 20, 3) := by decide +kernel
theorem dX1_judge_241 : decode cX1_judge 241 = .ok (.iload 11, 2) := by decide +kernel
theorem dX1_judge_243 : decode cX1_judge 243 = .ok (.iload 14, 2) := by decide +kernel
theorem dX1_judge_245 : decode cX1_judge 245 = .ok (.iadd, 1) := by decide +kernel
theorem dX1_judge_246 : decode cX1_judge 246 = .ok (.iaload, 1) := by decide +kernel
theorem dX1_judge_247 : decode cX1_judge 247 = .ok (.invokevirtual 146, 3) := by decide +kernel
theorem dX1_judge_250 : decode cX1_judge 250 = .ok (.istore 17, 2) := by decide +kernel
theorem dX1_judge_252 : decode cX1_judge 252 = .ok (.aload_n 0, 1) := by decide +kernel
theorem dX1_judge_253 : decode cX1_judge 253 = .ok (.getfield 23, 3) := by decide +kernel
theorem dX1_judge_256 : decode cX1_judge 256 = .ok (.iload 7, 2) := by decide +kernel
theorem dX1_judge_258 : decode cX1_judge 258 = .ok (.iload 14, 2) := by decide +kernel
theorem dX1_judge_260 : decode cX1_judge 260 = .ok (.iadd, 1) := by decide +kernel
theorem dX1_judge_261 : decode cX1_judge 261 = .ok (.iaload, 1) := by decide +kernel
theorem dX1_judge_262 : decode cX1_judge 262 = .ok (.ifCond .lt 18, 3) := by decide +kernel
theorem dX1_judge_265 : decode cX1_judge 265 = .ok (.iload 17, 2) := by decide +kernel
theorem dX1_judge_267 : decode cX1_judge 267 = .ok (.aload_n 0, 1) := by decide +kernel
theorem dX1_judge_268 : decode cX1_judge 268 = .ok (.getfield 20, 3) := by decide +kernel
theorem dX1_judge_271 : decode cX1_judge 271 = .ok (.iload 7, 2) := by decide +kernel
theorem dX1_judge_273 : decode cX1_judge 273 = .ok (.iload 14, 2) := by decide +kernel
theorem dX1_judge_275 : decode cX1_judge 275 = .ok (.iadd, 1) := by decide +kernel
theorem dX1_judge_276 : decode cX1_judge 276 = .ok (.iaload, 1) := by decide +kernel
theorem dX1_judge_277 : decode cX1_judge 277 = .ok (.if_icmp .ge 27, 3) := by decide +kernel
theorem dX1_judge_280 : decode cX1_judge 280 = .ok (.aload_n 0, 1) := by decide +kernel
theorem dX1_judge_281 : decode cX1_judge 281 = .ok (.getfield 20, 3) := by decide +kernel
theorem dX1_judge_284 : decode cX1_judge 284 = .ok (.iload 7, 2) := by decide +kernel
theorem dX1_judge_286 : decode cX1_judge 286 = .ok (.iload 14, 2) := by decide +kernel
theorem dX1_judge_288 : decode cX1_judge 288 = .ok (.iadd, 1) := by decide +kernel
theorem dX1_judge_289 : decode cX1_judge 289 = .ok (.iload 17, 2) := by decide +kernel
theorem dX1_judge_291 : decode cX1_judge 291 = .ok (.iastore, 1) := by decide +kernel
theorem dX1_judge_292 : decode cX1_judge 292 = .ok (.aload_n 0, 1) := by decide +kernel
theorem dX1_judge_293 : decode cX1_judge 293 = .ok (.getfield 23, 3) := by decide +kernel
theorem dX1_judge_296 : decode cX1_judge 296 = .ok (.iload 7, 2) := by decide +kernel
theorem dX1_judge_298 : decode cX1_judge 298 = .ok (.iload 14, 2) := by decide +kernel
theorem dX1_judge_300 : decode cX1_judge 300 = .ok (.iadd, 1) := by decide +kernel
theorem dX1_judge_301 : decode cX1_judge 301 = .ok (.iload 10, 2) := by decide +kernel
theorem dX1_judge_303 : decode cX1_judge 303 = .ok (.iastore, 1) := by decide +kernel
theorem dX1_judge_304 : decode cX1_judge 304 = .ok (.iinc 14 1, 3) := by decide +kernel
theorem dX1_judge_307 : decode cX1_judge 307 = .ok (.goto (-142), 3) := by decide +kernel
theorem dX1_judge_310 : decode cX1_judge 310 = .ok (.iinc 10 1, 3) := by decide +kernel
theorem dX1_judge_313 : decode cX1_judge 313 = .ok (.goto (-200), 3) := by decide +kernel
theorem dX1_judge_316 : decode cX1_judge 316 = .ok (.return_, 1) := by decide +kernel
theorem dX2_init_0 : decode cX2_init 0 = .ok (.aload_n 0, 1) := by decide +kernel
theorem dX2_init_1 : decode cX2_init 1 = .ok (.invokespecial 3, 3) := by decide +kernel
theorem dX2_init_4 : decode cX2_init 4 = .ok (.aload_n 0, 1) := by decide +kernel
theorem dX2_init_5 : decode cX2_init 5 = .ok (.bipush 12, 2) := by decide +kernel
theorem dX2_init_7 : decode cX2_init 7 = .ok (.newarray .int, 2) := by decide +kernel
theorem dX2_init_9 : decode cX2_init 9 = .ok (.putfield 11, 3) := by decide +kernel
theorem dX2_init_12 : decode cX2_init 12 = .ok (.aload_n 0, 1) := by decide +kernel
theorem dX2_init_13 : decode cX2_init 13 = .ok (.bipush 12, 2) := by decide +kernel
theorem dX2_init_15 : decode cX2_init 15 = .ok (.newarray .int, 2) := by decide +kernel
theorem dX2_init_17 : decode cX2_init 17 = .ok (.putfield 15, 3) := by decide +kernel
theorem dX2_init_20 : decode cX2_init 20 = .ok (.return_, 1) := by decide +kernel
theorem dX2_write_0 : decode cX2_write 0 = .ok (.aload_n 0, 1) := by decide +kernel
theorem dX2_write_1 : decode cX2_write 1 = .ok (.getfield 18, 3) := by decide +kernel
theorem dX2_write_4 : decode cX2_write 4 = .ok (.bipush 12, 2) := by decide +kernel
theorem dX2_write_6 : decode cX2_write 6 = .ok (.if_icmp .lt 6, 3) := by decide +kernel
theorem dX2_write_9 : decode cX2_write 9 = .ok (.bipush (-3), 2) := by decide +kernel
theorem dX2_write_11 : decode cX2_write 11 = .ok (.ireturn, 1) := by decide +kernel
theorem dX2_write_12 : decode cX2_write 12 = .ok (.aload_n 0, 1) := by decide +kernel
theorem dX2_write_13 : decode cX2_write 13 = .ok (.getfield 11, 3) := by decide +kernel
theorem dX2_write_16 : decode cX2_write 16 = .ok (.aload_n 0, 1) := by decide +kernel
theorem dX2_write_17 : decode cX2_write 17 = .ok (.getfield 18, 3) := by decide +kernel
theorem dX2_write_20 : decode cX2_write 20 = .ok (.iload_n 1, 1) := by decide +kernel
theorem dX2_write_21 : decode cX2_write 21 = .ok (.iastore, 1) := by decide +kernel
theorem dX2_write_22 : decode cX2_write 22 = .ok (.aload_n 0, 1) := by decide +kernel
theorem dX2_write_23 : decode cX2_write 23 = .ok (.getfield 15, 3) := by decide +kernel
theorem dX2_write_26 : decode cX2_write 26 = .ok (.aload_n 0, 1) := by decide +kernel
theorem dX2_write_27 : decode cX2_write 27 = .ok (.getfield 18, 3) := by decide +kernel
theorem dX2_write_30 : decode cX2_write 30 = .ok (.iload_n 2, 1) := by decide +kernel
theorem dX2_write_31 : decode cX2_write 31 = .ok (.iastore, 1) := by decide +kernel
theorem dX2_write_32 : decode cX2_write 32 = .ok (.aload_n 0, 1) := by decide +kernel
theorem dX2_write_33 : decode cX2_write 33 = .ok (.dup, 1) := by decide +kernel
theorem dX2_write_34 : decode cX2_write 34 = .ok (.getfield 18, 3) := by decide +kernel
theorem dX2_write_37 : decode cX2_write 37 = .ok (.iconst 1, 1) := by decide +kernel
theorem dX2_write_38 : decode cX2_write 38 = .ok (.iadd, 1) := by decide +kernel
theorem dX2_write_39 : decode cX2_write 39 = .ok (.dup_x1, 1) := by decide +kernel
theorem dX2_write_40 : decode cX2_write 40 = .ok (.putfield 18, 3) := by decide +kernel
theorem dX2_write_43 : decode cX2_write 43 = .ok (.ireturn, 1) := by decide +kernel
theorem dX2_bowlerAt_0 : decode cX2_bowlerAt 0 = .ok (.iload_n 1, 1) := by decide +kernel
theorem dX2_bowlerAt_1 : decode cX2_bowlerAt 1 = .ok (.ifCond .lt 11, 3) := by decide +kernel
theorem dX2_bowlerAt_4 : decode cX2_bowlerAt 4 = .ok (.iload_n 1, 1) := by decide +kernel
theorem dX2_bowlerAt_5 : decode cX2_bowlerAt 5 = .ok (.aload_n 0, 1) := by decide +kernel
theorem dX2_bowlerAt_6 : decode cX2_bowlerAt 6 = .ok (.getfield 18, 3) := by decide +kernel
theorem dX2_bowlerAt_9 : decode cX2_bowlerAt 9 = .ok (.if_icmp .lt 7, 3) := by decide +kernel
theorem dX2_bowlerAt_12 : decode cX2_bowlerAt 12 = .ok (.iconst (-1), 1) := by decide +kernel
theorem dX2_bowlerAt_13 : decode cX2_bowlerAt 13 = .ok (.goto 9, 3) := by decide +kernel
theorem dX2_bowlerAt_16 : decode cX2_bowlerAt 16 = .ok (.aload_n 0, 1) := by decide +kernel
theorem dX2_bowlerAt_17 : decode cX2_bowlerAt 17 = .ok (.getfield 11, 3) := by decide +kernel
theorem dX2_bowlerAt_20 : decode cX2_bowlerAt 20 = .ok (.iload_n 1, 1) := by decide +kernel
theorem dX2_bowlerAt_21 : decode cX2_bowlerAt 21 = .ok (.iaload, 1) := by decide +kernel
theorem dX2_bowlerAt_22 : decode cX2_bowlerAt 22 = .ok (.ireturn, 1) := by decide +kernel
theorem dX2_outs_0 : decode cX2_outs 0 = .ok (.iconst 0, 1) := by decide +kernel
theorem dX2_outs_1 : decode cX2_outs 1 = .ok (.istore_n 2, 1) := by decide +kernel
theorem dX2_outs_2 : decode cX2_outs 2 = .ok (.iconst 0, 1) := by decide +kernel
theorem dX2_outs_3 : decode cX2_outs 3 = .ok (.istore_n 3, 1) := by decide +kernel
theorem dX2_outs_4 : decode cX2_outs 4 = .ok (.iload_n 3, 1) := by decide +kernel
theorem dX2_outs_5 : decode cX2_outs 5 = .ok (.iload_n 1, 1) := by decide +kernel
theorem dX2_outs_6 : decode cX2_outs 6 = .ok (.if_icmp .ge 26, 3) := by decide +kernel
theorem dX2_outs_9 : decode cX2_outs 9 = .ok (.iload_n 3, 1) := by decide +kernel
theorem dX2_outs_10 : decode cX2_outs 10 = .ok (.aload_n 0, 1) := by decide +kernel
theorem dX2_outs_11 : decode cX2_outs 11 = .ok (.getfield 18, 3) := by decide +kernel
theorem dX2_outs_14 : decode cX2_outs 14 = .ok (.if_icmp .ge 18, 3) := by decide +kernel
theorem dX2_outs_17 : decode cX2_outs 17 = .ok (.iload_n 2, 1) := by decide +kernel
theorem dX2_outs_18 : decode cX2_outs 18 = .ok (.aload_n 0, 1) := by decide +kernel
theorem dX2_outs_19 : decode cX2_outs 19 = .ok (.getfield 15, 3) := by decide +kernel
theorem dX2_outs_22 : decode cX2_outs 22 = .ok (.iload_n 3, 1) := by decide +kernel
theorem dX2_outs_23 : decode cX2_outs 23 = .ok (.iaload, 1) := by decide +kernel
theorem dX2_outs_24 : decode cX2_outs 24 = .ok (.iadd, 1) := by decide +kernel
theorem dX2_outs_25 : decode cX2_outs 25 = .ok (.istore_n 2, 1) := by decide +kernel
theorem dX2_outs_26 : decode cX2_outs 26 = .ok (.iinc 3 1, 3) := by decide +kernel
theorem dX2_outs_29 : decode cX2_outs 29 = .ok (.goto (-25), 3) := by decide +kernel
theorem dX2_outs_32 : decode cX2_outs 32 = .ok (.iload_n 2, 1) := by decide +kernel
theorem dX2_outs_33 : decode cX2_outs 33 = .ok (.ireturn, 1) := by decide +kernel
theorem dX2_leftAhead_0 : decode cX2_leftAhead 0 = .ok (.aload_n 3, 1) := by decide +kernel
theorem dX2_leftAhead_1 : decode cX2_leftAhead 1 = .ok (.iload_n 2, 1) := by decide +kernel
theorem dX2_leftAhead_2 : decode cX2_leftAhead 2 = .ok (.invokevirtual 22, 3) := by decide +kernel
theorem dX2_leftAhead_5 : decode cX2_leftAhead 5 = .ok (.istore 4, 2) := by decide +kernel
theorem dX2_leftAhead_7 : decode cX2_leftAhead 7 = .ok (.iconst 0, 1) := by decide +kernel
theorem dX2_leftAhead_8 : decode cX2_leftAhead 8 = .ok (.istore 5, 2) := by decide +kernel
theorem dX2_leftAhead_10 : decode cX2_leftAhead 10 = .ok (.iload 5, 2) := by decide +kernel
theorem dX2_leftAhead_12 : decode cX2_leftAhead 12 = .ok (.iload_n 1, 1) := by decide +kernel
theorem dX2_leftAhead_13 : decode cX2_leftAhead 13 = .ok (.if_icmp .ge 32, 3) := by decide +kernel
theorem dX2_leftAhead_16 : decode cX2_leftAhead 16 = .ok (.iload 5, 2) := by decide +kernel
theorem dX2_leftAhead_18 : decode cX2_leftAhead 18 = .ok (.aload_n 0, 1) := by decide +kernel
theorem dX2_leftAhead_19 : decode cX2_leftAhead 19 = .ok (.getfield 18, 3) := by decide +kernel
theorem dX2_leftAhead_22 : decode cX2_leftAhead 22 = .ok (.if_icmp .ge 23, 3) := by decide +kernel
theorem dX2_leftAhead_25 : decode cX2_leftAhead 25 = .ok (.aload_n 0, 1) := by decide +kernel
theorem dX2_leftAhead_26 : decode cX2_leftAhead 26 = .ok (.getfield 11, 3) := by decide +kernel
theorem dX2_leftAhead_29 : decode cX2_leftAhead 29 = .ok (.iload 5, 2) := by decide +kernel
theorem dX2_leftAhead_31 : decode cX2_leftAhead 31 = .ok (.iaload, 1) := by decide +kernel
theorem dX2_leftAhead_32 : decode cX2_leftAhead 32 = .ok (.iload_n 2, 1) := by decide +kernel
theorem dX2_leftAhead_33 : decode cX2_leftAhead 33 = .ok (.if_icmp .ne 6, 3) := by decide +kernel
theorem dX2_leftAhead_36 : decode cX2_leftAhead 36 = .ok (.iinc 4 (-1), 3) := by decide +kernel
theorem dX2_leftAhead_39 : decode cX2_leftAhead 39 = .ok (.iinc 5 1, 3) := by decide +kernel
theorem dX2_leftAhead_42 : decode cX2_leftAhead 42 = .ok (.goto (-32), 3) := by decide +kernel
theorem dX2_leftAhead_45 : decode cX2_leftAhead 45 = .ok (.iload 4, 2) := by decide +kernel
theorem dX2_leftAhead_47 : decode cX2_leftAhead 47 = .ok (.ireturn, 1) := by decide +kernel
theorem dX2_attackAhead_0 : decode cX2_attackAhead 0 = .ok (.aload_n 2, 1) := by decide +kernel
theorem dX2_attackAhead_1 : decode cX2_attackAhead 1 = .ok (.invokevirtual 28, 3) := by decide +kernel
theorem dX2_attackAhead_4 : decode cX2_attackAhead 4 = .ok (.istore_n 3, 1) := by decide +kernel
theorem dX2_attackAhead_5 : decode cX2_attackAhead 5 = .ok (.iconst 0, 1) := by decide +kernel
theorem dX2_attackAhead_6 : decode cX2_attackAhead 6 = .ok (.istore 4, 2) := by decide +kernel
theorem dX2_attackAhead_8 : decode cX2_attackAhead 8 = .ok (.iload 4, 2) := by decide +kernel
theorem dX2_attackAhead_10 : decode cX2_attackAhead 10 = .ok (.iload_n 1, 1) := by decide +kernel
theorem dX2_attackAhead_11 : decode cX2_attackAhead 11 = .ok (.if_icmp .ge 30, 3) := by decide +kernel
theorem dX2_attackAhead_14 : decode cX2_attackAhead 14 = .ok (.iload 4, 2) := by decide +kernel
theorem dX2_attackAhead_16 : decode cX2_attackAhead 16 = .ok (.aload_n 0, 1) := by decide +kernel
theorem dX2_attackAhead_17 : decode cX2_attackAhead 17 = .ok (.getfield 18, 3) := by decide +kernel
theorem dX2_attackAhead_20 : decode cX2_attackAhead 20 = .ok (.if_icmp .ge 21, 3) := by decide +kernel
theorem dX2_attackAhead_23 : decode cX2_attackAhead 23 = .ok (.iload_n 3, 1) := by decide +kernel
theorem dX2_attackAhead_24 : decode cX2_attackAhead 24 = .ok (.aload_n 0, 1) := by decide +kernel
theorem dX2_attackAhead_25 : decode cX2_attackAhead 25 = .ok (.getfield 11, 3) := by decide +kernel
theorem dX2_attackAhead_28 : decode cX2_attackAhead 28 = .ok (.iload 4, 2) := by decide +kernel
theorem dX2_attackAhead_30 : decode cX2_attackAhead 30 = .ok (.iaload, 1) := by decide +kernel
theorem dX2_attackAhead_31 : decode cX2_attackAhead 31 = .ok (.invokestatic 32, 3) := by decide +kernel
theorem dX2_attackAhead_34 : decode cX2_attackAhead 34 = .ok (.istore_n 3, 1) := by decide +kernel
theorem dX2_attackAhead_35 : decode cX2_attackAhead 35 = .ok (.iinc 4 1, 3) := by decide +kernel
theorem dX2_attackAhead_38 : decode cX2_attackAhead 38 = .ok (.goto (-30), 3) := by decide +kernel
theorem dX2_attackAhead_41 : decode cX2_attackAhead 41 = .ok (.iload_n 3, 1) := by decide +kernel
theorem dX2_attackAhead_42 : decode cX2_attackAhead 42 = .ok (.ireturn, 1) := by decide +kernel
theorem dX3_init_0 : decode cX3_init 0 = .ok (.aload_n 0, 1) := by decide +kernel
theorem dX3_init_1 : decode cX3_init 1 = .ok (.invokespecial 3, 3) := by decide +kernel
theorem dX3_init_4 : decode cX3_init 4 = .ok (.aload_n 0, 1) := by decide +kernel
theorem dX3_init_5 : decode cX3_init 5 = .ok (.bipush 8, 2) := by decide +kernel
theorem dX3_init_7 : decode cX3_init 7 = .ok (.newarray .int, 2) := by decide +kernel
theorem dX3_init_9 : decode cX3_init 9 = .ok (.putfield 9, 3) := by decide +kernel
theorem dX3_init_12 : decode cX3_init 12 = .ok (.aload_n 0, 1) := by decide +kernel
theorem dX3_init_13 : decode cX3_init 13 = .ok (.bipush 8, 2) := by decide +kernel
theorem dX3_init_15 : decode cX3_init 15 = .ok (.newarray .int, 2) := by decide +kernel
theorem dX3_init_17 : decode cX3_init 17 = .ok (.putfield 15, 3) := by decide +kernel
theorem dX3_init_20 : decode cX3_init 20 = .ok (.aload_n 0, 1) := by decide +kernel
theorem dX3_init_21 : decode cX3_init 21 = .ok (.bipush 8, 2) := by decide +kernel
theorem dX3_init_23 : decode cX3_init 23 = .ok (.newarray .int, 2) := by decide +kernel
theorem dX3_init_25 : decode cX3_init 25 = .ok (.putfield 18, 3) := by decide +kernel
theorem dX3_init_28 : decode cX3_init 28 = .ok (.aload_n 0, 1) := by decide +kernel
theorem dX3_init_29 : decode cX3_init 29 = .ok (.aload_n 1, 1) := by decide +kernel
theorem dX3_init_30 : decode cX3_init 30 = .ok (.putfield 21, 3) := by decide +kernel
theorem dX3_init_33 : decode cX3_init 33 = .ok (.aload_n 0, 1) := by decide +kernel
theorem dX3_init_34 : decode cX3_init 34 = .ok (.aload_n 2, 1) := by decide +kernel
theorem dX3_init_35 : decode cX3_init 35 = .ok (.putfield 25, 3) := by decide +kernel
theorem dX3_init_38 : decode cX3_init 38 = .ok (.aload_n 0, 1) := by decide +kernel
theorem dX3_init_39 : decode cX3_init 39 = .ok (.aload_n 3, 1) := by decide +kernel
theorem dX3_init_40 : decode cX3_init 40 = .ok (.putfield 29, 3) := by decide +kernel
theorem dX3_init_43 : decode cX3_init 43 = .ok (.aload_n 0, 1) := by decide +kernel
theorem dX3_init_44 : decode cX3_init 44 = .ok (.aload 4, 2) := by decide +kernel
theorem dX3_init_46 : decode cX3_init 46 = .ok (.putfield 33, 3) := by decide +kernel
theorem dX3_init_49 : decode cX3_init 49 = .ok (.aload_n 0, 1) := by decide +kernel
theorem dX3_init_50 : decode cX3_init 50 = .ok (.aload 5, 2) := by decide +kernel
theorem dX3_init_52 : decode cX3_init 52 = .ok (.putfield 37, 3) := by decide +kernel
theorem dX3_init_55 : decode cX3_init 55 = .ok (.return_, 1) := by decide +kernel
theorem dX3_putOn_0 : decode cX3_putOn 0 = .ok (.aload_n 0, 1) := by decide +kernel
theorem dX3_putOn_1 : decode cX3_putOn 1 = .ok (.getfield 21, 3) := by decide +kernel
theorem dX3_putOn_4 : decode cX3_putOn 4 = .ok (.iload_n 1, 1) := by decide +kernel
theorem dX3_putOn_5 : decode cX3_putOn 5 = .ok (.invokevirtual 41, 3) := by decide +kernel
theorem dX3_putOn_8 : decode cX3_putOn 8 = .ok (.tableswitch 93 1 6 #[40, 49, 68, 78, 68, 68], 40) := by decide +kernel
theorem dX3_putOn_48 : decode cX3_putOn 48 = .ok (.aload_n 0, 1) := by decide +kernel
theorem dX3_putOn_49 : decode cX3_putOn 49 = .ok (.iload_n 1, 1) := by decide +kernel
theorem dX3_putOn_50 : decode cX3_putOn 50 = .ok (.iload_n 2, 1) := by decide +kernel
theorem dX3_putOn_51 : decode cX3_putOn 51 = .ok (.iload 4, 2) := by decide +kernel
theorem dX3_putOn_53 : decode cX3_putOn 53 = .ok (.invokevirtual 47, 3) := by decide +kernel
theorem dX3_putOn_56 : decode cX3_putOn 56 = .ok (.ireturn, 1) := by decide +kernel
theorem dX3_putOn_57 : decode cX3_putOn 57 = .ok (.aload_n 0, 1) := by decide +kernel
theorem dX3_putOn_58 : decode cX3_putOn 58 = .ok (.getfield 29, 3) := by decide +kernel
theorem dX3_putOn_61 : decode cX3_putOn 61 = .ok (.aload_n 0, 1) := by decide +kernel
theorem dX3_putOn_62 : decode cX3_putOn 62 = .ok (.getfield 29, 3) := by decide +kernel
theorem dX3_putOn_65 : decode cX3_putOn 65 = .ok (.iload 4, 2) := by decide +kernel
theorem dX3_putOn_67 : decode cX3_putOn 67 = .ok (.iload_n 2, 1) := by decide +kernel
theorem dX3_putOn_68 : decode cX3_putOn 68 = .ok (.invokevirtual 51, 3) := by decide +kernel
theorem dX3_putOn_71 : decode cX3_putOn 71 = .ok (.iload_n 3, 1) := by decide +kernel
theorem dX3_putOn_72 : decode cX3_putOn 72 = .ok (.invokevirtual 57, 3) := by decide +kernel
theorem dX3_putOn_75 : decode cX3_putOn 75 = .ok (.ireturn, 1) := by decide +kernel
theorem dX3_putOn_76 : decode cX3_putOn 76 = .ok (.aload_n 0, 1) := by decide +kernel
theorem dX3_putOn_77 : decode cX3_putOn 77 = .ok (.iload_n 1, 1) := by decide +kernel
theorem dX3_putOn_78 : decode cX3_putOn 78 = .ok (.iload_n 2, 1) := by decide +kernel
theorem dX3_putOn_79 : decode cX3_putOn 79 = .ok (.iload_n 3, 1) := by decide +kernel
theorem dX3_putOn_80 : decode cX3_putOn 80 = .ok (.iload 4, 2) := by decide +kernel
theorem dX3_putOn_82 : decode cX3_putOn 82 = .ok (.invokevirtual 60, 3) := by decide +kernel
theorem dX3_putOn_85 : decode cX3_putOn 85 = .ok (.ireturn, 1) := by decide +kernel
theorem dX3_putOn_86 : decode cX3_putOn 86 = .ok (.aload_n 0, 1) := by decide +kernel
theorem dX3_putOn_87 : decode cX3_putOn 87 = .ok (.iload_n 1, 1) := by decide +kernel
theorem dX3_putOn_88 : decode cX3_putOn 88 = .ok (.iload_n 2, 1) := by decide +kernel
theorem dX3_putOn_89 : decode cX3_putOn 89 = .ok (.aload_n 0, 1) := by decide +kernel
theorem dX3_putOn_90 : decode cX3_putOn 90 = .ok (.iload_n 1, 1) := by decide +kernel
theorem dX3_putOn_91 : decode cX3_putOn 91 = .ok (.iload_n 2, 1) := by decide +kernel
theorem dX3_putOn_92 : decode cX3_putOn 92 = .ok (.iload 4, 2) := by decide +kernel
theorem dX3_putOn_94 : decode cX3_putOn 94 = .ok (.invokevirtual 64, 3) := by decide +kernel
theorem dX3_putOn_97 : decode cX3_putOn 97 = .ok (.invokevirtual 47, 3) := by decide +kernel
theorem dX3_putOn_100 : decode cX3_putOn 100 = .ok (.ireturn, 1) := by decide +kernel
theorem dX3_putOn_101 : decode cX3_putOn 101 = .ok (.iload 4, 2) := by decide +kernel
theorem dX3_putOn_103 : decode cX3_putOn 103 = .ok (.invokestatic 67, 3) := by decide +kernel
theorem dX3_putOn_106 : decode cX3_putOn 106 = .ok (.ireturn, 1) := by decide +kernel
theorem dX3_turn_0 : decode cX3_turn 0 = .ok (.aload_n 0, 1) := by decide +kernel
theorem dX3_turn_1 : decode cX3_turn 1 = .ok (.getfield 21, 3) := by decide +kernel
theorem dX3_turn_4 : decode cX3_turn 4 = .ok (.iload_n 1, 1) := by decide +kernel
theorem dX3_turn_5 : decode cX3_turn 5 = .ok (.iload_n 2, 1) := by decide +kernel
theorem dX3_turn_6 : decode cX3_turn 6 = .ok (.invokevirtual 72, 3) := by decide +kernel
theorem dX3_turn_9 : decode cX3_turn 9 = .ok (.istore 4, 2) := by decide +kernel
theorem dX3_turn_11 : decode cX3_turn 11 = .ok (.iload_n 3, 1) := by decide +kernel
theorem dX3_turn_12 : decode cX3_turn 12 = .ok (.iload 4, 2) := by decide +kernel
theorem dX3_turn_14 : decode cX3_turn 14 = .ok (.invokestatic 75, 3) := by decide +kernel
theorem dX3_turn_17 : decode cX3_turn 17 = .ok (.ifCond .eq 8, 3) := by decide +kernel
theorem dX3_turn_20 : decode cX3_turn 20 = .ok (.iload 4, 2) := by decide +kernel
theorem dX3_turn_22 : decode cX3_turn 22 = .ok (.goto 7, 3) := by decide +kernel
theorem dX3_turn_25 : decode cX3_turn 25 = .ok (.iload_n 3, 1) := by decide +kernel
theorem dX3_turn_26 : decode cX3_turn 26 = .ok (.invokestatic 67, 3) := by decide +kernel
theorem dX3_turn_29 : decode cX3_turn 29 = .ok (.ireturn, 1) := by decide +kernel
theorem dX3_withoutKept_0 : decode cX3_withoutKept 0 = .ok (.aload_n 0, 1) := by decide +kernel
theorem dX3_withoutKept_1 : decode cX3_withoutKept 1 = .ok (.getfield 21, 3) := by decide +kernel
theorem dX3_withoutKept_4 : decode cX3_withoutKept 4 = .ok (.iload_n 1, 1) := by decide +kernel
theorem dX3_withoutKept_5 : decode cX3_withoutKept 5 = .ok (.iconst 0, 1) := by decide +kernel
theorem dX3_withoutKept_6 : decode cX3_withoutKept 6 = .ok (.invokevirtual 72, 3) := by decide +kernel
theorem dX3_withoutKept_9 : decode cX3_withoutKept 9 = .ok (.istore 4, 2) := by decide +kernel
theorem dX3_withoutKept_11 : decode cX3_withoutKept 11 = .ok (.iload 4, 2) := by decide +kernel
theorem dX3_withoutKept_13 : decode cX3_withoutKept 13 = .ok (.ifCond .lt 15, 3) := by decide +kernel
theorem dX3_withoutKept_16 : decode cX3_withoutKept 16 = .ok (.iload_n 2, 1) := by decide +kernel
theorem dX3_withoutKept_17 : decode cX3_withoutKept 17 = .ok (.aload_n 0, 1) := by decide +kernel
theorem dX3_withoutKept_18 : decode cX3_withoutKept 18 = .ok (.getfield 21, 3) := by decide +kernel
theorem dX3_withoutKept_21 : decode cX3_withoutKept 21 = .ok (.iload_n 1, 1) := by decide +kernel
theorem dX3_withoutKept_22 : decode cX3_withoutKept 22 = .ok (.invokevirtual 79, 3) := by decide +kernel
theorem dX3_withoutKept_25 : decode cX3_withoutKept 25 = .ok (.if_icmp .lt 5, 3) := by decide +kernel
theorem dX3_withoutKept_28 : decode cX3_withoutKept 28 = .ok (.iload_n 3, 1) := by decide +kernel
theorem dX3_withoutKept_29 : decode cX3_withoutKept 29 = .ok (.ireturn, 1) := by decide +kernel
theorem dX3_withoutKept_30 : decode cX3_withoutKept 30 = .ok (.iload_n 3, 1) := by decide +kernel
theorem dX3_withoutKept_31 : decode cX3_withoutKept 31 = .ok (.iload 4, 2) := by decide +kernel
theorem dX3_withoutKept_33 : decode cX3_withoutKept 33 = .ok (.iconst 0, 1) := by decide +kernel
theorem dX3_withoutKept_34 : decode cX3_withoutKept 34 = .ok (.invokestatic 82, 3) := by decide +kernel
theorem dX3_withoutKept_37 : decode cX3_withoutKept 37 = .ok (.istore 5, 2) := by decide +kernel
theorem dX3_withoutKept_39 : decode cX3_withoutKept 39 = .ok (.iload 5, 2) := by decide +kernel
theorem dX3_withoutKept_41 : decode cX3_withoutKept 41 = .ok (.invokestatic 67, 3) := by decide +kernel
theorem dX3_withoutKept_44 : decode cX3_withoutKept 44 = .ok (.ifCond .ge 7, 3) := by decide +kernel
theorem dX3_withoutKept_47 : decode cX3_withoutKept 47 = .ok (.iload_n 3, 1) := by decide +kernel
theorem dX3_withoutKept_48 : decode cX3_withoutKept 48 = .ok (.goto 5, 3) := by decide +kernel
theorem dX3_withoutKept_51 : decode cX3_withoutKept 51 = .ok (.iload 5, 2) := by decide +kernel
theorem dX3_withoutKept_53 : decode cX3_withoutKept 53 = .ok (.ireturn, 1) := by decide +kernel
theorem dX3_greatest_0 : decode cX3_greatest 0 = .ok (.iconst (-1), 1) := by decide +kernel
theorem dX3_greatest_1 : decode cX3_greatest 1 = .ok (.istore 5, 2) := by decide +kernel
theorem dX3_greatest_3 : decode cX3_greatest 3 = .ok (.iconst 0, 1) := by decide +kernel
theorem dX3_greatest_4 : decode cX3_greatest 4 = .ok (.istore 6, 2) := by decide +kernel
theorem dX3_greatest_6 : decode cX3_greatest 6 = .ok (.iconst 0, 1) := by decide +kernel
theorem dX3_greatest_7 : decode cX3_greatest 7 = .ok (.istore 7, 2) := by decide +kernel
theorem dX3_greatest_9 : decode cX3_greatest 9 = .ok (.iload 7, 2) := by decide +kernel
theorem dX3_greatest_11 : decode cX3_greatest 11 = .ok (.iconst 4, 1) := by decide +kernel
theorem dX3_greatest_12 : decode cX3_greatest 12 = .ok (.if_icmp .ge 55, 3) := by decide +kernel
theorem dX3_greatest_15 : decode cX3_greatest 15 = .ok (.iload 4, 2) := by decide +kernel
theorem dX3_greatest_17 : decode cX3_greatest 17 = .ok (.iload 7, 2) := by decide +kernel
theorem dX3_greatest_19 : decode cX3_greatest 19 = .ok (.invokestatic 75, 3) := by decide +kernel
theorem dX3_greatest_22 : decode cX3_greatest 22 = .ok (.ifCond .ne 6, 3) := by decide +kernel
theorem dX3_greatest_25 : decode cX3_greatest 25 = .ok (.goto 36, 3) := by decide +kernel
theorem dX3_greatest_28 : decode cX3_greatest 28 = .ok (.aload_n 0, 1) := by decide +kernel
theorem dX3_greatest_29 : decode cX3_greatest 29 = .ok (.iload_n 1, 1) := by decide +kernel
theorem dX3_greatest_30 : decode cX3_greatest 30 = .ok (.iload_n 2, 1) := by decide +kernel
theorem dX3_greatest_31 : decode cX3_greatest 31 = .ok (.iload_n 3, 1) := by decide +kernel
theorem dX3_greatest_32 : decode cX3_greatest 32 = .ok (.iload 4, 2) := by decide +kernel
theorem dX3_greatest_34 : decode cX3_greatest 34 = .ok (.iload 7, 2) := by decide +kernel
theorem dX3_greatest_36 : decode cX3_greatest 36 = .ok (.invokevirtual 85, 3) := by decide +kernel
theorem dX3_greatest_39 : decode cX3_greatest 39 = .ok (.istore 8, 2) := by decide +kernel
theorem dX3_greatest_41 : decode cX3_greatest 41 = .ok (.iload 5, 2) := by decide +kernel
theorem dX3_greatest_43 : decode cX3_greatest 43 = .ok (.ifCond .lt 10, 3) := by decide +kernel
theorem dX3_greatest_46 : decode cX3_greatest 46 = .ok (.iload 8, 2) := by decide +kernel
theorem dX3_greatest_48 : decode cX3_greatest 48 = .ok (.iload 6, 2) := by decide +kernel
theorem dX3_greatest_50 : decode cX3_greatest 50 = .ok (.if_icmp .le 11, 3) := by decide +kernel
theorem dX3_greatest_53 : decode cX3_greatest 53 = .ok (.iload 7, 2) := by decide +kernel
theorem dX3_greatest_55 : decode cX3_greatest 55 = .ok (.istore 5, 2) := by decide +kernel
theorem dX3_greatest_57 : decode cX3_greatest 57 = .ok (.iload 8, 2) := by decide +kernel
theorem dX3_greatest_59 : decode cX3_greatest 59 = .ok (.istore 6, 2) := by decide +kernel
theorem dX3_greatest_61 : decode cX3_greatest 61 = .ok (.iinc 7 1, 3) := by decide +kernel
theorem dX3_greatest_64 : decode cX3_greatest 64 = .ok (.goto (-55), 3) := by decide +kernel
theorem dX3_greatest_67 : decode cX3_greatest 67 = .ok (.iload 5, 2) := by decide +kernel
theorem dX3_greatest_69 : decode cX3_greatest 69 = .ok (.ireturn, 1) := by decide +kernel
theorem dX3_rating_0 : decode cX3_rating 0 = .ok (.aload_n 0, 1) := by decide +kernel
theorem dX3_rating_1 : decode cX3_rating 1 = .ok (.getfield 33, 3) := by decide +kernel
theorem dX3_rating_4 : decode cX3_rating 4 = .ok (.iload_n 3, 1) := by decide +kernel
theorem dX3_rating_5 : decode cX3_rating 5 = .ok (.invokevirtual 89, 3) := by decide +kernel
theorem dX3_rating_8 : decode cX3_rating 8 = .ok (.istore 6, 2) := by decide +kernel
theorem dX3_rating_10 : decode cX3_rating 10 = .ok (.iload 4, 2) := by decide +kernel
theorem dX3_rating_12 : decode cX3_rating 12 = .ok (.iload 5, 2) := by decide +kernel
theorem dX3_rating_14 : decode cX3_rating 14 = .ok (.invokestatic 94, 3) := by decide +kernel
theorem dX3_rating_17 : decode cX3_rating 17 = .ok (.istore 7, 2) := by decide +kernel
theorem dX3_rating_19 : decode cX3_rating 19 = .ok (.iload 4, 2) := by decide +kernel
theorem dX3_rating_21 : decode cX3_rating 21 = .ok (.iload 5, 2) := by decide +kernel
theorem dX3_rating_23 : decode cX3_rating 23 = .ok (.invokestatic 97, 3) := by decide +kernel
theorem dX3_rating_26 : decode cX3_rating 26 = .ok (.istore 8, 2) := by decide +kernel
theorem dX3_rating_28 : decode cX3_rating 28 = .ok (.aload_n 0, 1) := by decide +kernel
theorem dX3_rating_29 : decode cX3_rating 29 = .ok (.getfield 25, 3) := by decide +kernel
theorem dX3_rating_32 : decode cX3_rating 32 = .ok (.iload 5, 2) := by decide +kernel
theorem dX3_rating_34 : decode cX3_rating 34 = .ok (.iload 6, 2) := by decide +kernel
theorem dX3_rating_36 : decode cX3_rating 36 = .ok (.iload 7, 2) := by decide +kernel
theorem dX3_rating_38 : decode cX3_rating 38 = .ok (.iload 8, 2) := by decide +kernel
theorem dX3_rating_40 : decode cX3_rating 40 = .ok (.iload_n 2, 1) := by decide +kernel
theorem dX3_rating_41 : decode cX3_rating 41 = .ok (.iload_n 3, 1) := by decide +kernel
theorem dX3_rating_42 : decode cX3_rating 42 = .ok (.invokevirtual 100, 3) := by decide +kernel
theorem dX3_rating_45 : decode cX3_rating 45 = .ok (.istore 9, 2) := by decide +kernel
theorem dX3_rating_47 : decode cX3_rating 47 = .ok (.aload_n 0, 1) := by decide +kernel
theorem dX3_rating_48 : decode cX3_rating 48 = .ok (.getfield 21, 3) := by decide +kernel
theorem dX3_rating_51 : decode cX3_rating 51 = .ok (.iload_n 1, 1) := by decide +kernel
theorem dX3_rating_52 : decode cX3_rating 52 = .ok (.invokevirtual 41, 3) := by decide +kernel
theorem dX3_rating_55 : decode cX3_rating 55 = .ok (.lookupswitch 49 #[(3, 25), (5, 46)], 25) := by decide +kernel
theorem dX3_rating_80 : decode cX3_rating 80 = .ok (.iload 9, 2) := by decide +kernel
theorem dX3_rating_82 : decode cX3_rating 82 = .ok (.sipush 1000, 3) := by decide +kernel
theorem dX3_rating_85 : decode cX3_rating 85 = .ok (.aload_n 0, 1) := by decide +kernel
theorem dX3_rating_86 : decode cX3_rating 86 = .ok (.getfield 25, 3) := by decide +kernel
theorem dX3_rating_89 : decode cX3_rating 89 = .ok (.iload 5, 2) := by decide +kernel
theorem dX3_rating_91 : decode cX3_rating 91 = .ok (.iload 6, 2) := by decide +kernel
theorem dX3_rating_93 : decode cX3_rating 93 = .ok (.iload 7, 2) := by decide +kernel
theorem dX3_rating_95 : decode cX3_rating 95 = .ok (.invokevirtual 106, 3) := by decide +kernel
theorem dX3_rating_98 : decode cX3_rating 98 = .ok (.imul, 1) := by decide +kernel
theorem dX3_rating_99 : decode cX3_rating 99 = .ok (.isub, 1) := by decide +kernel
theorem dX3_rating_100 : decode cX3_rating 100 = .ok (.ireturn, 1) := by decide +kernel
theorem dX3_rating_101 : decode cX3_rating 101 = .ok (.iload 9, 2) := by decide +kernel
theorem dX3_rating_103 : decode cX3_rating 103 = .ok (.ireturn, 1) := by decide +kernel
theorem dX3_rating_104 : decode cX3_rating 104 = .ok (.aload_n 0, 1) := by decide +kernel
theorem dX3_rating_105 : decode cX3_rating 105 = .ok (.getfield 37, 3) := by decide +kernel
theorem dX3_rating_108 : decode cX3_rating 108 = .ok (.iload_n 2, 1) := by decide +kernel
theorem dX3_rating_109 : decode cX3_rating 109 = .ok (.iload_n 3, 1) := by decide +kernel
theorem dX3_rating_110 : decode cX3_rating 110 = .ok (.iload 6, 2) := by decide +kernel
theorem dX3_rating_112 : decode cX3_rating 112 = .ok (.iload 5, 2) := by decide +kernel
theorem dX3_rating_114 : decode cX3_rating 114 = .ok (.iload 7, 2) := by decide +kernel
theorem dX3_rating_116 : decode cX3_rating 116 = .ok (.iload 8, 2) := by decide +kernel
theorem dX3_rating_118 : decode cX3_rating 118 = .ok (.invokevirtual 109, 3) := by decide +kernel
theorem dX3_rating_121 : decode cX3_rating 121 = .ok (.aload_n 0, 1) := by decide +kernel
theorem dX3_rating_122 : decode cX3_rating 122 = .ok (.getfield 37, 3) := by decide +kernel
theorem dX3_rating_125 : decode cX3_rating 125 = .ok (.iload 9, 2) := by decide +kernel
theorem dX3_rating_127 : decode cX3_rating 127 = .ok (.aload_n 0, 1) := by decide +kernel
theorem dX3_rating_128 : decode cX3_rating 128 = .ok (.getfield 21, 3) := by decide +kernel
theorem dX3_rating_131 : decode cX3_rating 131 = .ok (.iload_n 1, 1) := by decide +kernel
theorem dX3_rating_132 : decode cX3_rating 132 = .ok (.invokevirtual 79, 3) := by decide +kernel
theorem dX3_rating_135 : decode cX3_rating 135 = .ok (.invokevirtual 115, 3) := by decide +kernel
theorem dX3_rating_138 : decode cX3_rating 138 = .ok (.aload_n 0, 1) := by decide +kernel
theorem dX3_rating_139 : decode cX3_rating 139 = .ok (.getfield 37, 3) := by decide +kernel
theorem dX3_rating_142 : decode cX3_rating 142 = .ok (.invokevirtual 119, 3) := by decide +kernel
theorem dX3_rating_145 : decode cX3_rating 145 = .ok (.ireturn, 1) := by decide +kernel
theorem dX3_outBy_0 : decode cX3_outBy 0 = .ok (.aload_n 0, 1) := by decide +kernel
theorem dX3_outBy_1 : decode cX3_outBy 1 = .ok (.getfield 25, 3) := by decide +kernel
theorem dX3_outBy_4 : decode cX3_outBy 4 = .ok (.iload_n 1, 1) := by decide +kernel
theorem dX3_outBy_5 : decode cX3_outBy 5 = .ok (.aload_n 0, 1) := by decide +kernel
theorem dX3_outBy_6 : decode cX3_outBy 6 = .ok (.getfield 33, 3) := by decide +kernel
theorem dX3_outBy_9 : decode cX3_outBy 9 = .ok (.iload_n 3, 1) := by decide +kernel
theorem dX3_outBy_10 : decode cX3_outBy 10 = .ok (.invokevirtual 89, 3) := by decide +kernel
theorem dX3_outBy_13 : decode cX3_outBy 13 = .ok (.iload 4, 2) := by decide +kernel
theorem dX3_outBy_15 : decode cX3_outBy 15 = .ok (.iload_n 1, 1) := by decide +kernel
theorem dX3_outBy_16 : decode cX3_outBy 16 = .ok (.invokestatic 94, 3) := by decide +kernel
theorem dX3_outBy_19 : decode cX3_outBy 19 = .ok (.iload 4, 2) := by decide +kernel
theorem dX3_outBy_21 : decode cX3_outBy 21 = .ok (.iload_n 1, 1) := by decide +kernel
theorem dX3_outBy_22 : decode cX3_outBy 22 = .ok (.invokestatic 97, 3) := by decide +kernel
theorem dX3_outBy_25 : decode cX3_outBy 25 = .ok (.iload_n 2, 1) := by decide +kernel
theorem dX3_outBy_26 : decode cX3_outBy 26 = .ok (.iload_n 3, 1) := by decide +kernel
theorem dX3_outBy_27 : decode cX3_outBy 27 = .ok (.invokevirtual 100, 3) := by decide +kernel
theorem dX3_outBy_30 : decode cX3_outBy 30 = .ok (.ireturn, 1) := by decide +kernel
theorem dX3_runsBy_0 : decode cX3_runsBy 0 = .ok (.aload_n 0, 1) := by decide +kernel
theorem dX3_runsBy_1 : decode cX3_runsBy 1 = .ok (.getfield 25, 3) := by decide +kernel
theorem dX3_runsBy_4 : decode cX3_runsBy 4 = .ok (.iload_n 1, 1) := by decide +kernel
theorem dX3_runsBy_5 : decode cX3_runsBy 5 = .ok (.aload_n 0, 1) := by decide +kernel
theorem dX3_runsBy_6 : decode cX3_runsBy 6 = .ok (.getfield 33, 3) := by decide +kernel
theorem dX3_runsBy_9 : decode cX3_runsBy 9 = .ok (.iload_n 2, 1) := by decide +kernel
theorem dX3_runsBy_10 : decode cX3_runsBy 10 = .ok (.invokevirtual 89, 3) := by decide +kernel
theorem dX3_runsBy_13 : decode cX3_runsBy 13 = .ok (.iload_n 3, 1) := by decide +kernel
theorem dX3_runsBy_14 : decode cX3_runsBy 14 = .ok (.iload_n 1, 1) := by decide +kernel
theorem dX3_runsBy_15 : decode cX3_runsBy 15 = .ok (.invokestatic 94, 3) := by decide +kernel
theorem dX3_runsBy_18 : decode cX3_runsBy 18 = .ok (.invokevirtual 106, 3) := by decide +kernel
theorem dX3_runsBy_21 : decode cX3_runsBy 21 = .ok (.ireturn, 1) := by decide +kernel
theorem dX3_meanFrom_0 : decode cX3_meanFrom 0 = .ok (.iload_n 2, 1) := by decide +kernel
theorem dX3_meanFrom_1 : decode cX3_meanFrom 1 = .ok (.bipush 8, 2) := by decide +kernel
theorem dX3_meanFrom_3 : decode cX3_meanFrom 3 = .ok (.if_icmp .ge 17, 3) := by decide +kernel
theorem dX3_meanFrom_6 : decode cX3_meanFrom 6 = .ok (.aload_n 0, 1) := by decide +kernel
theorem dX3_meanFrom_7 : decode cX3_meanFrom 7 = .ok (.getfield 33, 3) := by decide +kernel
theorem dX3_meanFrom_10 : decode cX3_meanFrom 10 = .ok (.iload_n 2, 1) := by decide +kernel
theorem dX3_meanFrom_11 : decode cX3_meanFrom 11 = .ok (.iload_n 3, 1) := by decide +kernel
theorem dX3_meanFrom_12 : decode cX3_meanFrom 12 = .ok (.iload 4, 2) := by decide +kernel
theorem dX3_meanFrom_14 : decode cX3_meanFrom 14 = .ok (.invokevirtual 123, 3) := by decide +kernel
theorem dX3_meanFrom_17 : decode cX3_meanFrom 17 = .ok (.ifCond .eq 5, 3) := by decide +kernel
theorem dX3_meanFrom_20 : decode cX3_meanFrom 20 = .ok (.iconst 0, 1) := by decide +kernel
theorem dX3_meanFrom_21 : decode cX3_meanFrom 21 = .ok (.ireturn, 1) := by decide +kernel
theorem dX3_meanFrom_22 : decode cX3_meanFrom 22 = .ok (.aload_n 0, 1) := by decide +kernel
theorem dX3_meanFrom_23 : decode cX3_meanFrom 23 = .ok (.iload_n 1, 1) := by decide +kernel
theorem dX3_meanFrom_24 : decode cX3_meanFrom 24 = .ok (.iload_n 2, 1) := by decide +kernel
theorem dX3_meanFrom_25 : decode cX3_meanFrom 25 = .ok (.iload_n 3, 1) := by decide +kernel
theorem dX3_meanFrom_26 : decode cX3_meanFrom 26 = .ok (.iload 4, 2) := by decide +kernel
theorem dX3_meanFrom_28 : decode cX3_meanFrom 28 = .ok (.invokevirtual 127, 3) := by decide +kernel
theorem dX3_meanFrom_31 : decode cX3_meanFrom 31 = .ok (.istore 5, 2) := by decide +kernel
theorem dX3_meanFrom_33 : decode cX3_meanFrom 33 = .ok (.iload 4, 2) := by decide +kernel
theorem dX3_meanFrom_35 : decode cX3_meanFrom 35 = .ok (.iload 5, 2) := by decide +kernel
theorem dX3_meanFrom_37 : decode cX3_meanFrom 37 = .ok (.invokestatic 130, 3) := by decide +kernel
theorem dX3_meanFrom_40 : decode cX3_meanFrom 40 = .ok (.istore 6, 2) := by decide +kernel
theorem dX3_meanFrom_42 : decode cX3_meanFrom 42 = .ok (.aload_n 0, 1) := by decide +kernel
theorem dX3_meanFrom_43 : decode cX3_meanFrom 43 = .ok (.iload_n 1, 1) := by decide +kernel
theorem dX3_meanFrom_44 : decode cX3_meanFrom 44 = .ok (.iload_n 2, 1) := by decide +kernel
theorem dX3_meanFrom_45 : decode cX3_meanFrom 45 = .ok (.iconst 1, 1) := by decide +kernel
theorem dX3_meanFrom_46 : decode cX3_meanFrom 46 = .ok (.iadd, 1) := by decide +kernel
theorem dX3_meanFrom_47 : decode cX3_meanFrom 47 = .ok (.iload_n 3, 1) := by decide +kernel
theorem dX3_meanFrom_48 : decode cX3_meanFrom 48 = .ok (.iconst 1, 1) := by decide +kernel
theorem dX3_meanFrom_49 : decode cX3_meanFrom 49 = .ok (.iadd, 1) := by decide +kernel
theorem dX3_meanFrom_50 : decode cX3_meanFrom 50 = .ok (.iload 6, 2) := by decide +kernel
theorem dX3_meanFrom_52 : decode cX3_meanFrom 52 = .ok (.invokevirtual 133, 3) := by decide +kernel
theorem dX3_meanFrom_55 : decode cX3_meanFrom 55 = .ok (.istore 7, 2) := by decide +kernel
theorem dX3_meanFrom_57 : decode cX3_meanFrom 57 = .ok (.aload_n 0, 1) := by decide +kernel
theorem dX3_meanFrom_58 : decode cX3_meanFrom 58 = .ok (.iload_n 1, 1) := by decide +kernel
theorem dX3_meanFrom_59 : decode cX3_meanFrom 59 = .ok (.iload_n 2, 1) := by decide +kernel
theorem dX3_meanFrom_60 : decode cX3_meanFrom 60 = .ok (.iconst 1, 1) := by decide +kernel
theorem dX3_meanFrom_61 : decode cX3_meanFrom 61 = .ok (.iadd, 1) := by decide +kernel
theorem dX3_meanFrom_62 : decode cX3_meanFrom 62 = .ok (.iload_n 3, 1) := by decide +kernel
theorem dX3_meanFrom_63 : decode cX3_meanFrom 63 = .ok (.iload 6, 2) := by decide +kernel
theorem dX3_meanFrom_65 : decode cX3_meanFrom 65 = .ok (.invokevirtual 133, 3) := by decide +kernel
theorem dX3_meanFrom_68 : decode cX3_meanFrom 68 = .ok (.istore 8, 2) := by decide +kernel
theorem dX3_meanFrom_70 : decode cX3_meanFrom 70 = .ok (.aload_n 0, 1) := by decide +kernel
theorem dX3_meanFrom_71 : decode cX3_meanFrom 71 = .ok (.getfield 33, 3) := by decide +kernel
theorem dX3_meanFrom_74 : decode cX3_meanFrom 74 = .ok (.aload_n 0, 1) := by decide +kernel
theorem dX3_meanFrom_75 : decode cX3_meanFrom 75 = .ok (.iload 5, 2) := by decide +kernel
theorem dX3_meanFrom_77 : decode cX3_meanFrom 77 = .ok (.iload_n 3, 1) := by decide +kernel
theorem dX3_meanFrom_78 : decode cX3_meanFrom 78 = .ok (.iload 4, 2) := by decide +kernel
theorem dX3_meanFrom_80 : decode cX3_meanFrom 80 = .ok (.invokevirtual 136, 3) := by decide +kernel
theorem dX3_meanFrom_83 : decode cX3_meanFrom 83 = .ok (.aload_n 0, 1) := by decide +kernel
theorem dX3_meanFrom_84 : decode cX3_meanFrom 84 = .ok (.iload 5, 2) := by decide +kernel
theorem dX3_meanFrom_86 : decode cX3_meanFrom 86 = .ok (.iload_n 2, 1) := by decide +kernel
theorem dX3_meanFrom_87 : decode cX3_meanFrom 87 = .ok (.iload_n 3, 1) := by decide +kernel
theorem dX3_meanFrom_88 : decode cX3_meanFrom 88 = .ok (.iload 4, 2) := by decide +kernel
theorem dX3_meanFrom_90 : decode cX3_meanFrom 90 = .ok (.invokevirtual 139, 3) := by decide +kernel
theorem dX3_meanFrom_93 : decode cX3_meanFrom 93 = .ok (.iload 7, 2) := by decide +kernel
theorem dX3_meanFrom_95 : decode cX3_meanFrom 95 = .ok (.iload 8, 2) := by decide +kernel
theorem dX3_meanFrom_97 : decode cX3_meanFrom 97 = .ok (.invokevirtual 142, 3) := by decide +kernel
theorem dX3_meanFrom_100 : decode cX3_meanFrom 100 = .ok (.ireturn, 1) := by decide +kernel
theorem dX3_likelyFrom_0 : decode cX3_likelyFrom 0 = .ok (.iload_n 2, 1) := by decide +kernel
theorem dX3_likelyFrom_1 : decode cX3_likelyFrom 1 = .ok (.bipush 8, 2) := by decide +kernel
theorem dX3_likelyFrom_3 : decode cX3_likelyFrom 3 = .ok (.if_icmp .ge 17, 3) := by decide +kernel
theorem dX3_likelyFrom_6 : decode cX3_likelyFrom 6 = .ok (.aload_n 0, 1) := by decide +kernel
theorem dX3_likelyFrom_7 : decode cX3_likelyFrom 7 = .ok (.getfield 33, 3) := by decide +kernel
theorem dX3_likelyFrom_10 : decode cX3_likelyFrom 10 = .ok (.iload_n 2, 1) := by decide +kernel
theorem dX3_likelyFrom_11 : decode cX3_likelyFrom 11 = .ok (.iload_n 3, 1) := by decide +kernel
theorem dX3_likelyFrom_12 : decode cX3_likelyFrom 12 = .ok (.iload 4, 2) := by decide +kernel
theorem dX3_likelyFrom_14 : decode cX3_likelyFrom 14 = .ok (.invokevirtual 123, 3) := by decide +kernel
theorem dX3_likelyFrom_17 : decode cX3_likelyFrom 17 = .ok (.ifCond .eq 15, 3) := by decide +kernel
theorem dX3_likelyFrom_20 : decode cX3_likelyFrom 20 = .ok (.iload 5, 2) := by decide +kernel
theorem dX3_likelyFrom_22 : decode cX3_likelyFrom 22 = .ok (.ifCond .le 8, 3) := by decide +kernel
theorem dX3_likelyFrom_25 : decode cX3_likelyFrom 25 = .ok (.ldc 145, 2) := by decide +kernel
theorem dX3_likelyFrom_27 : decode cX3_likelyFrom 27 = .ok (.goto 4, 3) := by decide +kernel
theorem dX3_likelyFrom_30 : decode cX3_likelyFrom 30 = .ok (.iconst 0, 1) := by decide +kernel
theorem dX3_likelyFrom_31 : decode cX3_likelyFrom 31 = .ok (.ireturn, 1) := by decide +kernel
theorem dX3_likelyFrom_32 : decode cX3_likelyFrom 32 = .ok (.aload_n 0, 1) := by decide +kernel
theorem dX3_likelyFrom_33 : decode cX3_likelyFrom 33 = .ok (.iload_n 1, 1) := by decide +kernel
theorem dX3_likelyFrom_34 : decode cX3_likelyFrom 34 = .ok (.iload_n 2, 1) := by decide +kernel
theorem dX3_likelyFrom_35 : decode cX3_likelyFrom 35 = .ok (.iload_n 3, 1) := by decide +kernel
theorem dX3_likelyFrom_36 : decode cX3_likelyFrom 36 = .ok (.iload 4, 2) := by decide +kernel
theorem dX3_likelyFrom_38 : decode cX3_likelyFrom 38 = .ok (.invokevirtual 127, 3) := by decide +kernel
theorem dX3_likelyFrom_41 : decode cX3_likelyFrom 41 = .ok (.istore 6, 2) := by decide +kernel
theorem dX3_likelyFrom_43 : decode cX3_likelyFrom 43 = .ok (.iload 4, 2) := by decide +kernel
theorem dX3_likelyFrom_45 : decode cX3_likelyFrom 45 = .ok (.iload 6, 2) := by decide +kernel
theorem dX3_likelyFrom_47 : decode cX3_likelyFrom 47 = .ok (.invokestatic 130, 3) := by decide +kernel
theorem dX3_likelyFrom_50 : decode cX3_likelyFrom 50 = .ok (.istore 7, 2) := by decide +kernel
theorem dX3_likelyFrom_52 : decode cX3_likelyFrom 52 = .ok (.aload_n 0, 1) := by decide +kernel
theorem dX3_likelyFrom_53 : decode cX3_likelyFrom 53 = .ok (.iload 6, 2) := by decide +kernel
theorem dX3_likelyFrom_55 : decode cX3_likelyFrom 55 = .ok (.iload_n 2, 1) := by decide +kernel
theorem dX3_likelyFrom_56 : decode cX3_likelyFrom 56 = .ok (.iload_n 3, 1) := by decide +kernel
theorem dX3_likelyFrom_57 : decode cX3_likelyFrom 57 = .ok (.iload 4, 2) := by decide +kernel
theorem dX3_likelyFrom_59 : decode cX3_likelyFrom 59 = .ok (.invokevirtual 139, 3) := by decide +kernel
theorem dX3_likelyFrom_62 : decode cX3_likelyFrom 62 = .ok (.istore 8, 2) := by decide +kernel
theorem dX3_likelyFrom_64 : decode cX3_likelyFrom 64 = .ok (.iload 5, 2) := by decide +kernel
theorem dX3_likelyFrom_66 : decode cX3_likelyFrom 66 = .ok (.aload_n 0, 1) := by decide +kernel
theorem dX3_likelyFrom_67 : decode cX3_likelyFrom 67 = .ok (.iload 6, 2) := by decide +kernel
theorem dX3_likelyFrom_69 : decode cX3_likelyFrom 69 = .ok (.iload_n 3, 1) := by decide +kernel
theorem dX3_likelyFrom_70 : decode cX3_likelyFrom 70 = .ok (.iload 4, 2) := by decide +kernel
theorem dX3_likelyFrom_72 : decode cX3_likelyFrom 72 = .ok (.invokevirtual 136, 3) := by decide +kernel
theorem dX3_likelyFrom_75 : decode cX3_likelyFrom 75 = .ok (.isub, 1) := by decide +kernel
theorem dX3_likelyFrom_76 : decode cX3_likelyFrom 76 = .ok (.istore 9, 2) := by decide +kernel
theorem dX3_likelyFrom_78 : decode cX3_likelyFrom 78 = .ok (.aload_n 0, 1) := by decide +kernel
theorem dX3_likelyFrom_79 : decode cX3_likelyFrom 79 = .ok (.iload_n 1, 1) := by decide +kernel
theorem dX3_likelyFrom_80 : decode cX3_likelyFrom 80 = .ok (.iload_n 2, 1) := by decide +kernel
theorem dX3_likelyFrom_81 : decode cX3_likelyFrom 81 = .ok (.iconst 1, 1) := by decide +kernel
theorem dX3_likelyFrom_82 : decode cX3_likelyFrom 82 = .ok (.iadd, 1) := by decide +kernel
theorem dX3_likelyFrom_83 : decode cX3_likelyFrom 83 = .ok (.iload_n 3, 1) := by decide +kernel
theorem dX3_likelyFrom_84 : decode cX3_likelyFrom 84 = .ok (.iconst 1, 1) := by decide +kernel
theorem dX3_likelyFrom_85 : decode cX3_likelyFrom 85 = .ok (.iadd, 1) := by decide +kernel
theorem dX3_likelyFrom_86 : decode cX3_likelyFrom 86 = .ok (.iload 7, 2) := by decide +kernel
theorem dX3_likelyFrom_88 : decode cX3_likelyFrom 88 = .ok (.iload 9, 2) := by decide +kernel
theorem dX3_likelyFrom_90 : decode cX3_likelyFrom 90 = .ok (.invokevirtual 146, 3) := by decide +kernel
theorem dX3_likelyFrom_93 : decode cX3_likelyFrom 93 = .ok (.istore 10, 2) := by decide +kernel
theorem dX3_likelyFrom_95 : decode cX3_likelyFrom 95 = .ok (.aload_n 0, 1) := by decide +kernel
theorem dX3_likelyFrom_96 : decode cX3_likelyFrom 96 = .ok (.iload_n 1, 1) := by decide +kernel
theorem dX3_likelyFrom_97 : decode cX3_likelyFrom 97 = .ok (.iload_n 2, 1) := by decide +kernel
theorem dX3_likelyFrom_98 : decode cX3_likelyFrom 98 = .ok (.iconst 1, 1) := by decide +kernel
theorem dX3_likelyFrom_99 : decode cX3_likelyFrom 99 = .ok (.iadd, 1) := by decide +kernel
theorem dX3_likelyFrom_100 : decode cX3_likelyFrom 100 = .ok (.iload_n 3, 1) := by decide +kernel
theorem dX3_likelyFrom_101 : decode cX3_likelyFrom 101 = .ok (.iload 7, 2) := by decide +kernel
theorem dX3_likelyFrom_103 : decode cX3_likelyFrom 103 = .ok (.iload 9, 2) := by decide +kernel
theorem dX3_likelyFrom_105 : decode cX3_likelyFrom 105 = .ok (.invokevirtual 146, 3) := by decide +kernel
theorem dX3_likelyFrom_108 : decode cX3_likelyFrom 108 = .ok (.istore 11, 2) := by decide +kernel
theorem dX3_likelyFrom_110 : decode cX3_likelyFrom 110 = .ok (.iload 8, 2) := by decide +kernel
theorem dX3_likelyFrom_112 : decode cX3_likelyFrom 112 = .ok (.iload 10, 2) := by decide +kernel
theorem dX3_likelyFrom_114 : decode cX3_likelyFrom 114 = .ok (.imul, 1) := by decide +kernel
theorem dX3_likelyFrom_115 : decode cX3_likelyFrom 115 = .ok (.sipush 1000, 3) := by decide +kernel
theorem dX3_likelyFrom_118 : decode cX3_likelyFrom 118 = .ok (.iload 8, 2) := by decide +kernel
theorem dX3_likelyFrom_120 : decode cX3_likelyFrom 120 = .ok (.isub, 1) := by decide +kernel
theorem dX3_likelyFrom_121 : decode cX3_likelyFrom 121 = .ok (.iload 11, 2) := by decide +kernel
theorem dX3_likelyFrom_123 : decode cX3_likelyFrom 123 = .ok (.imul, 1) := by decide +kernel
theorem dX3_likelyFrom_124 : decode cX3_likelyFrom 124 = .ok (.iadd, 1) := by decide +kernel
theorem dX3_likelyFrom_125 : decode cX3_likelyFrom 125 = .ok (.sipush 1000, 3) := by decide +kernel
theorem dX3_likelyFrom_128 : decode cX3_likelyFrom 128 = .ok (.idiv, 1) := by decide +kernel
theorem dX3_likelyFrom_129 : decode cX3_likelyFrom 129 = .ok (.istore 12, 2) := by decide +kernel
theorem dX3_likelyFrom_131 : decode cX3_likelyFrom 131 = .ok (.iload 9, 2) := by decide +kernel
theorem dX3_likelyFrom_133 : decode cX3_likelyFrom 133 = .ok (.ifCond .le 8, 3) := by decide +kernel
theorem dX3_likelyFrom_136 : decode cX3_likelyFrom 136 = .ok (.ldc 145, 2) := by decide +kernel
theorem dX3_likelyFrom_138 : decode cX3_likelyFrom 138 = .ok (.goto 4, 3) := by decide +kernel
theorem dX3_likelyFrom_141 : decode cX3_likelyFrom 141 = .ok (.iconst 0, 1) := by decide +kernel
theorem dX3_likelyFrom_142 : decode cX3_likelyFrom 142 = .ok (.istore 13, 2) := by decide +kernel
theorem dX3_likelyFrom_144 : decode cX3_likelyFrom 144 = .ok (.aload_n 0, 1) := by decide +kernel
theorem dX3_likelyFrom_145 : decode cX3_likelyFrom 145 = .ok (.getfield 33, 3) := by decide +kernel
theorem dX3_likelyFrom_148 : decode cX3_likelyFrom 148 = .ok (.getfield 149, 3) := by decide +kernel
theorem dX3_likelyFrom_151 : decode cX3_likelyFrom 151 = .ok (.iload 13, 2) := by decide +kernel
theorem dX3_likelyFrom_153 : decode cX3_likelyFrom 153 = .ok (.imul, 1) := by decide +kernel
theorem dX3_likelyFrom_154 : decode cX3_likelyFrom 154 = .ok (.sipush 1000, 3) := by decide +kernel
theorem dX3_likelyFrom_157 : decode cX3_likelyFrom 157 = .ok (.aload_n 0, 1) := by decide +kernel
theorem dX3_likelyFrom_158 : decode cX3_likelyFrom 158 = .ok (.getfield 33, 3) := by decide +kernel
theorem dX3_likelyFrom_161 : decode cX3_likelyFrom 161 = .ok (.getfield 149, 3) := by decide +kernel
theorem dX3_likelyFrom_164 : decode cX3_likelyFrom 164 = .ok (.isub, 1) := by decide +kernel
theorem dX3_likelyFrom_165 : decode cX3_likelyFrom 165 = .ok (.iload 12, 2) := by decide +kernel
theorem dX3_likelyFrom_167 : decode cX3_likelyFrom 167 = .ok (.imul, 1) := by decide +kernel
theorem dX3_likelyFrom_168 : decode cX3_likelyFrom 168 = .ok (.iadd, 1) := by decide +kernel
theorem dX3_likelyFrom_169 : decode cX3_likelyFrom 169 = .ok (.sipush 1000, 3) := by decide +kernel
theorem dX3_likelyFrom_172 : decode cX3_likelyFrom 172 = .ok (.idiv, 1) := by decide +kernel
theorem dX3_likelyFrom_173 : decode cX3_likelyFrom 173 = .ok (.ireturn, 1) := by decide +kernel
theorem dX3_play_0 : decode cX3_play 0 = .ok (.iload_n 2, 1) := by decide +kernel
theorem dX3_play_1 : decode cX3_play 1 = .ok (.istore 4, 2) := by decide +kernel
theorem dX3_play_3 : decode cX3_play 3 = .ok (.iconst 0, 1) := by decide +kernel
theorem dX3_play_4 : decode cX3_play 4 = .ok (.istore 5, 2) := by decide +kernel
theorem dX3_play_6 : decode cX3_play 6 = .ok (.iload_n 3, 1) := by decide +kernel
theorem dX3_play_7 : decode cX3_play 7 = .ok (.istore 6, 2) := by decide +kernel
theorem dX3_play_9 : decode cX3_play 9 = .ok (.iconst 0, 1) := by decide +kernel
theorem dX3_play_10 : decode cX3_play 10 = .ok (.istore 7, 2) := by decide +kernel
theorem dX3_play_12 : decode cX3_play 12 = .ok (.aload_n 0, 1) := by decide +kernel
theorem dX3_play_13 : decode cX3_play 13 = .ok (.iconst 0, 1) := by decide +kernel
theorem dX3_play_14 : decode cX3_play 14 = .ok (.putfield 153, 3) := by decide +kernel
theorem dX3_play_17 : decode cX3_play 17 = .ok (.iconst 0, 1) := by decide +kernel
theorem dX3_play_18 : decode cX3_play 18 = .ok (.istore 8, 2) := by decide +kernel
theorem dX3_play_20 : decode cX3_play 20 = .ok (.iload 8, 2) := by decide +kernel
theorem dX3_play_22 : decode cX3_play 22 = .ok (.bipush 8, 2) := by decide +kernel
theorem dX3_play_24 : decode cX3_play 24 = .ok (.if_icmp .ge 176, 3) := by decide +kernel
theorem dX3_play_27 : decode cX3_play 27 = .ok (.aload_n 0, 1) := by decide +kernel
theorem dX3_play_28 : decode cX3_play 28 = .ok (.getfield 33, 3) := by decide +kernel
theorem dX3_play_31 : decode cX3_play 31 = .ok (.iload 8, 2) := by decide +kernel
theorem dX3_play_33 : decode cX3_play 33 = .ok (.iload 5, 2) := by decide +kernel
theorem dX3_play_35 : decode cX3_play 35 = .ok (.iload 6, 2) := by decide +kernel
theorem dX3_play_37 : decode cX3_play 37 = .ok (.invokevirtual 123, 3) := by decide +kernel
theorem dX3_play_40 : decode cX3_play 40 = .ok (.ifCond .ne 160, 3) := by decide +kernel
theorem dX3_play_43 : decode cX3_play 43 = .ok (.aload_n 0, 1) := by decide +kernel
theorem dX3_play_44 : decode cX3_play 44 = .ok (.iload_n 1, 1) := by decide +kernel
theorem dX3_play_45 : decode cX3_play 45 = .ok (.iload 8, 2) := by decide +kernel
theorem dX3_play_47 : decode cX3_play 47 = .ok (.iload 5, 2) := by decide +kernel
theorem dX3_play_49 : decode cX3_play 49 = .ok (.iload 6, 2) := by decide +kernel
theorem dX3_play_51 : decode cX3_play 51 = .ok (.invokevirtual 127, 3) := by decide +kernel
theorem dX3_play_54 : decode cX3_play 54 = .ok (.istore 9, 2) := by decide +kernel
theorem dX3_play_56 : decode cX3_play 56 = .ok (.aload_n 0, 1) := by decide +kernel
theorem dX3_play_57 : decode cX3_play 57 = .ok (.iload 9, 2) := by decide +kernel
theorem dX3_play_59 : decode cX3_play 59 = .ok (.iload 5, 2) := by decide +kernel
theorem dX3_play_61 : decode cX3_play 61 = .ok (.iload 6, 2) := by decide +kernel
theorem dX3_play_63 : decode cX3_play 63 = .ok (.invokevirtual 136, 3) := by decide +kernel
theorem dX3_play_66 : decode cX3_play 66 = .ok (.istore 10, 2) := by decide +kernel
theorem dX3_play_68 : decode cX3_play 68 = .ok (.iload 4, 2) := by decide +kernel
theorem dX3_play_70 : decode cX3_play 70 = .ok (.invokestatic 156, 3) := by decide +kernel
theorem dX3_play_73 : decode cX3_play 73 = .ok (.istore 4, 2) := by decide +kernel
theorem dX3_play_75 : decode cX3_play 75 = .ok (.iload 4, 2) := by decide +kernel
theorem dX3_play_77 : decode cX3_play 77 = .ok (.invokestatic 159, 3) := by decide +kernel
theorem dX3_play_80 : decode cX3_play 80 = .ok (.aload_n 0, 1) := by decide +kernel
theorem dX3_play_81 : decode cX3_play 81 = .ok (.iload 9, 2) := by decide +kernel
theorem dX3_play_83 : decode cX3_play 83 = .ok (.iload 8, 2) := by decide +kernel
theorem dX3_play_85 : decode cX3_play 85 = .ok (.iload 5, 2) := by decide +kernel
theorem dX3_play_87 : decode cX3_play 87 = .ok (.iload 6, 2) := by decide +kernel
theorem dX3_play_89 : decode cX3_play 89 = .ok (.invokevirtual 139, 3) := by decide +kernel
theorem dX3_play_92 : decode cX3_play 92 = .ok (.if_icmp .ge 7, 3) := by decide +kernel
theorem dX3_play_95 : decode cX3_play 95 = .ok (.iconst 1, 1) := by decide +kernel
theorem dX3_play_96 : decode cX3_play 96 = .ok (.goto 4, 3) := by decide +kernel
theorem dX3_play_99 : decode cX3_play 99 = .ok (.iconst 0, 1) := by decide +kernel
theorem dX3_play_100 : decode cX3_play 100 = .ok (.istore 11, 2) := by decide +kernel
theorem dX3_play_102 : decode cX3_play 102 = .ok (.aload_n 0, 1) := by decide +kernel
theorem dX3_play_103 : decode cX3_play 103 = .ok (.getfield 9, 3) := by decide +kernel
theorem dX3_play_106 : decode cX3_play 106 = .ok (.iload 8, 2) := by decide +kernel
theorem dX3_play_108 : decode cX3_play 108 = .ok (.iload 9, 2) := by decide +kernel
theorem dX3_play_110 : decode cX3_play 110 = .ok (.iastore, 1) := by decide +kernel
theorem dX3_play_111 : decode cX3_play 111 = .ok (.aload_n 0, 1) := by decide +kernel
theorem dX3_play_112 : decode cX3_play 112 = .ok (.getfield 15, 3) := by decide +kernel
theorem dX3_play_115 : decode cX3_play 115 = .ok (.iload 8, 2) := by decide +kernel
theorem dX3_play_117 : decode cX3_play 117 = .ok (.iload 10, 2) := by decide +kernel
theorem dX3_play_119 : decode cX3_play 119 = .ok (.iastore, 1) := by decide +kernel
theorem dX3_play_120 : decode cX3_play 120 = .ok (.aload_n 0, 1) := by decide +kernel
theorem dX3_play_121 : decode cX3_play 121 = .ok (.getfield 18, 3) := by decide +kernel
theorem dX3_play_124 : decode cX3_play 124 = .ok (.iload 8, 2) := by decide +kernel
theorem dX3_play_126 : decode cX3_play 126 = .ok (.iload 11, 2) := by decide +kernel
theorem dX3_play_128 : decode cX3_play 128 = .ok (.ifCond .eq 7, 3) := by decide +kernel
theorem dX3_play_131 : decode cX3_play 131 = .ok (.iconst 1, 1) := by decide +kernel
theorem dX3_play_132 : decode cX3_play 132 = .ok (.goto 4, 3) := by decide +kernel
theorem dX3_play_135 : decode cX3_play 135 = .ok (.iconst 0, 1) := by decide +kernel
theorem dX3_play_136 : decode cX3_play 136 = .ok (.iastore, 1) := by decide +kernel
theorem dX3_play_137 : decode cX3_play 137 = .ok (.aload_n 0, 1) := by decide +kernel
theorem dX3_play_138 : decode cX3_play 138 = .ok (.iload 8, 2) := by decide +kernel
theorem dX3_play_140 : decode cX3_play 140 = .ok (.iconst 1, 1) := by decide +kernel
theorem dX3_play_141 : decode cX3_play 141 = .ok (.iadd, 1) := by decide +kernel
theorem dX3_play_142 : decode cX3_play 142 = .ok (.putfield 153, 3) := by decide +kernel
theorem dX3_play_145 : decode cX3_play 145 = .ok (.iload 7, 2) := by decide +kernel
theorem dX3_play_147 : decode cX3_play 147 = .ok (.iload 10, 2) := by decide +kernel
theorem dX3_play_149 : decode cX3_play 149 = .ok (.iadd, 1) := by decide +kernel
theorem dX3_play_150 : decode cX3_play 150 = .ok (.istore 7, 2) := by decide +kernel
theorem dX3_play_152 : decode cX3_play 152 = .ok (.iload 11, 2) := by decide +kernel
theorem dX3_play_154 : decode cX3_play 154 = .ok (.ifCond .eq 6, 3) := by decide +kernel
theorem dX3_play_157 : decode cX3_play 157 = .ok (.iinc 5 1, 3) := by decide +kernel
theorem dX3_play_160 : decode cX3_play 160 = .ok (.iload 6, 2) := by decide +kernel
theorem dX3_play_162 : decode cX3_play 162 = .ok (.iload 9, 2) := by decide +kernel
theorem dX3_play_164 : decode cX3_play 164 = .ok (.invokestatic 130, 3) := by decide +kernel
theorem dX3_play_167 : decode cX3_play 167 = .ok (.istore 6, 2) := by decide +kernel
theorem dX3_play_169 : decode cX3_play 169 = .ok (.iload 4, 2) := by decide +kernel
theorem dX3_play_171 : decode cX3_play 171 = .ok (.invokestatic 156, 3) := by decide +kernel
theorem dX3_play_174 : decode cX3_play 174 = .ok (.istore 4, 2) := by decide +kernel
theorem dX3_play_176 : decode cX3_play 176 = .ok (.iload 4, 2) := by decide +kernel
theorem dX3_play_178 : decode cX3_play 178 = .ok (.invokestatic 159, 3) := by decide +kernel
theorem dX3_play_181 : decode cX3_play 181 = .ok (.aload_n 0, 1) := by decide +kernel
theorem dX3_play_182 : decode cX3_play 182 = .ok (.getfield 33, 3) := by decide +kernel
theorem dX3_play_185 : decode cX3_play 185 = .ok (.getfield 149, 3) := by decide +kernel
theorem dX3_play_188 : decode cX3_play 188 = .ok (.if_icmp .ge 6, 3) := by decide +kernel
theorem dX3_play_191 : decode cX3_play 191 = .ok (.goto 9, 3) := by decide +kernel
theorem dX3_play_194 : decode cX3_play 194 = .ok (.iinc 8 1, 3) := by decide +kernel
theorem dX3_play_197 : decode cX3_play 197 = .ok (.goto (-177), 3) := by decide +kernel
theorem dX3_play_200 : decode cX3_play 200 = .ok (.iload 7, 2) := by decide +kernel
theorem dX3_play_202 : decode cX3_play 202 = .ok (.ireturn, 1) := by decide +kernel
theorem dX3_drawn_0 : decode cX3_drawn 0 = .ok (.iload_n 0, 1) := by decide +kernel
theorem dX3_drawn_1 : decode cX3_drawn 1 = .ok (.ldc 162, 2) := by decide +kernel
theorem dX3_drawn_3 : decode cX3_drawn 3 = .ok (.imul, 1) := by decide +kernel
theorem dX3_drawn_4 : decode cX3_drawn 4 = .ok (.sipush 12345, 3) := by decide +kernel
theorem dX3_drawn_7 : decode cX3_drawn 7 = .ok (.iadd, 1) := by decide +kernel
theorem dX3_drawn_8 : decode cX3_drawn 8 = .ok (.ireturn, 1) := by decide +kernel
theorem dX3_lot_0 : decode cX3_lot 0 = .ok (.iload_n 0, 1) := by decide +kernel
theorem dX3_lot_1 : decode cX3_lot 1 = .ok (.bipush 8, 2) := by decide +kernel
theorem dX3_lot_3 : decode cX3_lot 3 = .ok (.iushr, 1) := by decide +kernel
theorem dX3_lot_4 : decode cX3_lot 4 = .ok (.sipush 1000, 3) := by decide +kernel
theorem dX3_lot_7 : decode cX3_lot 7 = .ok (.irem, 1) := by decide +kernel
theorem dX3_lot_8 : decode cX3_lot 8 = .ok (.ireturn, 1) := by decide +kernel
theorem dX3_ledAt_0 : decode cX3_ledAt 0 = .ok (.iload_n 1, 1) := by decide +kernel
theorem dX3_ledAt_1 : decode cX3_ledAt 1 = .ok (.ifCond .lt 9, 3) := by decide +kernel
theorem dX3_ledAt_4 : decode cX3_ledAt 4 = .ok (.iload_n 1, 1) := by decide +kernel
theorem dX3_ledAt_5 : decode cX3_ledAt 5 = .ok (.bipush 8, 2) := by decide +kernel
theorem dX3_ledAt_7 : decode cX3_ledAt 7 = .ok (.if_icmp .lt 5, 3) := by decide +kernel
theorem dX3_ledAt_10 : decode cX3_ledAt 10 = .ok (.iconst (-1), 1) := by decide +kernel
theorem dX3_ledAt_11 : decode cX3_ledAt 11 = .ok (.ireturn, 1) := by decide +kernel
theorem dX3_ledAt_12 : decode cX3_ledAt 12 = .ok (.iload_n 2, 1) := by decide +kernel
theorem dX3_ledAt_13 : decode cX3_ledAt 13 = .ok (.ifCond .ne 10, 3) := by decide +kernel
theorem dX3_ledAt_16 : decode cX3_ledAt 16 = .ok (.aload_n 0, 1) := by decide +kernel
theorem dX3_ledAt_17 : decode cX3_ledAt 17 = .ok (.getfield 9, 3) := by decide +kernel
theorem dX3_ledAt_20 : decode cX3_ledAt 20 = .ok (.iload_n 1, 1) := by decide +kernel
theorem dX3_ledAt_21 : decode cX3_ledAt 21 = .ok (.iaload, 1) := by decide +kernel
theorem dX3_ledAt_22 : decode cX3_ledAt 22 = .ok (.ireturn, 1) := by decide +kernel
theorem dX3_ledAt_23 : decode cX3_ledAt 23 = .ok (.iload_n 2, 1) := by decide +kernel
theorem dX3_ledAt_24 : decode cX3_ledAt 24 = .ok (.iconst 1, 1) := by decide +kernel
theorem dX3_ledAt_25 : decode cX3_ledAt 25 = .ok (.if_icmp .ne 12, 3) := by decide +kernel
theorem dX3_ledAt_28 : decode cX3_ledAt 28 = .ok (.aload_n 0, 1) := by decide +kernel
theorem dX3_ledAt_29 : decode cX3_ledAt 29 = .ok (.getfield 15, 3) := by decide +kernel
theorem dX3_ledAt_32 : decode cX3_ledAt 32 = .ok (.iload_n 1, 1) := by decide +kernel
theorem dX3_ledAt_33 : decode cX3_ledAt 33 = .ok (.iaload, 1) := by decide +kernel
theorem dX3_ledAt_34 : decode cX3_ledAt 34 = .ok (.goto 9, 3) := by decide +kernel
theorem dX3_ledAt_37 : decode cX3_ledAt 37 = .ok (.aload_n 0, 1) := by decide +kernel
theorem dX3_ledAt_38 : decode cX3_ledAt 38 = .ok (.getfield 18, 3) := by decide +kernel
theorem dX3_ledAt_41 : decode cX3_ledAt 41 = .ok (.iload_n 1, 1) := by decide +kernel
theorem dX3_ledAt_42 : decode cX3_ledAt 42 = .ok (.iaload, 1) := by decide +kernel
theorem dX3_ledAt_43 : decode cX3_ledAt 43 = .ok (.ireturn, 1) := by decide +kernel
theorem dX4_init_0 : decode cX4_init 0 = .ok (.aload_n 0, 1) := by decide +kernel
theorem dX4_init_1 : decode cX4_init 1 = .ok (.invokespecial 3, 3) := by decide +kernel
theorem dX4_init_4 : decode cX4_init 4 = .ok (.aload_n 0, 1) := by decide +kernel
theorem dX4_init_5 : decode cX4_init 5 = .ok (.bipush 68, 2) := by decide +kernel
theorem dX4_init_7 : decode cX4_init 7 = .ok (.newarray .int, 2) := by decide +kernel
theorem dX4_init_9 : decode cX4_init 9 = .ok (.putfield 11, 3) := by decide +kernel
theorem dX4_init_12 : decode cX4_init 12 = .ok (.aload_n 0, 1) := by decide +kernel
theorem dX4_init_13 : decode cX4_init 13 = .ok (.iconst 4, 1) := by decide +kernel
theorem dX4_init_14 : decode cX4_init 14 = .ok (.newarray .int, 2) := by decide +kernel
theorem dX4_init_16 : decode cX4_init 16 = .ok (.putfield 15, 3) := by decide +kernel
theorem dX4_init_19 : decode cX4_init 19 = .ok (.aload_n 0, 1) := by decide +kernel
theorem dX4_init_20 : decode cX4_init 20 = .ok (.iconst 4, 1) := by decide +kernel
theorem dX4_init_21 : decode cX4_init 21 = .ok (.newarray .int, 2) := by decide +kernel
theorem dX4_init_23 : decode cX4_init 23 = .ok (.putfield 18, 3) := by decide +kernel
theorem dX4_init_26 : decode cX4_init 26 = .ok (.aload_n 0, 1) := by decide +kernel
theorem dX4_init_27 : decode cX4_init 27 = .ok (.bipush 40, 2) := by decide +kernel
theorem dX4_init_29 : decode cX4_init 29 = .ok (.newarray .int, 2) := by decide +kernel
theorem dX4_init_31 : decode cX4_init 31 = .ok (.putfield 21, 3) := by decide +kernel
theorem dX4_init_34 : decode cX4_init 34 = .ok (.aload_n 0, 1) := by decide +kernel
theorem dX4_init_35 : decode cX4_init 35 = .ok (.bipush 40, 2) := by decide +kernel
theorem dX4_init_37 : decode cX4_init 37 = .ok (.newarray .int, 2) := by decide +kernel
theorem dX4_init_39 : decode cX4_init 39 = .ok (.putfield 24, 3) := by decide +kernel
theorem dX4_init_42 : decode cX4_init 42 = .ok (.aload_n 0, 1) := by decide +kernel
theorem dX4_init_43 : decode cX4_init 43 = .ok (.bipush 40, 2) := by decide +kernel
theorem dX4_init_45 : decode cX4_init 45 = .ok (.newarray .int, 2) := by decide +kernel
theorem dX4_init_47 : decode cX4_init 47 = .ok (.putfield 27, 3) := by decide +kernel
theorem dX4_init_50 : decode cX4_init 50 = .ok (.return_, 1) := by decide +kernel
theorem dX4_lowest_0 : decode cX4_lowest 0 = .ok (.iload_n 0, 1) := by decide +kernel
theorem dX4_lowest_1 : decode cX4_lowest 1 = .ok (.bipush 16, 2) := by decide +kernel
theorem dX4_lowest_3 : decode cX4_lowest 3 = .ok (.if_icmp .lt 15, 3) := by decide +kernel
theorem dX4_lowest_6 : decode cX4_lowest 6 = .ok (.iload_n 0, 1) := by decide +kernel
theorem dX4_lowest_7 : decode cX4_lowest 7 = .ok (.bipush 32, 2) := by decide +kernel
theorem dX4_lowest_9 : decode cX4_lowest 9 = .ok (.if_icmp .lt 11, 3) := by decide +kernel
theorem dX4_lowest_12 : decode cX4_lowest 12 = .ok (.iload_n 0, 1) := by decide +kernel
theorem dX4_lowest_13 : decode cX4_lowest 13 = .ok (.bipush 36, 2) := by decide +kernel
theorem dX4_lowest_15 : decode cX4_lowest 15 = .ok (.if_icmp .ge 5, 3) := by decide +kernel
theorem dX4_lowest_18 : decode cX4_lowest 18 = .ok (.iconst 0, 1) := by decide +kernel
theorem dX4_lowest_19 : decode cX4_lowest 19 = .ok (.ireturn, 1) := by decide +kernel
theorem dX4_lowest_20 : decode cX4_lowest 20 = .ok (.iload_n 0, 1) := by decide +kernel
theorem dX4_lowest_21 : decode cX4_lowest 21 = .ok (.bipush 36, 2) := by decide +kernel
theorem dX4_lowest_23 : decode cX4_lowest 23 = .ok (.if_icmp .lt 15, 3) := by decide +kernel
theorem dX4_lowest_26 : decode cX4_lowest 26 = .ok (.iload_n 0, 1) := by decide +kernel
theorem dX4_lowest_27 : decode cX4_lowest 27 = .ok (.bipush 52, 2) := by decide +kernel
theorem dX4_lowest_29 : decode cX4_lowest 29 = .ok (.if_icmp .ge 9, 3) := by decide +kernel
theorem dX4_lowest_32 : decode cX4_lowest 32 = .ok (.sipush (-200), 3) := by decide +kernel
theorem dX4_lowest_35 : decode cX4_lowest 35 = .ok (.goto 5, 3) := by decide +kernel
theorem dX4_lowest_38 : decode cX4_lowest 38 = .ok (.bipush (-9), 2) := by decide +kernel
theorem dX4_lowest_40 : decode cX4_lowest 40 = .ok (.ireturn, 1) := by decide +kernel
theorem dX4_highest_0 : decode cX4_highest 0 = .ok (.iload_n 0, 1) := by decide +kernel
theorem dX4_highest_1 : decode cX4_highest 1 = .ok (.bipush 16, 2) := by decide +kernel
theorem dX4_highest_3 : decode cX4_highest 3 = .ok (.if_icmp .ge 7, 3) := by decide +kernel
theorem dX4_highest_6 : decode cX4_highest 6 = .ok (.sipush 500, 3) := by decide +kernel
theorem dX4_highest_9 : decode cX4_highest 9 = .ok (.ireturn, 1) := by decide +kernel
theorem dX4_highest_10 : decode cX4_highest 10 = .ok (.iload_n 0, 1) := by decide +kernel
theorem dX4_highest_11 : decode cX4_highest 11 = .ok (.bipush 32, 2) := by decide +kernel
theorem dX4_highest_13 : decode cX4_highest 13 = .ok (.if_icmp .ge 6, 3) := by decide +kernel
theorem dX4_highest_16 : decode cX4_highest 16 = .ok (.bipush 9, 2) := by decide +kernel
theorem dX4_highest_18 : decode cX4_highest 18 = .ok (.ireturn, 1) := by decide +kernel
theorem dX4_highest_19 : decode cX4_highest 19 = .ok (.iload_n 0, 1) := by decide +kernel
theorem dX4_highest_20 : decode cX4_highest 20 = .ok (.bipush 36, 2) := by decide +kernel
theorem dX4_highest_22 : decode cX4_highest 22 = .ok (.if_icmp .ge 6, 3) := by decide +kernel
theorem dX4_highest_25 : decode cX4_highest 25 = .ok (.bipush 8, 2) := by decide +kernel
theorem dX4_highest_27 : decode cX4_highest 27 = .ok (.ireturn, 1) := by decide +kernel
theorem dX4_highest_28 : decode cX4_highest 28 = .ok (.iload_n 0, 1) := by decide +kernel
theorem dX4_highest_29 : decode cX4_highest 29 = .ok (.bipush 52, 2) := by decide +kernel
theorem dX4_highest_31 : decode cX4_highest 31 = .ok (.if_icmp .ge 9, 3) := by decide +kernel
theorem dX4_highest_34 : decode cX4_highest 34 = .ok (.sipush 200, 3) := by decide +kernel
theorem dX4_highest_37 : decode cX4_highest 37 = .ok (.goto 5, 3) := by decide +kernel
theorem dX4_highest_40 : decode cX4_highest 40 = .ok (.bipush 9, 2) := by decide +kernel
theorem dX4_highest_42 : decode cX4_highest 42 = .ok (.ireturn, 1) := by decide +kernel
theorem dX4_join_0 : decode cX4_join 0 = .ok (.aload_n 0, 1) := by decide +kernel
theorem dX4_join_1 : decode cX4_join 1 = .ok (.getfield 30, 3) := by decide +kernel
theorem dX4_join_4 : decode cX4_join 4 = .ok (.istore 4, 2) := by decide +kernel
theorem dX4_join_6 : decode cX4_join 6 = .ok (.iload 4, 2) := by decide +kernel
theorem dX4_join_8 : decode cX4_join 8 = .ok (.iconst 4, 1) := by decide +kernel
theorem dX4_join_9 : decode cX4_join 9 = .ok (.if_icmp .lt 6, 3) := by decide +kernel
theorem dX4_join_12 : decode cX4_join 12 = .ok (.bipush (-3), 2) := by decide +kernel
theorem dX4_join_14 : decode cX4_join 14 = .ok (.ireturn, 1) := by decide +kernel
theorem dX4_join_15 : decode cX4_join 15 = .ok (.aload_n 0, 1) := by decide +kernel
theorem dX4_join_16 : decode cX4_join 16 = .ok (.getfield 15, 3) := by decide +kernel
theorem dX4_join_19 : decode cX4_join 19 = .ok (.iload 4, 2) := by decide +kernel
theorem dX4_join_21 : decode cX4_join 21 = .ok (.iload_n 2, 1) := by decide +kernel
theorem dX4_join_22 : decode cX4_join 22 = .ok (.iastore, 1) := by decide +kernel
theorem dX4_join_23 : decode cX4_join 23 = .ok (.aload_n 0, 1) := by decide +kernel
theorem dX4_join_24 : decode cX4_join 24 = .ok (.getfield 18, 3) := by decide +kernel
theorem dX4_join_27 : decode cX4_join 27 = .ok (.iload 4, 2) := by decide +kernel
theorem dX4_join_29 : decode cX4_join 29 = .ok (.iload_n 3, 1) := by decide +kernel
theorem dX4_join_30 : decode cX4_join 30 = .ok (.iastore, 1) := by decide +kernel
theorem dX4_join_31 : decode cX4_join 31 = .ok (.aload_n 0, 1) := by decide +kernel
theorem dX4_join_32 : decode cX4_join 32 = .ok (.getfield 11, 3) := by decide +kernel
theorem dX4_join_35 : decode cX4_join 35 = .ok (.bipush 32, 2) := by decide +kernel
theorem dX4_join_37 : decode cX4_join 37 = .ok (.iload 4, 2) := by decide +kernel
theorem dX4_join_39 : decode cX4_join 39 = .ok (.iadd, 1) := by decide +kernel
theorem dX4_join_40 : decode cX4_join 40 = .ok (.iload_n 1, 1) := by decide +kernel
theorem dX4_join_41 : decode cX4_join 41 = .ok (.iastore, 1) := by decide +kernel
theorem dX4_join_42 : decode cX4_join 42 = .ok (.iconst 0, 1) := by decide +kernel
theorem dX4_join_43 : decode cX4_join 43 = .ok (.istore 5, 2) := by decide +kernel
theorem dX4_join_45 : decode cX4_join 45 = .ok (.iload 5, 2) := by decide +kernel
theorem dX4_join_47 : decode cX4_join 47 = .ok (.iconst 4, 1) := by decide +kernel
theorem dX4_join_48 : decode cX4_join 48 = .ok (.if_icmp .ge 25, 3) := by decide +kernel
theorem dX4_join_51 : decode cX4_join 51 = .ok (.aload_n 0, 1) := by decide +kernel
theorem dX4_join_52 : decode cX4_join 52 = .ok (.getfield 11, 3) := by decide +kernel
theorem dX4_join_55 : decode cX4_join 55 = .ok (.iconst 0, 1) := by decide +kernel
theorem dX4_join_56 : decode cX4_join 56 = .ok (.iload 4, 2) := by decide +kernel
theorem dX4_join_58 : decode cX4_join 58 = .ok (.iconst 4, 1) := by decide +kernel
theorem dX4_join_59 : decode cX4_join 59 = .ok (.imul, 1) := by decide +kernel
theorem dX4_join_60 : decode cX4_join 60 = .ok (.iadd, 1) := by decide +kernel
theorem dX4_join_61 : decode cX4_join 61 = .ok (.iload 5, 2) := by decide +kernel
theorem dX4_join_63 : decode cX4_join 63 = .ok (.iadd, 1) := by decide +kernel
theorem dX4_join_64 : decode cX4_join 64 = .ok (.bipush 100, 2) := by decide +kernel
theorem dX4_join_66 : decode cX4_join 66 = .ok (.iastore, 1) := by decide +kernel
theorem dX4_join_67 : decode cX4_join 67 = .ok (.iinc 5 1, 3) := by decide +kernel
theorem dX4_join_70 : decode cX4_join 70 = .ok (.goto (-25), 3) := by decide +kernel
theorem dX4_join_73 : decode cX4_join 73 = .ok (.aload_n 0, 1) := by decide +kernel
theorem dX4_join_74 : decode cX4_join 74 = .ok (.dup, 1) := by decide +kernel
theorem dX4_join_75 : decode cX4_join 75 = .ok (.getfield 30, 3) := by decide +kernel
theorem dX4_join_78 : decode cX4_join 78 = .ok (.iconst 1, 1) := by decide +kernel
theorem dX4_join_79 : decode cX4_join 79 = .ok (.iadd, 1) := by decide +kernel
theorem dX4_join_80 : decode cX4_join 80 = .ok (.putfield 30, 3) := by decide +kernel
theorem dX4_join_83 : decode cX4_join 83 = .ok (.iload 4, 2) := by decide +kernel
theorem dX4_join_85 : decode cX4_join 85 = .ok (.ireturn, 1) := by decide +kernel
theorem dX4_at_0 : decode cX4_at 0 = .ok (.iload_n 1, 1) := by decide +kernel
theorem dX4_at_1 : decode cX4_at 1 = .ok (.ifCond .lt 9, 3) := by decide +kernel
theorem dX4_at_4 : decode cX4_at 4 = .ok (.iload_n 1, 1) := by decide +kernel
theorem dX4_at_5 : decode cX4_at 5 = .ok (.bipush 68, 2) := by decide +kernel
theorem dX4_at_7 : decode cX4_at 7 = .ok (.if_icmp .lt 7, 3) := by decide +kernel
theorem dX4_at_10 : decode cX4_at 10 = .ok (.iconst 0, 1) := by decide +kernel
theorem dX4_at_11 : decode cX4_at 11 = .ok (.goto 9, 3) := by decide +kernel
theorem dX4_at_14 : decode cX4_at 14 = .ok (.aload_n 0, 1) := by decide +kernel
theorem dX4_at_15 : decode cX4_at 15 = .ok (.getfield 11, 3) := by decide +kernel
theorem dX4_at_18 : decode cX4_at 18 = .ok (.iload_n 1, 1) := by decide +kernel
theorem dX4_at_19 : decode cX4_at 19 = .ok (.iaload, 1) := by decide +kernel
theorem dX4_at_20 : decode cX4_at 20 = .ok (.ireturn, 1) := by decide +kernel
theorem dX4_oversOf_0 : decode cX4_oversOf 0 = .ok (.aload_n 0, 1) := by decide +kernel
theorem dX4_oversOf_1 : decode cX4_oversOf 1 = .ok (.bipush 32, 2) := by decide +kernel
theorem dX4_oversOf_3 : decode cX4_oversOf 3 = .ok (.iload_n 1, 1) := by decide +kernel
theorem dX4_oversOf_4 : decode cX4_oversOf 4 = .ok (.iadd, 1) := by decide +kernel
theorem dX4_oversOf_5 : decode cX4_oversOf 5 = .ok (.invokevirtual 34, 3) := by decide +kernel
theorem dX4_oversOf_8 : decode cX4_oversOf 8 = .ok (.ireturn, 1) := by decide +kernel
theorem dX4_freshAttack_0 : decode cX4_freshAttack 0 = .ok (.iconst 0, 1) := by decide +kernel
theorem dX4_freshAttack_1 : decode cX4_freshAttack 1 = .ok (.istore_n 1, 1) := by decide +kernel
theorem dX4_freshAttack_2 : decode cX4_freshAttack 2 = .ok (.iconst 0, 1) := by decide +kernel
theorem dX4_freshAttack_3 : decode cX4_freshAttack 3 = .ok (.istore_n 2, 1) := by decide +kernel
theorem dX4_freshAttack_4 : decode cX4_freshAttack 4 = .ok (.iload_n 2, 1) := by decide +kernel
theorem dX4_freshAttack_5 : decode cX4_freshAttack 5 = .ok (.aload_n 0, 1) := by decide +kernel
theorem dX4_freshAttack_6 : decode cX4_freshAttack 6 = .ok (.getfield 30, 3) := by decide +kernel
theorem dX4_freshAttack_9 : decode cX4_freshAttack 9 = .ok (.if_icmp .ge 20, 3) := by decide +kernel
theorem dX4_freshAttack_12 : decode cX4_freshAttack 12 = .ok (.iload_n 1, 1) := by decide +kernel
theorem dX4_freshAttack_13 : decode cX4_freshAttack 13 = .ok (.iload_n 2, 1) := by decide +kernel
theorem dX4_freshAttack_14 : decode cX4_freshAttack 14 = .ok (.aload_n 0, 1) := by decide +kernel
theorem dX4_freshAttack_15 : decode cX4_freshAttack 15 = .ok (.iload_n 2, 1) := by decide +kernel
theorem dX4_freshAttack_16 : decode cX4_freshAttack 16 = .ok (.invokevirtual 38, 3) := by decide +kernel
theorem dX4_freshAttack_19 : decode cX4_freshAttack 19 = .ok (.invokestatic 41, 3) := by decide +kernel
theorem dX4_freshAttack_22 : decode cX4_freshAttack 22 = .ok (.istore_n 1, 1) := by decide +kernel
theorem dX4_freshAttack_23 : decode cX4_freshAttack 23 = .ok (.iinc 2 1, 3) := by decide +kernel
theorem dX4_freshAttack_26 : decode cX4_freshAttack 26 = .ok (.goto (-22), 3) := by decide +kernel
theorem dX4_freshAttack_29 : decode cX4_freshAttack 29 = .ok (.iload_n 1, 1) := by decide +kernel
theorem dX4_freshAttack_30 : decode cX4_freshAttack 30 = .ok (.ireturn, 1) := by decide +kernel
theorem dX4_edgeIn_0 : decode cX4_edgeIn 0 = .ok (.aload_n 0, 1) := by decide +kernel
theorem dX4_edgeIn_1 : decode cX4_edgeIn 1 = .ok (.iconst 0, 1) := by decide +kernel
theorem dX4_edgeIn_2 : decode cX4_edgeIn 2 = .ok (.iload_n 2, 1) := by decide +kernel
theorem dX4_edgeIn_3 : decode cX4_edgeIn 3 = .ok (.iconst 4, 1) := by decide +kernel
theorem dX4_edgeIn_4 : decode cX4_edgeIn 4 = .ok (.imul, 1) := by decide +kernel
theorem dX4_edgeIn_5 : decode cX4_edgeIn 5 = .ok (.iadd, 1) := by decide +kernel
theorem dX4_edgeIn_6 : decode cX4_edgeIn 6 = .ok (.iload_n 3, 1) := by decide +kernel
theorem dX4_edgeIn_7 : decode cX4_edgeIn 7 = .ok (.iadd, 1) := by decide +kernel
theorem dX4_edgeIn_8 : decode cX4_edgeIn 8 = .ok (.invokevirtual 34, 3) := by decide +kernel
theorem dX4_edgeIn_11 : decode cX4_edgeIn 11 = .ok (.aload_n 0, 1) := by decide +kernel
theorem dX4_edgeIn_12 : decode cX4_edgeIn 12 = .ok (.bipush 36, 2) := by decide +kernel
theorem dX4_edgeIn_14 : decode cX4_edgeIn 14 = .ok (.iload_n 1, 1) := by decide +kernel
theorem dX4_edgeIn_15 : decode cX4_edgeIn 15 = .ok (.iconst 4, 1) := by decide +kernel
theorem dX4_edgeIn_16 : decode cX4_edgeIn 16 = .ok (.imul, 1) := by decide +kernel
theorem dX4_edgeIn_17 : decode cX4_edgeIn 17 = .ok (.iadd, 1) := by decide +kernel
theorem dX4_edgeIn_18 : decode cX4_edgeIn 18 = .ok (.iload_n 3, 1) := by decide +kernel
theorem dX4_edgeIn_19 : decode cX4_edgeIn 19 = .ok (.iadd, 1) := by decide +kernel
theorem dX4_edgeIn_20 : decode cX4_edgeIn 20 = .ok (.invokevirtual 34, 3) := by decide +kernel
theorem dX4_edgeIn_23 : decode cX4_edgeIn 23 = .ok (.iadd, 1) := by decide +kernel
theorem dX4_edgeIn_24 : decode cX4_edgeIn 24 = .ok (.ireturn, 1) := by decide +kernel
theorem dX4_runsIn_0 : decode cX4_runsIn 0 = .ok (.iload_n 2, 1) := by decide +kernel
theorem dX4_runsIn_1 : decode cX4_runsIn 1 = .ok (.ifCond .lt 8, 3) := by decide +kernel
theorem dX4_runsIn_4 : decode cX4_runsIn 4 = .ok (.iload_n 2, 1) := by decide +kernel
theorem dX4_runsIn_5 : decode cX4_runsIn 5 = .ok (.iconst 4, 1) := by decide +kernel
theorem dX4_runsIn_6 : decode cX4_runsIn 6 = .ok (.if_icmp .lt 5, 3) := by decide +kernel
theorem dX4_runsIn_9 : decode cX4_runsIn 9 = .ok (.iconst 0, 1) := by decide +kernel
theorem dX4_runsIn_10 : decode cX4_runsIn 10 = .ok (.ireturn, 1) := by decide +kernel
theorem dX4_runsIn_11 : decode cX4_runsIn 11 = .ok (.aload_n 0, 1) := by decide +kernel
theorem dX4_runsIn_12 : decode cX4_runsIn 12 = .ok (.getfield 18, 3) := by decide +kernel
theorem dX4_runsIn_15 : decode cX4_runsIn 15 = .ok (.iload_n 2, 1) := by decide +kernel
theorem dX4_runsIn_16 : decode cX4_runsIn 16 = .ok (.iaload, 1) := by decide +kernel
theorem dX4_runsIn_17 : decode cX4_runsIn 17 = .ok (.aload_n 0, 1) := by decide +kernel
theorem dX4_runsIn_18 : decode cX4_runsIn 18 = .ok (.bipush 16, 2) := by decide +kernel
theorem dX4_runsIn_20 : decode cX4_runsIn 20 = .ok (.iload_n 2, 1) := by decide +kernel
theorem dX4_runsIn_21 : decode cX4_runsIn 21 = .ok (.iconst 4, 1) := by decide +kernel
theorem dX4_runsIn_22 : decode cX4_runsIn 22 = .ok (.imul, 1) := by decide +kernel
theorem dX4_runsIn_23 : decode cX4_runsIn 23 = .ok (.iadd, 1) := by decide +kernel
theorem dX4_runsIn_24 : decode cX4_runsIn 24 = .ok (.iload_n 3, 1) := by decide +kernel
theorem dX4_runsIn_25 : decode cX4_runsIn 25 = .ok (.iadd, 1) := by decide +kernel
theorem dX4_runsIn_26 : decode cX4_runsIn 26 = .ok (.invokevirtual 34, 3) := by decide +kernel
theorem dX4_runsIn_29 : decode cX4_runsIn 29 = .ok (.iadd, 1) := by decide +kernel
theorem dX4_runsIn_30 : decode cX4_runsIn 30 = .ok (.aload_n 0, 1) := by decide +kernel
theorem dX4_runsIn_31 : decode cX4_runsIn 31 = .ok (.bipush 52, 2) := by decide +kernel
theorem dX4_runsIn_33 : decode cX4_runsIn 33 = .ok (.iload_n 1, 1) := by decide +kernel
theorem dX4_runsIn_34 : decode cX4_runsIn 34 = .ok (.iconst 4, 1) := by decide +kernel
theorem dX4_runsIn_35 : decode cX4_runsIn 35 = .ok (.imul, 1) := by decide +kernel
theorem dX4_runsIn_36 : decode cX4_runsIn 36 = .ok (.iadd, 1) := by decide +kernel
theorem dX4_runsIn_37 : decode cX4_runsIn 37 = .ok (.iload_n 3, 1) := by decide +kernel
theorem dX4_runsIn_38 : decode cX4_runsIn 38 = .ok (.iadd, 1) := by decide +kernel
theorem dX4_runsIn_39 : decode cX4_runsIn 39 = .ok (.invokevirtual 34, 3) := by decide +kernel
theorem dX4_runsIn_42 : decode cX4_runsIn 42 = .ok (.iadd, 1) := by decide +kernel
theorem dX4_runsIn_43 : decode cX4_runsIn 43 = .ok (.ireturn, 1) := by decide +kernel
theorem dX4_freshness_0 : decode cX4_freshness 0 = .ok (.iload_n 1, 1) := by decide +kernel
theorem dX4_freshness_1 : decode cX4_freshness 1 = .ok (.ifCond .lt 8, 3) := by decide +kernel
theorem dX4_freshness_4 : decode cX4_freshness 4 = .ok (.iload_n 1, 1) := by decide +kernel
theorem dX4_freshness_5 : decode cX4_freshness 5 = .ok (.iconst 4, 1) := by decide +kernel
theorem dX4_freshness_6 : decode cX4_freshness 6 = .ok (.if_icmp .lt 5, 3) := by decide +kernel
theorem dX4_freshness_9 : decode cX4_freshness 9 = .ok (.iconst 0, 1) := by decide +kernel
theorem dX4_freshness_10 : decode cX4_freshness 10 = .ok (.ireturn, 1) := by decide +kernel
theorem dX4_freshness_11 : decode cX4_freshness 11 = .ok (.iconst 0, 1) := by decide +kernel
theorem dX4_freshness_12 : decode cX4_freshness 12 = .ok (.bipush 100, 2) := by decide +kernel
theorem dX4_freshness_14 : decode cX4_freshness 14 = .ok (.aload_n 0, 1) := by decide +kernel
theorem dX4_freshness_15 : decode cX4_freshness 15 = .ok (.getfield 15, 3) := by decide +kernel
theorem dX4_freshness_18 : decode cX4_freshness 18 = .ok (.iload_n 1, 1) := by decide +kernel
theorem dX4_freshness_19 : decode cX4_freshness 19 = .ok (.iaload, 1) := by decide +kernel
theorem dX4_freshness_20 : decode cX4_freshness 20 = .ok (.iload_n 2, 1) := by decide +kernel
theorem dX4_freshness_21 : decode cX4_freshness 21 = .ok (.imul, 1) := by decide +kernel
theorem dX4_freshness_22 : decode cX4_freshness 22 = .ok (.isub, 1) := by decide +kernel
theorem dX4_freshness_23 : decode cX4_freshness 23 = .ok (.invokestatic 47, 3) := by decide +kernel
theorem dX4_freshness_26 : decode cX4_freshness 26 = .ok (.ireturn, 1) := by decide +kernel
theorem dX4_change_0 : decode cX4_change 0 = .ok (.iload_n 1, 1) := by decide +kernel
theorem dX4_change_1 : decode cX4_change 1 = .ok (.ifCond .lt 9, 3) := by decide +kernel
theorem dX4_change_4 : decode cX4_change 4 = .ok (.iload_n 1, 1) := by decide +kernel
theorem dX4_change_5 : decode cX4_change 5 = .ok (.bipush 68, 2) := by decide +kernel
theorem dX4_change_7 : decode cX4_change 7 = .ok (.if_icmp .lt 6, 3) := by decide +kernel
theorem dX4_change_10 : decode cX4_change 10 = .ok (.ldc 53, 2) := by decide +kernel
theorem dX4_change_12 : decode cX4_change 12 = .ok (.ireturn, 1) := by decide +kernel
theorem dX4_change_13 : decode cX4_change 13 = .ok (.aload_n 0, 1) := by decide +kernel
theorem dX4_change_14 : decode cX4_change 14 = .ok (.getfield 11, 3) := by decide +kernel
theorem dX4_change_17 : decode cX4_change 17 = .ok (.iload_n 1, 1) := by decide +kernel
theorem dX4_change_18 : decode cX4_change 18 = .ok (.iaload, 1) := by decide +kernel
theorem dX4_change_19 : decode cX4_change 19 = .ok (.istore_n 3, 1) := by decide +kernel
theorem dX4_change_20 : decode cX4_change 20 = .ok (.iload_n 3, 1) := by decide +kernel
theorem dX4_change_21 : decode cX4_change 21 = .ok (.iload_n 2, 1) := by decide +kernel
theorem dX4_change_22 : decode cX4_change 22 = .ok (.if_icmp .ne 5, 3) := by decide +kernel
theorem dX4_change_25 : decode cX4_change 25 = .ok (.iload_n 3, 1) := by decide +kernel
theorem dX4_change_26 : decode cX4_change 26 = .ok (.ireturn, 1) := by decide +kernel
theorem dX4_change_27 : decode cX4_change 27 = .ok (.aload_n 0, 1) := by decide +kernel
theorem dX4_change_28 : decode cX4_change 28 = .ok (.getfield 54, 3) := by decide +kernel
theorem dX4_change_31 : decode cX4_change 31 = .ok (.bipush 40, 2) := by decide +kernel
theorem dX4_change_33 : decode cX4_change 33 = .ok (.if_icmp .lt 7, 3) := by decide +kernel
theorem dX4_change_36 : decode cX4_change 36 = .ok (.aload_n 0, 1) := by decide +kernel
theorem dX4_change_37 : decode cX4_change 37 = .ok (.invokevirtual 57, 3) := by decide +kernel
theorem dX4_change_40 : decode cX4_change 40 = .ok (.aload_n 0, 1) := by decide +kernel
theorem dX4_change_41 : decode cX4_change 41 = .ok (.getfield 21, 3) := by decide +kernel
theorem dX4_change_44 : decode cX4_change 44 = .ok (.aload_n 0, 1) := by decide +kernel
theorem dX4_change_45 : decode cX4_change 45 = .ok (.getfield 54, 3) := by decide +kernel
theorem dX4_change_48 : decode cX4_change 48 = .ok (.iload_n 1, 1) := by decide +kernel
theorem dX4_change_49 : decode cX4_change 49 = .ok (.iastore, 1) := by decide +kernel
theorem dX4_change_50 : decode cX4_change 50 = .ok (.aload_n 0, 1) := by decide +kernel
theorem dX4_change_51 : decode cX4_change 51 = .ok (.getfield 24, 3) := by decide +kernel
theorem dX4_change_54 : decode cX4_change 54 = .ok (.aload_n 0, 1) := by decide +kernel
theorem dX4_change_55 : decode cX4_change 55 = .ok (.getfield 54, 3) := by decide +kernel
theorem dX4_change_58 : decode cX4_change 58 = .ok (.iload_n 3, 1) := by decide +kernel
theorem dX4_change_59 : decode cX4_change 59 = .ok (.iastore, 1) := by decide +kernel
theorem dX4_change_60 : decode cX4_change 60 = .ok (.aload_n 0, 1) := by decide +kernel
theorem dX4_change_61 : decode cX4_change 61 = .ok (.getfield 27, 3) := by decide +kernel
theorem dX4_change_64 : decode cX4_change 64 = .ok (.aload_n 0, 1) := by decide +kernel
theorem dX4_change_65 : decode cX4_change 65 = .ok (.getfield 54, 3) := by decide +kernel
theorem dX4_change_68 : decode cX4_change 68 = .ok (.iload_n 2, 1) := by decide +kernel
theorem dX4_change_69 : decode cX4_change 69 = .ok (.iastore, 1) := by decide +kernel
theorem dX4_change_70 : decode cX4_change 70 = .ok (.aload_n 0, 1) := by decide +kernel
theorem dX4_change_71 : decode cX4_change 71 = .ok (.dup, 1) := by decide +kernel
theorem dX4_change_72 : decode cX4_change 72 = .ok (.getfield 54, 3) := by decide +kernel
theorem dX4_change_75 : decode cX4_change 75 = .ok (.iconst 1, 1) := by decide +kernel
theorem dX4_change_76 : decode cX4_change 76 = .ok (.iadd, 1) := by decide +kernel
theorem dX4_change_77 : decode cX4_change 77 = .ok (.putfield 54, 3) := by decide +kernel
theorem dX4_change_80 : decode cX4_change 80 = .ok (.aload_n 0, 1) := by decide +kernel
theorem dX4_change_81 : decode cX4_change 81 = .ok (.iconst 0, 1) := by decide +kernel
theorem dX4_change_82 : decode cX4_change 82 = .ok (.putfield 60, 3) := by decide +kernel
theorem dX4_change_85 : decode cX4_change 85 = .ok (.aload_n 0, 1) := by decide +kernel
theorem dX4_change_86 : decode cX4_change 86 = .ok (.getfield 11, 3) := by decide +kernel
theorem dX4_change_89 : decode cX4_change 89 = .ok (.iload_n 1, 1) := by decide +kernel
theorem dX4_change_90 : decode cX4_change 90 = .ok (.iload_n 2, 1) := by decide +kernel
theorem dX4_change_91 : decode cX4_change 91 = .ok (.iastore, 1) := by decide +kernel
theorem dX4_change_92 : decode cX4_change 92 = .ok (.iload_n 3, 1) := by decide +kernel
theorem dX4_change_93 : decode cX4_change 93 = .ok (.ireturn, 1) := by decide +kernel
theorem dX4_dropOldest_0 : decode cX4_dropOldest 0 = .ok (.iconst 1, 1) := by decide +kernel
theorem dX4_dropOldest_1 : decode cX4_dropOldest 1 = .ok (.istore_n 1, 1) := by decide +kernel
theorem dX4_dropOldest_2 : decode cX4_dropOldest 2 = .ok (.iload_n 1, 1) := by decide +kernel
theorem dX4_dropOldest_3 : decode cX4_dropOldest 3 = .ok (.bipush 40, 2) := by decide +kernel
theorem dX4_dropOldest_5 : decode cX4_dropOldest 5 = .ok (.if_icmp .ge 51, 3) := by decide +kernel
theorem dX4_dropOldest_8 : decode cX4_dropOldest 8 = .ok (.aload_n 0, 1) := by decide +kernel
theorem dX4_dropOldest_9 : decode cX4_dropOldest 9 = .ok (.getfield 21, 3) := by decide +kernel
theorem dX4_dropOldest_12 : decode cX4_dropOldest 12 = .ok (.iload_n 1, 1) := by decide +kernel
theorem dX4_dropOldest_13 : decode cX4_dropOldest 13 = .ok (.iconst 1, 1) := by decide +kernel
theorem dX4_dropOldest_14 : decode cX4_dropOldest 14 = .ok (.isub, 1) := by decide +kernel
theorem dX4_dropOldest_15 : decode cX4_dropOldest 15 = .ok (.aload_n 0, 1) := by decide +kernel
theorem dX4_dropOldest_16 : decode cX4_dropOldest 16 = .ok (.getfield 21, 3) := by decide +kernel
theorem dX4_dropOldest_19 : decode cX4_dropOldest 19 = .ok (.iload_n 1, 1) := by decide +kernel
theorem dX4_dropOldest_20 : decode cX4_dropOldest 20 = .ok (.iaload, 1) := by decide +kernel
theorem dX4_dropOldest_21 : decode cX4_dropOldest 21 = .ok (.iastore, 1) := by decide +kernel
theorem dX4_dropOldest_22 : decode cX4_dropOldest 22 = .ok (.aload_n 0, 1) := by decide +kernel
theorem dX4_dropOldest_23 : decode cX4_dropOldest 23 = .ok (.getfield 24, 3) := by decide +kernel
theorem dX4_dropOldest_26 : decode cX4_dropOldest 26 = .ok (.iload_n 1, 1) := by decide +kernel
theorem dX4_dropOldest_27 : decode cX4_dropOldest 27 = .ok (.iconst 1, 1) := by decide +kernel
theorem dX4_dropOldest_28 : decode cX4_dropOldest 28 = .ok (.isub, 1) := by decide +kernel
theorem dX4_dropOldest_29 : decode cX4_dropOldest 29 = .ok (.aload_n 0, 1) := by decide +kernel
theorem dX4_dropOldest_30 : decode cX4_dropOldest 30 = .ok (.getfield 24, 3) := by decide +kernel
theorem dX4_dropOldest_33 : decode cX4_dropOldest 33 = .ok (.iload_n 1, 1) := by decide +kernel
theorem dX4_dropOldest_34 : decode cX4_dropOldest 34 = .ok (.iaload, 1) := by decide +kernel
theorem dX4_dropOldest_35 : decode cX4_dropOldest 35 = .ok (.iastore, 1) := by decide +kernel
theorem dX4_dropOldest_36 : decode cX4_dropOldest 36 = .ok (.aload_n 0, 1) := by decide +kernel
theorem dX4_dropOldest_37 : decode cX4_dropOldest 37 = .ok (.getfield 27, 3) := by decide +kernel
theorem dX4_dropOldest_40 : decode cX4_dropOldest 40 = .ok (.iload_n 1, 1) := by decide +kernel
theorem dX4_dropOldest_41 : decode cX4_dropOldest 41 = .ok (.iconst 1, 1) := by decide +kernel
theorem dX4_dropOldest_42 : decode cX4_dropOldest 42 = .ok (.isub, 1) := by decide +kernel
theorem dX4_dropOldest_43 : decode cX4_dropOldest 43 = .ok (.aload_n 0, 1) := by decide +kernel
theorem dX4_dropOldest_44 : decode cX4_dropOldest 44 = .ok (.getfield 27, 3) := by decide +kernel
theorem dX4_dropOldest_47 : decode cX4_dropOldest 47 = .ok (.iload_n 1, 1) := by decide +kernel
theorem dX4_dropOldest_48 : decode cX4_dropOldest 48 = .ok (.iaload, 1) := by decide +kernel
theorem dX4_dropOldest_49 : decode cX4_dropOldest 49 = .ok (.iastore, 1) := by decide +kernel
theorem dX4_dropOldest_50 : decode cX4_dropOldest 50 = .ok (.iinc 1 1, 3) := by decide +kernel
theorem dX4_dropOldest_53 : decode cX4_dropOldest 53 = .ok (.goto (-51), 3) := by decide +kernel
theorem dX4_dropOldest_56 : decode cX4_dropOldest 56 = .ok (.aload_n 0, 1) := by decide +kernel
theorem dX4_dropOldest_57 : decode cX4_dropOldest 57 = .ok (.bipush 39, 2) := by decide +kernel
theorem dX4_dropOldest_59 : decode cX4_dropOldest 59 = .ok (.putfield 54, 3) := by decide +kernel
theorem dX4_dropOldest_62 : decode cX4_dropOldest 62 = .ok (.return_, 1) := by decide +kernel
theorem dX4_stepBack_0 : decode cX4_stepBack 0 = .ok (.aload_n 0, 1) := by decide +kernel
theorem dX4_stepBack_1 : decode cX4_stepBack 1 = .ok (.getfield 54, 3) := by decide +kernel
theorem dX4_stepBack_4 : decode cX4_stepBack 4 = .ok (.ifCond .le 12, 3) := by decide +kernel
theorem dX4_stepBack_7 : decode cX4_stepBack 7 = .ok (.aload_n 0, 1) := by decide +kernel
theorem dX4_stepBack_8 : decode cX4_stepBack 8 = .ok (.getfield 54, 3) := by decide +kernel
theorem dX4_stepBack_11 : decode cX4_stepBack 11 = .ok (.bipush 40, 2) := by decide +kernel
theorem dX4_stepBack_13 : decode cX4_stepBack 13 = .ok (.if_icmp .le 6, 3) := by decide +kernel
theorem dX4_stepBack_16 : decode cX4_stepBack 16 = .ok (.bipush (-5), 2) := by decide +kernel
theorem dX4_stepBack_18 : decode cX4_stepBack 18 = .ok (.ireturn, 1) := by decide +kernel
theorem dX4_stepBack_19 : decode cX4_stepBack 19 = .ok (.aload_n 0, 1) := by decide +kernel
theorem dX4_stepBack_20 : decode cX4_stepBack 20 = .ok (.dup, 1) := by decide +kernel
theorem dX4_stepBack_21 : decode cX4_stepBack 21 = .ok (.getfield 54, 3) := by decide +kernel
theorem dX4_stepBack_24 : decode cX4_stepBack 24 = .ok (.iconst 1, 1) := by decide +kernel
theorem dX4_stepBack_25 : decode cX4_stepBack 25 = .ok (.isub, 1) := by decide +kernel
theorem dX4_stepBack_26 : decode cX4_stepBack 26 = .ok (.putfield 54, 3) := by decide +kernel
theorem dX4_stepBack_29 : decode cX4_stepBack 29 = .ok (.aload_n 0, 1) := by decide +kernel
theorem dX4_stepBack_30 : decode cX4_stepBack 30 = .ok (.dup, 1) := by decide +kernel
theorem dX4_stepBack_31 : decode cX4_stepBack 31 = .ok (.getfield 60, 3) := by decide +kernel
theorem dX4_stepBack_34 : decode cX4_stepBack 34 = .ok (.iconst 1, 1) := by decide +kernel
theorem dX4_stepBack_35 : decode cX4_stepBack 35 = .ok (.iadd, 1) := by decide +kernel
theorem dX4_stepBack_36 : decode cX4_stepBack 36 = .ok (.putfield 60, 3) := by decide +kernel
theorem dX4_stepBack_39 : decode cX4_stepBack 39 = .ok (.aload_n 0, 1) := by decide +kernel
theorem dX4_stepBack_40 : decode cX4_stepBack 40 = .ok (.getfield 11, 3) := by decide +kernel
theorem dX4_stepBack_43 : decode cX4_stepBack 43 = .ok (.aload_n 0, 1) := by decide +kernel
theorem dX4_stepBack_44 : decode cX4_stepBack 44 = .ok (.getfield 21, 3) := by decide +kernel
theorem dX4_stepBack_47 : decode cX4_stepBack 47 = .ok (.aload_n 0, 1) := by decide +kernel
theorem dX4_stepBack_48 : decode cX4_stepBack 48 = .ok (.getfield 54, 3) := by decide +kernel
theorem dX4_stepBack_51 : decode cX4_stepBack 51 = .ok (.iaload, 1) := by decide +kernel
theorem dX4_stepBack_52 : decode cX4_stepBack 52 = .ok (.aload_n 0, 1) := by decide +kernel
theorem dX4_stepBack_53 : decode cX4_stepBack 53 = .ok (.getfield 24, 3) := by decide +kernel
theorem dX4_stepBack_56 : decode cX4_stepBack 56 = .ok (.aload_n 0, 1) := by decide +kernel
theorem dX4_stepBack_57 : decode cX4_stepBack 57 = .ok (.getfield 54, 3) := by decide +kernel
theorem dX4_stepBack_60 : decode cX4_stepBack 60 = .ok (.iaload, 1) := by decide +kernel
theorem dX4_stepBack_61 : decode cX4_stepBack 61 = .ok (.iastore, 1) := by decide +kernel
theorem dX4_stepBack_62 : decode cX4_stepBack 62 = .ok (.aload_n 0, 1) := by decide +kernel
theorem dX4_stepBack_63 : decode cX4_stepBack 63 = .ok (.getfield 54, 3) := by decide +kernel
theorem dX4_stepBack_66 : decode cX4_stepBack 66 = .ok (.ireturn, 1) := by decide +kernel
theorem dX4_stepAgain_0 : decode cX4_stepAgain 0 = .ok (.aload_n 0, 1) := by decide +kernel
theorem dX4_stepAgain_1 : decode cX4_stepAgain 1 = .ok (.getfield 60, 3) := by decide +kernel
theorem dX4_stepAgain_4 : decode cX4_stepAgain 4 = .ok (.ifCond .le 12, 3) := by decide +kernel
theorem dX4_stepAgain_7 : decode cX4_stepAgain 7 = .ok (.aload_n 0, 1) := by decide +kernel
theorem dX4_stepAgain_8 : decode cX4_stepAgain 8 = .ok (.getfield 54, 3) := by decide +kernel
theorem dX4_stepAgain_11 : decode cX4_stepAgain 11 = .ok (.bipush 40, 2) := by decide +kernel
theorem dX4_stepAgain_13 : decode cX4_stepAgain 13 = .ok (.if_icmp .lt 6, 3) := by decide +kernel
theorem dX4_stepAgain_16 : decode cX4_stepAgain 16 = .ok (.bipush (-5), 2) := by decide +kernel
theorem dX4_stepAgain_18 : decode cX4_stepAgain 18 = .ok (.ireturn, 1) := by decide +kernel
theorem dX4_stepAgain_19 : decode cX4_stepAgain 19 = .ok (.aload_n 0, 1) := by decide +kernel
theorem dX4_stepAgain_20 : decode cX4_stepAgain 20 = .ok (.getfield 11, 3) := by decide +kernel
theorem dX4_stepAgain_23 : decode cX4_stepAgain 23 = .ok (.aload_n 0, 1) := by decide +kernel
theorem dX4_stepAgain_24 : decode cX4_stepAgain 24 = .ok (.getfield 21, 3) := by decide +kernel
theorem dX4_stepAgain_27 : decode cX4_stepAgain 27 = .ok (.aload_n 0, 1) := by decide +kernel
theorem dX4_stepAgain_28 : decode cX4_stepAgain 28 = .ok (.getfield 54, 3) := by decide +kernel
theorem dX4_stepAgain_31 : decode cX4_stepAgain 31 = .ok (.iaload, 1) := by decide +kernel
theorem dX4_stepAgain_32 : decode cX4_stepAgain 32 = .ok (.aload_n 0, 1) := by decide +kernel
theorem dX4_stepAgain_33 : decode cX4_stepAgain 33 = .ok (.getfield 27, 3) := by decide +kernel
theorem dX4_stepAgain_36 : decode cX4_stepAgain 36 = .ok (.aload_n 0, 1) := by decide +kernel
theorem dX4_stepAgain_37 : decode cX4_stepAgain 37 = .ok (.getfield 54, 3) := by decide +kernel
theorem dX4_stepAgain_40 : decode cX4_stepAgain 40 = .ok (.iaload, 1) := by decide +kernel
theorem dX4_stepAgain_41 : decode cX4_stepAgain 41 = .ok (.iastore, 1) := by decide +kernel
theorem dX4_stepAgain_42 : decode cX4_stepAgain 42 = .ok (.aload_n 0, 1) := by decide +kernel
theorem dX4_stepAgain_43 : decode cX4_stepAgain 43 = .ok (.dup, 1) := by decide +kernel
theorem dX4_stepAgain_44 : decode cX4_stepAgain 44 = .ok (.getfield 54, 3) := by decide +kernel
theorem dX4_stepAgain_47 : decode cX4_stepAgain 47 = .ok (.iconst 1, 1) := by decide +kernel
theorem dX4_stepAgain_48 : decode cX4_stepAgain 48 = .ok (.iadd, 1) := by decide +kernel
theorem dX4_stepAgain_49 : decode cX4_stepAgain 49 = .ok (.putfield 54, 3) := by decide +kernel
theorem dX4_stepAgain_52 : decode cX4_stepAgain 52 = .ok (.aload_n 0, 1) := by decide +kernel
theorem dX4_stepAgain_53 : decode cX4_stepAgain 53 = .ok (.dup, 1) := by decide +kernel
theorem dX4_stepAgain_54 : decode cX4_stepAgain 54 = .ok (.getfield 60, 3) := by decide +kernel
theorem dX4_stepAgain_57 : decode cX4_stepAgain 57 = .ok (.iconst 1, 1) := by decide +kernel
theorem dX4_stepAgain_58 : decode cX4_stepAgain 58 = .ok (.isub, 1) := by decide +kernel
theorem dX4_stepAgain_59 : decode cX4_stepAgain 59 = .ok (.putfield 60, 3) := by decide +kernel
theorem dX4_stepAgain_62 : decode cX4_stepAgain 62 = .ok (.aload_n 0, 1) := by decide +kernel
theorem dX4_stepAgain_63 : decode cX4_stepAgain 63 = .ok (.getfield 60, 3) := by decide +kernel
theorem dX4_stepAgain_66 : decode cX4_stepAgain 66 = .ok (.ireturn, 1) := by decide +kernel
theorem dX5_init_0 : decode cX5_init 0 = .ok (.aload_n 0, 1) := by decide +kernel
theorem dX5_init_1 : decode cX5_init 1 = .ok (.invokespecial 5, 3) := by decide +kernel
theorem dX5_init_4 : decode cX5_init 4 = .ok (.aload_n 0, 1) := by decide +kernel
theorem dX5_init_5 : decode cX5_init 5 = .ok (.bipush 64, 2) := by decide +kernel
theorem dX5_init_7 : decode cX5_init 7 = .ok (.newarray .int, 2) := by decide +kernel
theorem dX5_init_9 : decode cX5_init 9 = .ok (.putfield 11, 3) := by decide +kernel
theorem dX5_init_12 : decode cX5_init 12 = .ok (.aload_n 0, 1) := by decide +kernel
theorem dX5_init_13 : decode cX5_init 13 = .ok (.bipush 64, 2) := by decide +kernel
theorem dX5_init_15 : decode cX5_init 15 = .ok (.newarray .int, 2) := by decide +kernel
theorem dX5_init_17 : decode cX5_init 17 = .ok (.putfield 15, 3) := by decide +kernel
theorem dX5_init_20 : decode cX5_init 20 = .ok (.aload_n 0, 1) := by decide +kernel
theorem dX5_init_21 : decode cX5_init 21 = .ok (.sipush 4096, 3) := by decide +kernel
theorem dX5_init_24 : decode cX5_init 24 = .ok (.newarray .int, 2) := by decide +kernel
theorem dX5_init_26 : decode cX5_init 26 = .ok (.putfield 18, 3) := by decide +kernel
theorem dX5_init_29 : decode cX5_init 29 = .ok (.aload_n 0, 1) := by decide +kernel
theorem dX5_init_30 : decode cX5_init 30 = .ok (.sipush 4096, 3) := by decide +kernel
theorem dX5_init_33 : decode cX5_init 33 = .ok (.newarray .int, 2) := by decide +kernel
theorem dX5_init_35 : decode cX5_init 35 = .ok (.putfield 21, 3) := by decide +kernel
theorem dX5_init_38 : decode cX5_init 38 = .ok (.aload_n 0, 1) := by decide +kernel
theorem dX5_init_39 : decode cX5_init 39 = .ok (.iconst 1, 1) := by decide +kernel
theorem dX5_init_40 : decode cX5_init 40 = .ok (.putfield 24, 3) := by decide +kernel
theorem dX5_init_43 : decode cX5_init 43 = .ok (.aload_n 0, 1) := by decide +kernel
theorem dX5_init_44 : decode cX5_init 44 = .ok (.aload_n 1, 1) := by decide +kernel
theorem dX5_init_45 : decode cX5_init 45 = .ok (.putfield 28, 3) := by decide +kernel
theorem dX5_init_48 : decode cX5_init 48 = .ok (.aload_n 0, 1) := by decide +kernel
theorem dX5_init_49 : decode cX5_init 49 = .ok (.aload_n 2, 1) := by decide +kernel
theorem dX5_init_50 : decode cX5_init 50 = .ok (.putfield 32, 3) := by decide +kernel
theorem dX5_init_53 : decode cX5_init 53 = .ok (.return_, 1) := by decide +kernel
theorem dX5_lay_0 : decode cX5_lay 0 = .ok (.iconst 0, 1) := by decide +kernel
theorem dX5_lay_1 : decode cX5_lay 1 = .ok (.istore_n 2, 1) := by decide +kernel
theorem dX5_lay_2 : decode cX5_lay 2 = .ok (.iload_n 2, 1) := by decide +kernel
theorem dX5_lay_3 : decode cX5_lay 3 = .ok (.iconst 4, 1) := by decide +kernel
theorem dX5_lay_4 : decode cX5_lay 4 = .ok (.if_icmp .ge 116, 3) := by decide +kernel
theorem dX5_lay_7 : decode cX5_lay 7 = .ok (.iconst 0, 1) := by decide +kernel
theorem dX5_lay_8 : decode cX5_lay 8 = .ok (.istore_n 3, 1) := by decide +kernel
theorem dX5_lay_9 : decode cX5_lay 9 = .ok (.iload_n 3, 1) := by decide +kernel
theorem dX5_lay_10 : decode cX5_lay 10 = .ok (.iconst 4, 1) := by decide +kernel
theorem dX5_lay_11 : decode cX5_lay 11 = .ok (.if_icmp .ge 103, 3) := by decide +kernel
theorem dX5_lay_14 : decode cX5_lay 14 = .ok (.aload_n 0, 1) := by decide +kernel
theorem dX5_lay_15 : decode cX5_lay 15 = .ok (.getfield 28, 3) := by decide +kernel
theorem dX5_lay_18 : decode cX5_lay 18 = .ok (.iload_n 1, 1) := by decide +kernel
theorem dX5_lay_19 : decode cX5_lay 19 = .ok (.iload_n 2, 1) := by decide +kernel
theorem dX5_lay_20 : decode cX5_lay 20 = .ok (.iload_n 3, 1) := by decide +kernel
theorem dX5_lay_21 : decode cX5_lay 21 = .ok (.invokevirtual 36, 3) := by decide +kernel
theorem dX5_lay_24 : decode cX5_lay 24 = .ok (.istore 4, 2) := by decide +kernel
theorem dX5_lay_26 : decode cX5_lay 26 = .ok (.aload_n 0, 1) := by decide +kernel
theorem dX5_lay_27 : decode cX5_lay 27 = .ok (.getfield 28, 3) := by decide +kernel
theorem dX5_lay_30 : decode cX5_lay 30 = .ok (.iload_n 1, 1) := by decide +kernel
theorem dX5_lay_31 : decode cX5_lay 31 = .ok (.iload_n 2, 1) := by decide +kernel
theorem dX5_lay_32 : decode cX5_lay 32 = .ok (.iload_n 3, 1) := by decide +kernel
theorem dX5_lay_33 : decode cX5_lay 33 = .ok (.invokevirtual 42, 3) := by decide +kernel
theorem dX5_lay_36 : decode cX5_lay 36 = .ok (.istore 5, 2) := by decide +kernel
theorem dX5_lay_38 : decode cX5_lay 38 = .ok (.iconst 0, 1) := by decide +kernel
theorem dX5_lay_39 : decode cX5_lay 39 = .ok (.istore 6, 2) := by decide +kernel
theorem dX5_lay_41 : decode cX5_lay 41 = .ok (.iload 6, 2) := by decide +kernel
theorem dX5_lay_43 : decode cX5_lay 43 = .ok (.iconst 4, 1) := by decide +kernel
theorem dX5_lay_44 : decode cX5_lay 44 = .ok (.if_icmp .ge 64, 3) := by decide +kernel
theorem dX5_lay_47 : decode cX5_lay 47 = .ok (.aload_n 0, 1) := by decide +kernel
theorem dX5_lay_48 : decode cX5_lay 48 = .ok (.getfield 11, 3) := by decide +kernel
theorem dX5_lay_51 : decode cX5_lay 51 = .ok (.iload_n 2, 1) := by decide +kernel
theorem dX5_lay_52 : decode cX5_lay 52 = .ok (.iconst 4, 1) := by decide +kernel
theorem dX5_lay_53 : decode cX5_lay 53 = .ok (.imul, 1) := by decide +kernel
theorem dX5_lay_54 : decode cX5_lay 54 = .ok (.iload_n 3, 1) := by decide +kernel
theorem dX5_lay_55 : decode cX5_lay 55 = .ok (.iadd, 1) := by decide +kernel
theorem dX5_lay_56 : decode cX5_lay 56 = .ok (.iconst 4, 1) := by decide +kernel
theorem dX5_lay_57 : decode cX5_lay 57 = .ok (.imul, 1) := by decide +kernel
theorem dX5_lay_58 : decode cX5_lay 58 = .ok (.iload 6, 2) := by decide +kernel
theorem dX5_lay_60 : decode cX5_lay 60 = .ok (.iadd, 1) := by decide +kernel
theorem dX5_lay_61 : decode cX5_lay 61 = .ok (.iload 4, 2) := by decide +kernel
theorem dX5_lay_63 : decode cX5_lay 63 = .ok (.aload_n 0, 1) := by decide +kernel
theorem dX5_lay_64 : decode cX5_lay 64 = .ok (.getfield 28, 3) := by decide +kernel
theorem dX5_lay_67 : decode cX5_lay 67 = .ok (.iload_n 2, 1) := by decide +kernel
theorem dX5_lay_68 : decode cX5_lay 68 = .ok (.iload 6, 2) := by decide +kernel
theorem dX5_lay_70 : decode cX5_lay 70 = .ok (.invokevirtual 45, 3) := by decide +kernel
theorem dX5_lay_73 : decode cX5_lay 73 = .ok (.imul, 1) := by decide +kernel
theorem dX5_lay_74 : decode cX5_lay 74 = .ok (.bipush 100, 2) := by decide +kernel
theorem dX5_lay_76 : decode cX5_lay 76 = .ok (.idiv, 1) := by decide +kernel
theorem dX5_lay_77 : decode cX5_lay 77 = .ok (.iastore, 1) := by decide +kernel
theorem dX5_lay_78 : decode cX5_lay 78 = .ok (.aload_n 0, 1) := by decide +kernel
theorem dX5_lay_79 : decode cX5_lay 79 = .ok (.getfield 15, 3) := by decide +kernel
theorem dX5_lay_82 : decode cX5_lay 82 = .ok (.iload_n 2, 1) := by decide +kernel
theorem dX5_lay_83 : decode cX5_lay 83 = .ok (.iconst 4, 1) := by decide +kernel
theorem dX5_lay_84 : decode cX5_lay 84 = .ok (.imul, 1) := by decide +kernel
theorem dX5_lay_85 : decode cX5_lay 85 = .ok (.iload_n 3, 1) := by decide +kernel
theorem dX5_lay_86 : decode cX5_lay 86 = .ok (.iadd, 1) := by decide +kernel
theorem dX5_lay_87 : decode cX5_lay 87 = .ok (.iconst 4, 1) := by decide +kernel
theorem dX5_lay_88 : decode cX5_lay 88 = .ok (.imul, 1) := by decide +kernel
theorem dX5_lay_89 : decode cX5_lay 89 = .ok (.iload 6, 2) := by decide +kernel
theorem dX5_lay_91 : decode cX5_lay 91 = .ok (.iadd, 1) := by decide +kernel
theorem dX5_lay_92 : decode cX5_lay 92 = .ok (.iconst 0, 1) := by decide +kernel
theorem dX5_lay_93 : decode cX5_lay 93 = .ok (.iload 5, 2) := by decide +kernel
theorem dX5_lay_95 : decode cX5_lay 95 = .ok (.iload 6, 2) := by decide +kernel
theorem dX5_lay_97 : decode cX5_lay 97 = .ok (.iadd, 1) := by decide +kernel
theorem dX5_lay_98 : decode cX5_lay 98 = .ok (.invokestatic 49, 3) := by decide +kernel
theorem dX5_lay_101 : decode cX5_lay 101 = .ok (.iastore, 1) := by decide +kernel
theorem dX5_lay_102 : decode cX5_lay 102 = .ok (.iinc 6 1, 3) := by decide +kernel
theorem dX5_lay_105 : decode cX5_lay 105 = .ok (.goto (-64), 3) := by decide +kernel
theorem dX5_lay_108 : decode cX5_lay 108 = .ok (.iinc 3 1, 3) := by decide +kernel
theorem dX5_lay_111 : decode cX5_lay 111 = .ok (.goto (-102), 3) := by decide +kernel
theorem dX5_lay_114 : decode cX5_lay 114 = .ok (.iinc 2 1, 3) := by decide +kernel
theorem dX5_lay_117 : decode cX5_lay 117 = .ok (.goto (-115), 3) := by decide +kernel
theorem dX5_lay_120 : decode cX5_lay 120 = .ok (.return_, 1) := by decide +kernel
theorem dX5_forget_0 : decode cX5_forget 0 = .ok (.aload_n 0, 1) := by decide +kernel
theorem dX5_forget_1 : decode cX5_forget 1 = .ok (.dup, 1) := by decide +kernel
theorem dX5_forget_2 : decode cX5_forget 2 = .ok (.getfield 24, 3) := by decide +kernel
theorem dX5_forget_5 : decode cX5_forget 5 = .ok (.iconst 1, 1) := by decide +kernel
theorem dX5_forget_6 : decode cX5_forget 6 = .ok (.iadd, 1) := by decide +kernel
theorem dX5_forget_7 : decode cX5_forget 7 = .ok (.putfield 24, 3) := by decide +kernel
theorem dX5_forget_10 : decode cX5_forget 10 = .ok (.aload_n 0, 1) := by decide +kernel
theorem dX5_forget_11 : decode cX5_forget 11 = .ok (.iconst 0, 1) := by decide +kernel
theorem dX5_forget_12 : decode cX5_forget 12 = .ok (.putfield 54, 3) := by decide +kernel
theorem dX5_forget_15 : decode cX5_forget 15 = .ok (.iconst 0, 1) := by decide +kernel
theorem dX5_forget_16 : decode cX5_forget 16 = .ok (.istore_n 1, 1) := by decide +kernel
theorem dX5_forget_17 : decode cX5_forget 17 = .ok (.iload_n 1, 1) := by decide +kernel
theorem dX5_forget_18 : decode cX5_forget 18 = .ok (.getstatic 57, 3) := by decide +kernel
theorem dX5_forget_21 : decode cX5_forget 21 = .ok (.arraylength, 1) := by decide +kernel
theorem dX5_forget_22 : decode cX5_forget 22 = .ok (.if_icmp .ge 34, 3) := by decide +kernel
theorem dX5_forget_25 : decode cX5_forget 25 = .ok (.aload_n 0, 1) := by decide +kernel
theorem dX5_forget_26 : decode cX5_forget 26 = .ok (.getfield 32, 3) := by decide +kernel
theorem dX5_forget_29 : decode cX5_forget 29 = .ok (.iload_n 1, 1) := by decide +kernel
theorem dX5_forget_30 : decode cX5_forget 30 = .ok (.invokevirtual 60, 3) := by decide +kernel
theorem dX5_forget_33 : decode cX5_forget 33 = .ok (.ifCond .eq 17, 3) := by decide +kernel
theorem dX5_forget_36 : decode cX5_forget 36 = .ok (.aload_n 0, 1) := by decide +kernel
theorem dX5_forget_37 : decode cX5_forget 37 = .ok (.dup, 1) := by decide +kernel
theorem dX5_forget_38 : decode cX5_forget 38 = .ok (.getfield 54, 3) := by decide +kernel
theorem dX5_forget_41 : decode cX5_forget 41 = .ok (.getstatic 57, 3) := by decide +kernel
theorem dX5_forget_44 : decode cX5_forget 44 = .ok (.iload_n 1, 1) := by decide +kernel
theorem dX5_forget_45 : decode cX5_forget 45 = .ok (.iaload, 1) := by decide +kernel
theorem dX5_forget_46 : decode cX5_forget 46 = .ok (.ior, 1) := by decide +kernel
theorem dX5_forget_47 : decode cX5_forget 47 = .ok (.putfield 54, 3) := by decide +kernel
theorem dX5_forget_50 : decode cX5_forget 50 = .ok (.iinc 1 1, 3) := by decide +kernel
theorem dX5_forget_53 : decode cX5_forget 53 = .ok (.goto (-36), 3) := by decide +kernel
theorem dX5_forget_56 : decode cX5_forget 56 = .ok (.return_, 1) := by decide +kernel
theorem dX5_runsOf_0 : decode cX5_runsOf 0 = .ok (.iload_n 1, 1) := by decide +kernel
theorem dX5_runsOf_1 : decode cX5_runsOf 1 = .ok (.iconst 4, 1) := by decide +kernel
theorem dX5_runsOf_2 : decode cX5_runsOf 2 = .ok (.imul, 1) := by decide +kernel
theorem dX5_runsOf_3 : decode cX5_runsOf 3 = .ok (.iload_n 2, 1) := by decide +kernel
theorem dX5_runsOf_4 : decode cX5_runsOf 4 = .ok (.iadd, 1) := by decide +kernel
theorem dX5_runsOf_5 : decode cX5_runsOf 5 = .ok (.iconst 4, 1) := by decide +kernel
theorem dX5_runsOf_6 : decode cX5_runsOf 6 = .ok (.imul, 1) := by decide +kernel
theorem dX5_runsOf_7 : decode cX5_runsOf 7 = .ok (.iload_n 3, 1) := by decide +kernel
theorem dX5_runsOf_8 : decode cX5_runsOf 8 = .ok (.iadd, 1) := by decide +kernel
theorem dX5_runsOf_9 : decode cX5_runsOf 9 = .ok (.istore 4, 2) := by decide +kernel
theorem dX5_runsOf_11 : decode cX5_runsOf 11 = .ok (.iload 4, 2) := by decide +kernel
theorem dX5_runsOf_13 : decode cX5_runsOf 13 = .ok (.ifCond .lt 10, 3) := by decide +kernel
theorem dX5_runsOf_16 : decode cX5_runsOf 16 = .ok (.iload 4, 2) := by decide +kernel
theorem dX5_runsOf_18 : decode cX5_runsOf 18 = .ok (.bipush 64, 2) := by decide +kernel
theorem dX5_runsOf_20 : decode cX5_runsOf 20 = .ok (.if_icmp .lt 7, 3) := by decide +kernel
theorem dX5_runsOf_23 : decode cX5_runsOf 23 = .ok (.iconst 0, 1) := by decide +kernel
theorem dX5_runsOf_24 : decode cX5_runsOf 24 = .ok (.goto 10, 3) := by decide +kernel
theorem dX5_runsOf_27 : decode cX5_runsOf 27 = .ok (.aload_n 0, 1) := by decide +kernel
theorem dX5_runsOf_28 : decode cX5_runsOf 28 = .ok (.getfield 15, 3) := by decide +kernel
theorem dX5_runsOf_31 : decode cX5_runsOf 31 = .ok (.iload 4, 2) := by decide +kernel
theorem dX5_runsOf_33 : decode cX5_runsOf 33 = .ok (.iaload, 1) := by decide +kernel
theorem dX5_runsOf_34 : decode cX5_runsOf 34 = .ok (.ireturn, 1) := by decide +kernel
theorem dX5_outOf_0 : decode cX5_outOf 0 = .ok (.iload_n 1, 1) := by decide +kernel
theorem dX5_outOf_1 : decode cX5_outOf 1 = .ok (.iconst 4, 1) := by decide +kernel
theorem dX5_outOf_2 : decode cX5_outOf 2 = .ok (.imul, 1) := by decide +kernel
theorem dX5_outOf_3 : decode cX5_outOf 3 = .ok (.iload_n 2, 1) := by decide +kernel
theorem dX5_outOf_4 : decode cX5_outOf 4 = .ok (.iadd, 1) := by decide +kernel
theorem dX5_outOf_5 : decode cX5_outOf 5 = .ok (.iconst 4, 1) := by decide +kernel
theorem dX5_outOf_6 : decode cX5_outOf 6 = .ok (.imul, 1) := by decide +kernel
theorem dX5_outOf_7 : decode cX5_outOf 7 = .ok (.iload_n 3, 1) := by decide +kernel
theorem dX5_outOf_8 : decode cX5_outOf 8 = .ok (.iadd, 1) := by decide +kernel
theorem dX5_outOf_9 : decode cX5_outOf 9 = .ok (.istore 7, 2) := by decide +kernel
theorem dX5_outOf_11 : decode cX5_outOf 11 = .ok (.iload 7, 2) := by decide +kernel
theorem dX5_outOf_13 : decode cX5_outOf 13 = .ok (.ifCond .lt 10, 3) := by decide +kernel
theorem dX5_outOf_16 : decode cX5_outOf 16 = .ok (.iload 7, 2) := by decide +kernel
theorem dX5_outOf_18 : decode cX5_outOf 18 = .ok (.bipush 64, 2) := by decide +kernel
theorem dX5_outOf_20 : decode cX5_outOf 20 = .ok (.if_icmp .lt 5, 3) := by decide +kernel
theorem dX5_outOf_23 : decode cX5_outOf 23 = .ok (.iconst 0, 1) := by decide +kernel
theorem dX5_outOf_24 : decode cX5_outOf 24 = .ok (.ireturn, 1) := by decide +kernel
theorem dX5_outOf_25 : decode cX5_outOf 25 = .ok (.aload_n 0, 1) := by decide +kernel
theorem dX5_outOf_26 : decode cX5_outOf 26 = .ok (.getfield 11, 3) := by decide +kernel
theorem dX5_outOf_29 : decode cX5_outOf 29 = .ok (.iload 7, 2) := by decide +kernel
theorem dX5_outOf_31 : decode cX5_outOf 31 = .ok (.iaload, 1) := by decide +kernel
theorem dX5_outOf_32 : decode cX5_outOf 32 = .ok (.istore 8, 2) := by decide +kernel
theorem dX5_outOf_34 : decode cX5_outOf 34 = .ok (.aload_n 0, 1) := by decide +kernel
theorem dX5_outOf_35 : decode cX5_outOf 35 = .ok (.getfield 32, 3) := by decide +kernel
theorem dX5_outOf_38 : decode cX5_outOf 38 = .ok (.getfield 66, 3) := by decide +kernel
theorem dX5_outOf_41 : decode cX5_outOf 41 = .ok (.ifCond .le 119, 3) := by decide +kernel
theorem dX5_outOf_44 : decode cX5_outOf 44 = .ok (.aload_n 0, 1) := by decide +kernel
theorem dX5_outOf_45 : decode cX5_outOf 45 = .ok (.getfield 24, 3) := by decide +kernel
theorem dX5_outOf_48 : decode cX5_outOf 48 = .ok (.bipush 19, 2) := by decide +kernel
theorem dX5_outOf_50 : decode cX5_outOf 50 = .ok (.ishl, 1) := by decide +kernel
theorem dX5_outOf_51 : decode cX5_outOf 51 = .ok (.iload 4, 2) := by decide +kernel
theorem dX5_outOf_53 : decode cX5_outOf 53 = .ok (.bipush 31, 2) := by decide +kernel
theorem dX5_outOf_55 : decode cX5_outOf 55 = .ok (.iand, 1) := by decide +kernel
theorem dX5_outOf_56 : decode cX5_outOf 56 = .ok (.bipush 14, 2) := by decide +kernel
theorem dX5_outOf_58 : decode cX5_outOf 58 = .ok (.ishl, 1) := by decide +kernel
theorem dX5_outOf_59 : decode cX5_outOf 59 = .ok (.iload 7, 2) := by decide +kernel
theorem dX5_outOf_61 : decode cX5_outOf 61 = .ok (.bipush 8, 2) := by decide +kernel
theorem dX5_outOf_63 : decode cX5_outOf 63 = .ok (.ishl, 1) := by decide +kernel
theorem dX5_outOf_64 : decode cX5_outOf 64 = .ok (.ior, 1) := by decide +kernel
theorem dX5_outOf_65 : decode cX5_outOf 65 = .ok (.iload 5, 2) := by decide +kernel
theorem dX5_outOf_67 : decode cX5_outOf 67 = .ok (.bipush 15, 2) := by decide +kernel
theorem dX5_outOf_69 : decode cX5_outOf 69 = .ok (.iand, 1) := by decide +kernel
theorem dX5_outOf_70 : decode cX5_outOf 70 = .ok (.iconst 4, 1) := by decide +kernel
theorem dX5_outOf_71 : decode cX5_outOf 71 = .ok (.ishl, 1) := by decide +kernel
theorem dX5_outOf_72 : decode cX5_outOf 72 = .ok (.ior, 1) := by decide +kernel
theorem dX5_outOf_73 : decode cX5_outOf 73 = .ok (.iload 6, 2) := by decide +kernel
theorem dX5_outOf_75 : decode cX5_outOf 75 = .ok (.bipush 15, 2) := by decide +kernel
theorem dX5_outOf_77 : decode cX5_outOf 77 = .ok (.iand, 1) := by decide +kernel
theorem dX5_outOf_78 : decode cX5_outOf 78 = .ok (.ior, 1) := by decide +kernel
theorem dX5_outOf_79 : decode cX5_outOf 79 = .ok (.aload_n 0, 1) := by decide +kernel
theorem dX5_outOf_80 : decode cX5_outOf 80 = .ok (.getfield 54, 3) := by decide +kernel
theorem dX5_outOf_83 : decode cX5_outOf 83 = .ok (.iand, 1) := by decide +kernel
theorem dX5_outOf_84 : decode cX5_outOf 84 = .ok (.ior, 1) := by decide +kernel
theorem dX5_outOf_85 : decode cX5_outOf 85 = .ok (.istore 9, 2) := by decide +kernel
theorem dX5_outOf_87 : decode cX5_outOf 87 = .ok (.iload 9, 2) := by decide +kernel
theorem dX5_outOf_89 : decode cX5_outOf 89 = .ok (.ldc 69, 2) := by decide +kernel
theorem dX5_outOf_91 : decode cX5_outOf 91 = .ok (.imul, 1) := by decide +kernel
theorem dX5_outOf_92 : decode cX5_outOf 92 = .ok (.bipush 20, 2) := by decide +kernel
theorem dX5_outOf_94 : decode cX5_outOf 94 = .ok (.iushr, 1) := by decide +kernel
theorem dX5_outOf_95 : decode cX5_outOf 95 = .ok (.istore 10, 2) := by decide +kernel
theorem dX5_outOf_97 : decode cX5_outOf 97 = .ok (.aload_n 0, 1) := by decide +kernel
theorem dX5_outOf_98 : decode cX5_outOf 98 = .ok (.getfield 18, 3) := by decide +kernel
theorem dX5_outOf_101 : decode cX5_outOf 101 = .ok (.iload 10, 2) := by decide +kernel
theorem dX5_outOf_103 : decode cX5_outOf 103 = .ok (.iaload, 1) := by decide +kernel
theorem dX5_outOf_104 : decode cX5_outOf 104 = .ok (.iload 9, 2) := by decide +kernel
theorem dX5_outOf_106 : decode cX5_outOf 106 = .ok (.if_icmp .eq 42, 3) := by decide +kernel
theorem dX5_outOf_109 : decode cX5_outOf 109 = .ok (.aload_n 0, 1) := by decide +kernel
theorem dX5_outOf_110 : decode cX5_outOf 110 = .ok (.getfield 32, 3) := by decide +kernel
theorem dX5_outOf_113 : decode cX5_outOf 113 = .ok (.iload 5, 2) := by decide +kernel
theorem dX5_outOf_115 : decode cX5_outOf 115 = .ok (.iload 6, 2) := by decide +kernel
theorem dX5_outOf_117 : decode cX5_outOf 117 = .ok (.iload_n 2, 1) := by decide +kernel
theorem dX5_outOf_118 : decode cX5_outOf 118 = .ok (.iload_n 1, 1) := by decide +kernel
theorem dX5_outOf_119 : decode cX5_outOf 119 = .ok (.iload_n 3, 1) := by decide +kernel
theorem dX5_outOf_120 : decode cX5_outOf 120 = .ok (.iload 4, 2) := by decide +kernel
theorem dX5_outOf_122 : decode cX5_outOf 122 = .ok (.invokevirtual 70, 3) := by decide +kernel
theorem dX5_outOf_125 : decode cX5_outOf 125 = .ok (.aload_n 0, 1) := by decide +kernel
theorem dX5_outOf_126 : decode cX5_outOf 126 = .ok (.getfield 21, 3) := by decide +kernel
theorem dX5_outOf_129 : decode cX5_outOf 129 = .ok (.iload 10, 2) := by decide +kernel
theorem dX5_outOf_131 : decode cX5_outOf 131 = .ok (.aload_n 0, 1) := by decide +kernel
theorem dX5_outOf_132 : decode cX5_outOf 132 = .ok (.getfield 32, 3) := by decide +kernel
theorem dX5_outOf_135 : decode cX5_outOf 135 = .ok (.invokevirtual 74, 3) := by decide +kernel
theorem dX5_outOf_138 : decode cX5_outOf 138 = .ok (.iastore, 1) := by decide +kernel
theorem dX5_outOf_139 : decode cX5_outOf 139 = .ok (.aload_n 0, 1) := by decide +kernel
theorem dX5_outOf_140 : decode cX5_outOf 140 = .ok (.getfield 18, 3) := by decide +kernel
theorem dX5_outOf_143 : decode cX5_outOf 143 = .ok (.iload 10, 2) := by decide +kernel
theorem dX5_outOf_145 : decode cX5_outOf 145 = .ok (.iload 9, 2) := by decide +kernel
theorem dX5_outOf_147 : decode cX5_outOf 147 = .ok (.iastore, 1) := by decide +kernel
theorem dX5_outOf_148 : decode cX5_outOf 148 = .ok (.iload 8, 2) := by decide +kernel
theorem dX5_outOf_150 : decode cX5_outOf 150 = .ok (.aload_n 0, 1) := by decide +kernel
theorem dX5_outOf_151 : decode cX5_outOf 151 = .ok (.getfield 21, 3) := by decide +kernel
theorem dX5_outOf_154 : decode cX5_outOf 154 = .ok (.iload 10, 2) := by decide +kernel
theorem dX5_outOf_156 : decode cX5_outOf 156 = .ok (.iaload, 1) := by decide +kernel
theorem dX5_outOf_157 : decode cX5_outOf 157 = .ok (.iadd, 1) := by decide +kernel
theorem dX5_outOf_158 : decode cX5_outOf 158 = .ok (.istore 8, 2) := by decide +kernel
theorem dX5_outOf_160 : decode cX5_outOf 160 = .ok (.iload 8, 2) := by decide +kernel
theorem dX5_outOf_162 : decode cX5_outOf 162 = .ok (.ifCond .ge 7, 3) := by decide +kernel
theorem dX5_outOf_165 : decode cX5_outOf 165 = .ok (.iconst 0, 1) := by decide +kernel
theorem dX5_outOf_166 : decode cX5_outOf 166 = .ok (.goto 11, 3) := by decide +kernel
theorem dX5_outOf_169 : decode cX5_outOf 169 = .ok (.iload 8, 2) := by decide +kernel
theorem dX5_outOf_171 : decode cX5_outOf 171 = .ok (.sipush 1000, 3) := by decide +kernel
theorem dX5_outOf_174 : decode cX5_outOf 174 = .ok (.invokestatic 78, 3) := by decide +kernel
theorem dX5_outOf_177 : decode cX5_outOf 177 = .ok (.ireturn, 1) := by decide +kernel
theorem dX6_init_0 : decode cX6_init 0 = .ok (.aload_n 0, 1) := by decide +kernel
theorem dX6_init_1 : decode cX6_init 1 = .ok (.invokespecial 3, 3) := by decide +kernel
theorem dX6_init_4 : decode cX6_init 4 = .ok (.aload_n 0, 1) := by decide +kernel
theorem dX6_init_5 : decode cX6_init 5 = .ok (.iconst 1, 1) := by decide +kernel
theorem dX6_init_6 : decode cX6_init 6 = .ok (.putfield 9, 3) := by decide +kernel
theorem dX6_init_9 : decode cX6_init 9 = .ok (.aload_n 0, 1) := by decide +kernel
theorem dX6_init_10 : decode cX6_init 10 = .ok (.bipush 8, 2) := by decide +kernel
theorem dX6_init_12 : decode cX6_init 12 = .ok (.putfield 15, 3) := by decide +kernel
theorem dX6_init_15 : decode cX6_init 15 = .ok (.aload_n 0, 1) := by decide +kernel
theorem dX6_init_16 : decode cX6_init 16 = .ok (.bipush 8, 2) := by decide +kernel
theorem dX6_init_18 : decode cX6_init 18 = .ok (.newarray .int, 2) := by decide +kernel
theorem dX6_init_20 : decode cX6_init 20 = .ok (.putfield 18, 3) := by decide +kernel
theorem dX6_init_23 : decode cX6_init 23 = .ok (.return_, 1) := by decide +kernel
theorem dX6_sortAt_0 : decode cX6_sortAt 0 = .ok (.iload_n 1, 1) := by decide +kernel
theorem dX6_sortAt_1 : decode cX6_sortAt 1 = .ok (.ifCond .lt 9, 3) := by decide +kernel
theorem dX6_sortAt_4 : decode cX6_sortAt 4 = .ok (.iload_n 1, 1) := by decide +kernel
theorem dX6_sortAt_5 : decode cX6_sortAt 5 = .ok (.bipush 8, 2) := by decide +kernel
theorem dX6_sortAt_7 : decode cX6_sortAt 7 = .ok (.if_icmp .lt 7, 3) := by decide +kernel
theorem dX6_sortAt_10 : decode cX6_sortAt 10 = .ok (.iconst 0, 1) := by decide +kernel
theorem dX6_sortAt_11 : decode cX6_sortAt 11 = .ok (.goto 9, 3) := by decide +kernel
theorem dX6_sortAt_14 : decode cX6_sortAt 14 = .ok (.aload_n 0, 1) := by decide +kernel
theorem dX6_sortAt_15 : decode cX6_sortAt 15 = .ok (.getfield 18, 3) := by decide +kernel
theorem dX6_sortAt_18 : decode cX6_sortAt 18 = .ok (.iload_n 1, 1) := by decide +kernel
theorem dX6_sortAt_19 : decode cX6_sortAt 19 = .ok (.iaload, 1) := by decide +kernel
theorem dX6_sortAt_20 : decode cX6_sortAt 20 = .ok (.ireturn, 1) := by decide +kernel
theorem dX6_ended_0 : decode cX6_ended 0 = .ok (.iload_n 2, 1) := by decide +kernel
theorem dX6_ended_1 : decode cX6_ended 1 = .ok (.aload_n 0, 1) := by decide +kernel
theorem dX6_ended_2 : decode cX6_ended 2 = .ok (.getfield 9, 3) := by decide +kernel
theorem dX6_ended_5 : decode cX6_ended 5 = .ok (.if_icmp .ge 18, 3) := by decide +kernel
theorem dX6_ended_8 : decode cX6_ended 8 = .ok (.iload_n 1, 1) := by decide +kernel
theorem dX6_ended_9 : decode cX6_ended 9 = .ok (.aload_n 0, 1) := by decide +kernel
theorem dX6_ended_10 : decode cX6_ended 10 = .ok (.getfield 15, 3) := by decide +kernel
theorem dX6_ended_13 : decode cX6_ended 13 = .ok (.if_icmp .ge 10, 3) := by decide +kernel
theorem dX6_ended_16 : decode cX6_ended 16 = .ok (.iload_n 3, 1) := by decide +kernel
theorem dX6_ended_17 : decode cX6_ended 17 = .ok (.invokestatic 22, 3) := by decide +kernel
theorem dX6_ended_20 : decode cX6_ended 20 = .ok (.ifCond .ge 7, 3) := by decide +kernel
theorem dX6_ended_23 : decode cX6_ended 23 = .ok (.iconst 1, 1) := by decide +kernel
theorem dX6_ended_24 : decode cX6_ended 24 = .ok (.goto 4, 3) := by decide +kernel
theorem dX6_ended_27 : decode cX6_ended 27 = .ok (.iconst 0, 1) := by decide +kernel
theorem dX6_ended_28 : decode cX6_ended 28 = .ok (.ireturn, 1) := by decide +kernel
theorem dX6_meanOf_0 : decode cX6_meanOf 0 = .ok (.iload_n 2, 1) := by decide +kernel
theorem dX6_meanOf_1 : decode cX6_meanOf 1 = .ok (.iload_n 3, 1) := by decide +kernel
theorem dX6_meanOf_2 : decode cX6_meanOf 2 = .ok (.imul, 1) := by decide +kernel
theorem dX6_meanOf_3 : decode cX6_meanOf 3 = .ok (.sipush 1000, 3) := by decide +kernel
theorem dX6_meanOf_6 : decode cX6_meanOf 6 = .ok (.iload_n 2, 1) := by decide +kernel
theorem dX6_meanOf_7 : decode cX6_meanOf 7 = .ok (.isub, 1) := by decide +kernel
theorem dX6_meanOf_8 : decode cX6_meanOf 8 = .ok (.iload 4, 2) := by decide +kernel
theorem dX6_meanOf_10 : decode cX6_meanOf 10 = .ok (.imul, 1) := by decide +kernel
theorem dX6_meanOf_11 : decode cX6_meanOf 11 = .ok (.iadd, 1) := by decide +kernel
theorem dX6_meanOf_12 : decode cX6_meanOf 12 = .ok (.sipush 1000, 3) := by decide +kernel
theorem dX6_meanOf_15 : decode cX6_meanOf 15 = .ok (.idiv, 1) := by decide +kernel
theorem dX6_meanOf_16 : decode cX6_meanOf 16 = .ok (.istore 5, 2) := by decide +kernel
theorem dX6_meanOf_18 : decode cX6_meanOf 18 = .ok (.iload_n 1, 1) := by decide +kernel
theorem dX6_meanOf_19 : decode cX6_meanOf 19 = .ok (.sipush 1000, 3) := by decide +kernel
theorem dX6_meanOf_22 : decode cX6_meanOf 22 = .ok (.imul, 1) := by decide +kernel
theorem dX6_meanOf_23 : decode cX6_meanOf 23 = .ok (.sipush 1000, 3) := by decide +kernel
theorem dX6_meanOf_26 : decode cX6_meanOf 26 = .ok (.aload_n 0, 1) := by decide +kernel
theorem dX6_meanOf_27 : decode cX6_meanOf 27 = .ok (.getfield 28, 3) := by decide +kernel
theorem dX6_meanOf_30 : decode cX6_meanOf 30 = .ok (.isub, 1) := by decide +kernel
theorem dX6_meanOf_31 : decode cX6_meanOf 31 = .ok (.iload 5, 2) := by decide +kernel
theorem dX6_meanOf_33 : decode cX6_meanOf 33 = .ok (.imul, 1) := by decide +kernel
theorem dX6_meanOf_34 : decode cX6_meanOf 34 = .ok (.sipush 1000, 3) := by decide +kernel
theorem dX6_meanOf_37 : decode cX6_meanOf 37 = .ok (.idiv, 1) := by decide +kernel
theorem dX6_meanOf_38 : decode cX6_meanOf 38 = .ok (.iadd, 1) := by decide +kernel
theorem dX6_meanOf_39 : decode cX6_meanOf 39 = .ok (.ireturn, 1) := by decide +kernel
theorem dX6_sortDown_0 : decode cX6_sortDown 0 = .ok (.iconst 0, 1) := by decide +kernel
theorem dX6_sortDown_1 : decode cX6_sortDown 1 = .ok (.istore_n 2, 1) := by decide +kernel
theorem dX6_sortDown_2 : decode cX6_sortDown 2 = .ok (.iconst 3, 1) := by decide +kernel
theorem dX6_sortDown_3 : decode cX6_sortDown 3 = .ok (.istore_n 3, 1) := by decide +kernel
theorem dX6_sortDown_4 : decode cX6_sortDown 4 = .ok (.iload_n 3, 1) := by decide +kernel
theorem dX6_sortDown_5 : decode cX6_sortDown 5 = .ok (.ifCond .lt 51, 3) := by decide +kernel
theorem dX6_sortDown_8 : decode cX6_sortDown 8 = .ok (.iconst 0, 1) := by decide +kernel
theorem dX6_sortDown_9 : decode cX6_sortDown 9 = .ok (.istore 4, 2) := by decide +kernel
theorem dX6_sortDown_11 : decode cX6_sortDown 11 = .ok (.iload 4, 2) := by decide +kernel
theorem dX6_sortDown_13 : decode cX6_sortDown 13 = .ok (.aload_n 0, 1) := by decide +kernel
theorem dX6_sortDown_14 : decode cX6_sortDown 14 = .ok (.getfield 9, 3) := by decide +kernel
theorem dX6_sortDown_17 : decode cX6_sortDown 17 = .ok (.if_icmp .ge 33, 3) := by decide +kernel
theorem dX6_sortDown_20 : decode cX6_sortDown 20 = .ok (.aload_n 0, 1) := by decide +kernel
theorem dX6_sortDown_21 : decode cX6_sortDown 21 = .ok (.getfield 18, 3) := by decide +kernel
theorem dX6_sortDown_24 : decode cX6_sortDown 24 = .ok (.iload 4, 2) := by decide +kernel
theorem dX6_sortDown_26 : decode cX6_sortDown 26 = .ok (.iaload, 1) := by decide +kernel
theorem dX6_sortDown_27 : decode cX6_sortDown 27 = .ok (.iload_n 3, 1) := by decide +kernel
theorem dX6_sortDown_28 : decode cX6_sortDown 28 = .ok (.if_icmp .ne 16, 3) := by decide +kernel
theorem dX6_sortDown_31 : decode cX6_sortDown 31 = .ok (.iload_n 2, 1) := by decide +kernel
theorem dX6_sortDown_32 : decode cX6_sortDown 32 = .ok (.aload_n 1, 1) := by decide +kernel
theorem dX6_sortDown_33 : decode cX6_sortDown 33 = .ok (.arraylength, 1) := by decide +kernel
theorem dX6_sortDown_34 : decode cX6_sortDown 34 = .ok (.if_icmp .ge 10, 3) := by decide +kernel
theorem dX6_sortDown_37 : decode cX6_sortDown 37 = .ok (.aload_n 1, 1) := by decide +kernel
theorem dX6_sortDown_38 : decode cX6_sortDown 38 = .ok (.iload_n 2, 1) := by decide +kernel
theorem dX6_sortDown_39 : decode cX6_sortDown 39 = .ok (.iinc 2 1, 3) := by decide +kernel
theorem dX6_sortDown_42 : decode cX6_sortDown 42 = .ok (.iload_n 3, 1) := by decide +kernel
theorem dX6_sortDown_43 : decode cX6_sortDown 43 = .ok (.iastore, 1) := by decide +kernel
theorem dX6_sortDown_44 : decode cX6_sortDown 44 = .ok (.iinc 4 1, 3) := by decide +kernel
theorem dX6_sortDown_47 : decode cX6_sortDown 47 = .ok (.goto (-36), 3) := by decide +kernel
theorem dX6_sortDown_50 : decode cX6_sortDown 50 = .ok (.iinc 3 (-1), 3) := by decide +kernel
theorem dX6_sortDown_53 : decode cX6_sortDown 53 = .ok (.goto (-49), 3) := by decide +kernel
theorem dX6_sortDown_56 : decode cX6_sortDown 56 = .ok (.return_, 1) := by decide +kernel
theorem dX6_digits_0 : decode cX6_digits 0 = .ok (.iconst 0, 1) := by decide +kernel
theorem dX6_digits_1 : decode cX6_digits 1 = .ok (.istore_n 2, 1) := by decide +kernel
theorem dX6_digits_2 : decode cX6_digits 2 = .ok (.iconst 0, 1) := by decide +kernel
theorem dX6_digits_3 : decode cX6_digits 3 = .ok (.istore_n 3, 1) := by decide +kernel
theorem dX6_digits_4 : decode cX6_digits 4 = .ok (.iload_n 3, 1) := by decide +kernel
theorem dX6_digits_5 : decode cX6_digits 5 = .ok (.iload_n 1, 1) := by decide +kernel
theorem dX6_digits_6 : decode cX6_digits 6 = .ok (.if_icmp .ge 24, 3) := by decide +kernel
theorem dX6_digits_9 : decode cX6_digits 9 = .ok (.iload_n 3, 1) := by decide +kernel
theorem dX6_digits_10 : decode cX6_digits 10 = .ok (.aload_n 0, 1) := by decide +kernel
theorem dX6_digits_11 : decode cX6_digits 11 = .ok (.arraylength, 1) := by decide +kernel
theorem dX6_digits_12 : decode cX6_digits 12 = .ok (.if_icmp .ge 18, 3) := by decide +kernel
theorem dX6_digits_15 : decode cX6_digits 15 = .ok (.iload_n 2, 1) := by decide +kernel
theorem dX6_digits_16 : decode cX6_digits 16 = .ok (.bipush 10, 2) := by decide +kernel
theorem dX6_digits_18 : decode cX6_digits 18 = .ok (.imul, 1) := by decide +kernel
theorem dX6_digits_19 : decode cX6_digits 19 = .ok (.aload_n 0, 1) := by decide +kernel
theorem dX6_digits_20 : decode cX6_digits 20 = .ok (.iload_n 3, 1) := by decide +kernel
theorem dX6_digits_21 : decode cX6_digits 21 = .ok (.iaload, 1) := by decide +kernel
theorem dX6_digits_22 : decode cX6_digits 22 = .ok (.iadd, 1) := by decide +kernel
theorem dX6_digits_23 : decode cX6_digits 23 = .ok (.istore_n 2, 1) := by decide +kernel
theorem dX6_digits_24 : decode cX6_digits 24 = .ok (.iinc 3 1, 3) := by decide +kernel
theorem dX6_digits_27 : decode cX6_digits 27 = .ok (.goto (-23), 3) := by decide +kernel
theorem dX6_digits_30 : decode cX6_digits 30 = .ok (.iload_n 2, 1) := by decide +kernel
theorem dX6_digits_31 : decode cX6_digits 31 = .ok (.ireturn, 1) := by decide +kernel
theorem dX6_turnOn_0 : decode cX6_turnOn 0 = .ok (.iload_n 1, 1) := by decide +kernel
theorem dX6_turnOn_1 : decode cX6_turnOn 1 = .ok (.aload_n 0, 1) := by decide +kernel
theorem dX6_turnOn_2 : decode cX6_turnOn 2 = .ok (.arraylength, 1) := by decide +kernel
theorem dX6_turnOn_3 : decode cX6_turnOn 3 = .ok (.invokestatic 31, 3) := by decide +kernel
theorem dX6_turnOn_6 : decode cX6_turnOn 6 = .ok (.istore_n 2, 1) := by decide +kernel
theorem dX6_turnOn_7 : decode cX6_turnOn 7 = .ok (.iconst 1, 1) := by decide +kernel
theorem dX6_turnOn_8 : decode cX6_turnOn 8 = .ok (.istore_n 3, 1) := by decide +kernel
theorem dX6_turnOn_9 : decode cX6_turnOn 9 = .ok (.iload_n 3, 1) := by decide +kernel
theorem dX6_turnOn_10 : decode cX6_turnOn 10 = .ok (.iload_n 2, 1) := by decide +kernel
theorem dX6_turnOn_11 : decode cX6_turnOn 11 = .ok (.if_icmp .ge 20, 3) := by decide +kernel
theorem dX6_turnOn_14 : decode cX6_turnOn 14 = .ok (.aload_n 0, 1) := by decide +kernel
theorem dX6_turnOn_15 : decode cX6_turnOn 15 = .ok (.iload_n 3, 1) := by decide +kernel
theorem dX6_turnOn_16 : decode cX6_turnOn 16 = .ok (.iaload, 1) := by decide +kernel
theorem dX6_turnOn_17 : decode cX6_turnOn 17 = .ok (.aload_n 0, 1) := by decide +kernel
theorem dX6_turnOn_18 : decode cX6_turnOn 18 = .ok (.iload_n 3, 1) := by decide +kernel
theorem dX6_turnOn_19 : decode cX6_turnOn 19 = .ok (.iconst 1, 1) := by decide +kernel
theorem dX6_turnOn_20 : decode cX6_turnOn 20 = .ok (.isub, 1) := by decide +kernel
theorem dX6_turnOn_21 : decode cX6_turnOn 21 = .ok (.iaload, 1) := by decide +kernel
theorem dX6_turnOn_22 : decode cX6_turnOn 22 = .ok (.if_icmp .lt 9, 3) := by decide +kernel
theorem dX6_turnOn_25 : decode cX6_turnOn 25 = .ok (.iinc 3 1, 3) := by decide +kernel
theorem dX6_turnOn_28 : decode cX6_turnOn 28 = .ok (.goto (-19), 3) := by decide +kernel
theorem dX6_turnOn_31 : decode cX6_turnOn 31 = .ok (.iload_n 3, 1) := by decide +kernel
theorem dX6_turnOn_32 : decode cX6_turnOn 32 = .ok (.iload_n 2, 1) := by decide +kernel
theorem dX6_turnOn_33 : decode cX6_turnOn 33 = .ok (.if_icmp .lt 5, 3) := by decide +kernel
theorem dX6_turnOn_36 : decode cX6_turnOn 36 = .ok (.iconst (-1), 1) := by decide +kernel
theorem dX6_turnOn_37 : decode cX6_turnOn 37 = .ok (.ireturn, 1) := by decide +kernel
theorem dX6_turnOn_38 : decode cX6_turnOn 38 = .ok (.iconst 0, 1) := by decide +kernel
theorem dX6_turnOn_39 : decode cX6_turnOn 39 = .ok (.istore 4, 2) := by decide +kernel
theorem dX6_turnOn_41 : decode cX6_turnOn 41 = .ok (.iload 4, 2) := by decide +kernel
theorem dX6_turnOn_43 : decode cX6_turnOn 43 = .ok (.iload_n 3, 1) := by decide +kernel
theorem dX6_turnOn_44 : decode cX6_turnOn 44 = .ok (.if_icmp .ge 19, 3) := by decide +kernel
theorem dX6_turnOn_47 : decode cX6_turnOn 47 = .ok (.aload_n 0, 1) := by decide +kernel
theorem dX6_turnOn_48 : decode cX6_turnOn 48 = .ok (.iload 4, 2) := by decide +kernel
theorem dX6_turnOn_50 : decode cX6_turnOn 50 = .ok (.iaload, 1) := by decide +kernel
theorem dX6_turnOn_51 : decode cX6_turnOn 51 = .ok (.aload_n 0, 1) := by decide +kernel
theorem dX6_turnOn_52 : decode cX6_turnOn 52 = .ok (.iload_n 3, 1) := by decide +kernel
theorem dX6_turnOn_53 : decode cX6_turnOn 53 = .ok (.iaload, 1) := by decide +kernel
theorem dX6_turnOn_54 : decode cX6_turnOn 54 = .ok (.if_icmp .gt 9, 3) := by decide +kernel
theorem dX6_turnOn_57 : decode cX6_turnOn 57 = .ok (.iinc 4 1, 3) := by decide +kernel
theorem dX6_turnOn_60 : decode cX6_turnOn 60 = .ok (.goto (-19), 3) := by decide +kernel
theorem dX6_turnOn_63 : decode cX6_turnOn 63 = .ok (.aload_n 0, 1) := by decide +kernel
theorem dX6_turnOn_64 : decode cX6_turnOn 64 = .ok (.iload_n 3, 1) := by decide +kernel
theorem dX6_turnOn_65 : decode cX6_turnOn 65 = .ok (.iload 4, 2) := by decide +kernel
theorem dX6_turnOn_67 : decode cX6_turnOn 67 = .ok (.invokestatic 37, 3) := by decide +kernel
theorem dX6_turnOn_70 : decode cX6_turnOn 70 = .ok (.iconst 0, 1) := by decide +kernel
theorem dX6_turnOn_71 : decode cX6_turnOn 71 = .ok (.istore 5, 2) := by decide +kernel
theorem dX6_turnOn_73 : decode cX6_turnOn 73 = .ok (.iload_n 3, 1) := by decide +kernel
theorem dX6_turnOn_74 : decode cX6_turnOn 74 = .ok (.iconst 1, 1) := by decide +kernel
theorem dX6_turnOn_75 : decode cX6_turnOn 75 = .ok (.isub, 1) := by decide +kernel
theorem dX6_turnOn_76 : decode cX6_turnOn 76 = .ok (.istore 6, 2) := by decide +kernel
theorem dX6_turnOn_78 : decode cX6_turnOn 78 = .ok (.iload 5, 2) := by decide +kernel
theorem dX6_turnOn_80 : decode cX6_turnOn 80 = .ok (.iload 6, 2) := by decide +kernel
theorem dX6_turnOn_82 : decode cX6_turnOn 82 = .ok (.if_icmp .ge 20, 3) := by decide +kernel
theorem dX6_turnOn_85 : decode cX6_turnOn 85 = .ok (.aload_n 0, 1) := by decide +kernel
theorem dX6_turnOn_86 : decode cX6_turnOn 86 = .ok (.iload 5, 2) := by decide +kernel
theorem dX6_turnOn_88 : decode cX6_turnOn 88 = .ok (.iload 6, 2) := by decide +kernel
theorem dX6_turnOn_90 : decode cX6_turnOn 90 = .ok (.invokestatic 37, 3) := by decide +kernel
theorem dX6_turnOn_93 : decode cX6_turnOn 93 = .ok (.iinc 5 1, 3) := by decide +kernel
theorem dX6_turnOn_96 : decode cX6_turnOn 96 = .ok (.iinc 6 (-1), 3) := by decide +kernel
theorem dX6_turnOn_99 : decode cX6_turnOn 99 = .ok (.goto (-21), 3) := by decide +kernel
theorem dX6_turnOn_102 : decode cX6_turnOn 102 = .ok (.iload_n 3, 1) := by decide +kernel
theorem dX6_turnOn_103 : decode cX6_turnOn 103 = .ok (.ireturn, 1) := by decide +kernel
theorem dX6_swap_0 : decode cX6_swap 0 = .ok (.aload_n 0, 1) := by decide +kernel
theorem dX6_swap_1 : decode cX6_swap 1 = .ok (.iload_n 1, 1) := by decide +kernel
theorem dX6_swap_2 : decode cX6_swap 2 = .ok (.iaload, 1) := by decide +kernel
theorem dX6_swap_3 : decode cX6_swap 3 = .ok (.istore_n 3, 1) := by decide +kernel
theorem dX6_swap_4 : decode cX6_swap 4 = .ok (.aload_n 0, 1) := by decide +kernel
theorem dX6_swap_5 : decode cX6_swap 5 = .ok (.iload_n 1, 1) := by decide +kernel
theorem dX6_swap_6 : decode cX6_swap 6 = .ok (.aload_n 0, 1) := by decide +kernel
theorem dX6_swap_7 : decode cX6_swap 7 = .ok (.iload_n 2, 1) := by decide +kernel
theorem dX6_swap_8 : decode cX6_swap 8 = .ok (.iaload, 1) := by decide +kernel
theorem dX6_swap_9 : decode cX6_swap 9 = .ok (.iastore, 1) := by decide +kernel
theorem dX6_swap_10 : decode cX6_swap 10 = .ok (.aload_n 0, 1) := by decide +kernel
theorem dX6_swap_11 : decode cX6_swap 11 = .ok (.iload_n 2, 1) := by decide +kernel
theorem dX6_swap_12 : decode cX6_swap 12 = .ok (.iload_n 3, 1) := by decide +kernel
theorem dX6_swap_13 : decode cX6_swap 13 = .ok (.iastore, 1) := by decide +kernel
theorem dX6_swap_14 : decode cX6_swap 14 = .ok (.return_, 1) := by decide +kernel
theorem dX7_init_0 : decode cX7_init 0 = .ok (.aload_n 0, 1) := by decide +kernel
theorem dX7_init_1 : decode cX7_init 1 = .ok (.invokespecial 1, 3) := by decide +kernel
theorem dX7_init_4 : decode cX7_init 4 = .ok (.aload_n 0, 1) := by decide +kernel
theorem dX7_init_5 : decode cX7_init 5 = .ok (.bipush 80, 2) := by decide +kernel
theorem dX7_init_7 : decode cX7_init 7 = .ok (.newarray .int, 2) := by decide +kernel
theorem dX7_init_9 : decode cX7_init 9 = .ok (.putfield 9, 3) := by decide +kernel
theorem dX7_init_12 : decode cX7_init 12 = .ok (.aload_n 0, 1) := by decide +kernel
theorem dX7_init_13 : decode cX7_init 13 = .ok (.bipush 8, 2) := by decide +kernel
theorem dX7_init_15 : decode cX7_init 15 = .ok (.newarray .int, 2) := by decide +kernel
theorem dX7_init_17 : decode cX7_init 17 = .ok (.putfield 15, 3) := by decide +kernel
theorem dX7_init_20 : decode cX7_init 20 = .ok (.aload_n 0, 1) := by decide +kernel
theorem dX7_init_21 : decode cX7_init 21 = .ok (.new 18, 3) := by decide +kernel
theorem dX7_init_24 : decode cX7_init 24 = .ok (.dup, 1) := by decide +kernel
theorem dX7_init_25 : decode cX7_init 25 = .ok (.invokespecial 20, 3) := by decide +kernel
theorem dX7_init_28 : decode cX7_init 28 = .ok (.putfield 21, 3) := by decide +kernel
theorem dX7_init_31 : decode cX7_init 31 = .ok (.return_, 1) := by decide +kernel
theorem dX7_take_0 : decode cX7_take 0 = .ok (.iconst 0, 1) := by decide +kernel
theorem dX7_take_1 : decode cX7_take 1 = .ok (.istore_n 3, 1) := by decide +kernel
theorem dX7_take_2 : decode cX7_take 2 = .ok (.iload_n 3, 1) := by decide +kernel
theorem dX7_take_3 : decode cX7_take 3 = .ok (.iload_n 1, 1) := by decide +kernel
theorem dX7_take_4 : decode cX7_take 4 = .ok (.if_icmp .ge 49, 3) := by decide +kernel
theorem dX7_take_7 : decode cX7_take 7 = .ok (.iload_n 3, 1) := by decide +kernel
theorem dX7_take_8 : decode cX7_take 8 = .ok (.iconst 4, 1) := by decide +kernel
theorem dX7_take_9 : decode cX7_take 9 = .ok (.if_icmp .ge 44, 3) := by decide +kernel
theorem dX7_take_12 : decode cX7_take 12 = .ok (.aload_n 0, 1) := by decide +kernel
theorem dX7_take_13 : decode cX7_take 13 = .ok (.getfield 25, 3) := by decide +kernel
theorem dX7_take_16 : decode cX7_take 16 = .ok (.bipush 80, 2) := by decide +kernel
theorem dX7_take_18 : decode cX7_take 18 = .ok (.if_icmp .ge 35, 3) := by decide +kernel
theorem dX7_take_21 : decode cX7_take 21 = .ok (.aload_n 0, 1) := by decide +kernel
theorem dX7_take_22 : decode cX7_take 22 = .ok (.getfield 9, 3) := by decide +kernel
theorem dX7_take_25 : decode cX7_take 25 = .ok (.aload_n 0, 1) := by decide +kernel
theorem dX7_take_26 : decode cX7_take 26 = .ok (.dup, 1) := by decide +kernel
theorem dX7_take_27 : decode cX7_take 27 = .ok (.getfield 25, 3) := by decide +kernel
theorem dX7_take_30 : decode cX7_take 30 = .ok (.dup_x1, 1) := by decide +kernel
theorem dX7_take_31 : decode cX7_take 31 = .ok (.iconst 1, 1) := by decide +kernel
theorem dX7_take_32 : decode cX7_take 32 = .ok (.iadd, 1) := by decide +kernel
theorem dX7_take_33 : decode cX7_take 33 = .ok (.putfield 25, 3) := by decide +kernel
theorem dX7_take_36 : decode cX7_take 36 = .ok (.iload_n 2, 1) := by decide +kernel
theorem dX7_take_37 : decode cX7_take 37 = .ok (.bipush 8, 2) := by decide +kernel
theorem dX7_take_39 : decode cX7_take 39 = .ok (.iload_n 3, 1) := by decide +kernel
theorem dX7_take_40 : decode cX7_take 40 = .ok (.imul, 1) := by decide +kernel
theorem dX7_take_41 : decode cX7_take 41 = .ok (.iushr, 1) := by decide +kernel
theorem dX7_take_42 : decode cX7_take 42 = .ok (.sipush 255, 3) := by decide +kernel
theorem dX7_take_45 : decode cX7_take 45 = .ok (.iand, 1) := by decide +kernel
theorem dX7_take_46 : decode cX7_take 46 = .ok (.iastore, 1) := by decide +kernel
theorem dX7_take_47 : decode cX7_take 47 = .ok (.iinc 3 1, 3) := by decide +kernel
theorem dX7_take_50 : decode cX7_take 50 = .ok (.goto (-48), 3) := by decide +kernel
theorem dX7_take_53 : decode cX7_take 53 = .ok (.aload_n 0, 1) := by decide +kernel
theorem dX7_take_54 : decode cX7_take 54 = .ok (.getfield 25, 3) := by decide +kernel
theorem dX7_take_57 : decode cX7_take 57 = .ok (.ireturn, 1) := by decide +kernel
theorem dX7_begin_0 : decode cX7_begin 0 = .ok (.aload_n 0, 1) := by decide +kernel
theorem dX7_begin_1 : decode cX7_begin 1 = .ok (.iconst 0, 1) := by decide +kernel
theorem dX7_begin_2 : decode cX7_begin 2 = .ok (.putfield 29, 3) := by decide +kernel
theorem dX7_begin_5 : decode cX7_begin 5 = .ok (.aload_n 0, 1) := by decide +kernel
theorem dX7_begin_6 : decode cX7_begin 6 = .ok (.iconst (-1), 1) := by decide +kernel
theorem dX7_begin_7 : decode cX7_begin 7 = .ok (.putfield 32, 3) := by decide +kernel
theorem dX7_begin_10 : decode cX7_begin 10 = .ok (.return_, 1) := by decide +kernel
theorem dX7_end_0 : decode cX7_end 0 = .ok (.aload_n 0, 1) := by decide +kernel
theorem dX7_end_1 : decode cX7_end 1 = .ok (.getfield 32, 3) := by decide +kernel
theorem dX7_end_4 : decode cX7_end 4 = .ok (.iconst (-1), 1) := by decide +kernel
theorem dX7_end_5 : decode cX7_end 5 = .ok (.if_icmp .ne 22, 3) := by decide +kernel
theorem dX7_end_8 : decode cX7_end 8 = .ok (.aload_n 0, 1) := by decide +kernel
theorem dX7_end_9 : decode cX7_end 9 = .ok (.getfield 29, 3) := by decide +kernel
theorem dX7_end_12 : decode cX7_end 12 = .ok (.aload_n 0, 1) := by decide +kernel
theorem dX7_end_13 : decode cX7_end 13 = .ok (.getfield 25, 3) := by decide +kernel
theorem dX7_end_16 : decode cX7_end 16 = .ok (.if_icmp .ge 11, 3) := by decide +kernel
theorem dX7_end_19 : decode cX7_end 19 = .ok (.aload_n 0, 1) := by decide +kernel
theorem dX7_end_20 : decode cX7_end 20 = .ok (.aload_n 0, 1) := by decide +kernel
theorem dX7_end_21 : decode cX7_end 21 = .ok (.getfield 29, 3) := by decide +kernel
theorem dX7_end_24 : decode cX7_end 24 = .ok (.putfield 32, 3) := by decide +kernel
theorem dX7_end_27 : decode cX7_end 27 = .ok (.aload_n 0, 1) := by decide +kernel
theorem dX7_end_28 : decode cX7_end 28 = .ok (.iconst 0, 1) := by decide +kernel
theorem dX7_end_29 : decode cX7_end 29 = .ok (.putfield 25, 3) := by decide +kernel
theorem dX7_end_32 : decode cX7_end 32 = .ok (.aload_n 0, 1) := by decide +kernel
theorem dX7_end_33 : decode cX7_end 33 = .ok (.getfield 32, 3) := by decide +kernel
theorem dX7_end_36 : decode cX7_end 36 = .ok (.ireturn, 1) := by decide +kernel
theorem dX7_sign_0 : decode cX7_sign 0 = .ok (.aload_n 0, 1) := by decide +kernel
theorem dX7_sign_1 : decode cX7_sign 1 = .ok (.getfield 29, 3) := by decide +kernel
theorem dX7_sign_4 : decode cX7_sign 4 = .ok (.ifCond .lt 26, 3) := by decide +kernel
theorem dX7_sign_7 : decode cX7_sign 7 = .ok (.aload_n 0, 1) := by decide +kernel
theorem dX7_sign_8 : decode cX7_sign 8 = .ok (.getfield 29, 3) := by decide +kernel
theorem dX7_sign_11 : decode cX7_sign 11 = .ok (.aload_n 0, 1) := by decide +kernel
theorem dX7_sign_12 : decode cX7_sign 12 = .ok (.getfield 25, 3) := by decide +kernel
theorem dX7_sign_15 : decode cX7_sign 15 = .ok (.if_icmp .ge 15, 3) := by decide +kernel
theorem dX7_sign_18 : decode cX7_sign 18 = .ok (.aload_n 0, 1) := by decide +kernel
theorem dX7_sign_19 : decode cX7_sign 19 = .ok (.getfield 9, 3) := by decide +kernel
theorem dX7_sign_22 : decode cX7_sign 22 = .ok (.aload_n 0, 1) := by decide +kernel
theorem dX7_sign_23 : decode cX7_sign 23 = .ok (.getfield 29, 3) := by decide +kernel
theorem dX7_sign_26 : decode cX7_sign 26 = .ok (.iaload, 1) := by decide +kernel
theorem dX7_sign_27 : decode cX7_sign 27 = .ok (.goto 4, 3) := by decide +kernel
theorem dX7_sign_30 : decode cX7_sign 30 = .ok (.iconst (-1), 1) := by decide +kernel
theorem dX7_sign_31 : decode cX7_sign 31 = .ok (.ireturn, 1) := by decide +kernel
theorem dX7_isDigit_0 : decode cX7_isDigit 0 = .ok (.iload_n 0, 1) := by decide +kernel
theorem dX7_isDigit_1 : decode cX7_isDigit 1 = .ok (.bipush 48, 2) := by decide +kernel
theorem dX7_isDigit_3 : decode cX7_isDigit 3 = .ok (.if_icmp .lt 13, 3) := by decide +kernel
theorem dX7_isDigit_6 : decode cX7_isDigit 6 = .ok (.iload_n 0, 1) := by decide +kernel
theorem dX7_isDigit_7 : decode cX7_isDigit 7 = .ok (.bipush 57, 2) := by decide +kernel
theorem dX7_isDigit_9 : decode cX7_isDigit 9 = .ok (.if_icmp .gt 7, 3) := by decide +kernel
theorem dX7_isDigit_12 : decode cX7_isDigit 12 = .ok (.iconst 1, 1) := by decide +kernel
theorem dX7_isDigit_13 : decode cX7_isDigit 13 = .ok (.goto 4, 3) := by decide +kernel
theorem dX7_isDigit_16 : decode cX7_isDigit 16 = .ok (.iconst 0, 1) := by decide +kernel
theorem dX7_isDigit_17 : decode cX7_isDigit 17 = .ok (.ireturn, 1) := by decide +kernel
theorem dX7_fail_0 : decode cX7_fail 0 = .ok (.aload_n 0, 1) := by decide +kernel
theorem dX7_fail_1 : decode cX7_fail 1 = .ok (.getfield 32, 3) := by decide +kernel
theorem dX7_fail_4 : decode cX7_fail 4 = .ok (.iconst (-1), 1) := by decide +kernel
theorem dX7_fail_5 : decode cX7_fail 5 = .ok (.if_icmp .ne 8, 3) := by decide +kernel
theorem dX7_fail_8 : decode cX7_fail 8 = .ok (.aload_n 0, 1) := by decide +kernel
theorem dX7_fail_9 : decode cX7_fail 9 = .ok (.iload_n 1, 1) := by decide +kernel
theorem dX7_fail_10 : decode cX7_fail 10 = .ok (.putfield 32, 3) := by decide +kernel
theorem dX7_fail_13 : decode cX7_fail 13 = .ok (.return_, 1) := by decide +kernel
theorem dX7_skip_0 : decode cX7_skip 0 = .ok (.aload_n 0, 1) := by decide +kernel
theorem dX7_skip_1 : decode cX7_skip 1 = .ok (.getfield 32, 3) := by decide +kernel
theorem dX7_skip_4 : decode cX7_skip 4 = .ok (.iconst (-1), 1) := by decide +kernel
theorem dX7_skip_5 : decode cX7_skip 5 = .ok (.if_icmp .ne 11, 3) := by decide +kernel
theorem dX7_skip_8 : decode cX7_skip 8 = .ok (.aload_n 0, 1) := by decide +kernel
theorem dX7_skip_9 : decode cX7_skip 9 = .ok (.invokevirtual 35, 3) := by decide +kernel
theorem dX7_skip_12 : decode cX7_skip 12 = .ok (.iload_n 1, 1) := by decide +kernel
theorem dX7_skip_13 : decode cX7_skip 13 = .ok (.if_icmp .eq 5, 3) := by decide +kernel
theorem dX7_skip_16 : decode cX7_skip 16 = .ok (.iconst 0, 1) := by decide +kernel
theorem dX7_skip_17 : decode cX7_skip 17 = .ok (.ireturn, 1) := by decide +kernel
theorem dX7_skip_18 : decode cX7_skip 18 = .ok (.aload_n 0, 1) := by decide +kernel
theorem dX7_skip_19 : decode cX7_skip 19 = .ok (.dup, 1) := by decide +kernel
theorem dX7_skip_20 : decode cX7_skip 20 = .ok (.getfield 29, 3) := by decide +kernel
theorem dX7_skip_23 : decode cX7_skip 23 = .ok (.iconst 1, 1) := by decide +kernel
theorem dX7_skip_24 : decode cX7_skip 24 = .ok (.iadd, 1) := by decide +kernel
theorem dX7_skip_25 : decode cX7_skip 25 = .ok (.putfield 29, 3) := by decide +kernel
theorem dX7_skip_28 : decode cX7_skip 28 = .ok (.iconst 1, 1) := by decide +kernel
theorem dX7_skip_29 : decode cX7_skip 29 = .ok (.ireturn, 1) := by decide +kernel
theorem dX7_number_0 : decode cX7_number 0 = .ok (.aload_n 0, 1) := by decide +kernel
theorem dX7_number_1 : decode cX7_number 1 = .ok (.invokevirtual 35, 3) := by decide +kernel
theorem dX7_number_4 : decode cX7_number 4 = .ok (.invokestatic 39, 3) := by decide +kernel
theorem dX7_number_7 : decode cX7_number 7 = .ok (.ifCond .ne 11, 3) := by decide +kernel
theorem dX7_number_10 : decode cX7_number 10 = .ok (.aload_n 0, 1) := by decide +kernel
theorem dX7_number_11 : decode cX7_number 11 = .ok (.aload_n 0, 1) := by decide +kernel
theorem dX7_number_12 : decode cX7_number 12 = .ok (.getfield 29, 3) := by decide +kernel
theorem dX7_number_15 : decode cX7_number 15 = .ok (.invokevirtual 43, 3) := by decide +kernel
theorem dX7_number_18 : decode cX7_number 18 = .ok (.iconst 0, 1) := by decide +kernel
theorem dX7_number_19 : decode cX7_number 19 = .ok (.istore_n 2, 1) := by decide +kernel
theorem dX7_number_20 : decode cX7_number 20 = .ok (.iconst 0, 1) := by decide +kernel
theorem dX7_number_21 : decode cX7_number 21 = .ok (.istore_n 3, 1) := by decide +kernel
theorem dX7_number_22 : decode cX7_number 22 = .ok (.iload_n 3, 1) := by decide +kernel
theorem dX7_number_23 : decode cX7_number 23 = .ok (.iload_n 1, 1) := by decide +kernel
theorem dX7_number_24 : decode cX7_number 24 = .ok (.if_icmp .ge 44, 3) := by decide +kernel
theorem dX7_number_27 : decode cX7_number 27 = .ok (.aload_n 0, 1) := by decide +kernel
theorem dX7_number_28 : decode cX7_number 28 = .ok (.invokevirtual 35, 3) := by decide +kernel
theorem dX7_number_31 : decode cX7_number 31 = .ok (.invokestatic 39, 3) := by decide +kernel
theorem dX7_number_34 : decode cX7_number 34 = .ok (.ifCond .eq 34, 3) := by decide +kernel
theorem dX7_number_37 : decode cX7_number 37 = .ok (.iload_n 2, 1) := by decide +kernel
theorem dX7_number_38 : decode cX7_number 38 = .ok (.bipush 10, 2) := by decide +kernel
theorem dX7_number_40 : decode cX7_number 40 = .ok (.imul, 1) := by decide +kernel
theorem dX7_number_41 : decode cX7_number 41 = .ok (.aload_n 0, 1) := by decide +kernel
theorem dX7_number_42 : decode cX7_number 42 = .ok (.getfield 9, 3) := by decide +kernel
theorem dX7_number_45 : decode cX7_number 45 = .ok (.aload_n 0, 1) := by decide +kernel
theorem dX7_number_46 : decode cX7_number 46 = .ok (.dup, 1) := by decide +kernel
theorem dX7_number_47 : decode cX7_number 47 = .ok (.getfield 29, 3) := by decide +kernel
theorem dX7_number_50 : decode cX7_number 50 = .ok (.dup_x1, 1) := by decide +kernel
theorem dX7_number_51 : decode cX7_number 51 = .ok (.iconst 1, 1) := by decide +kernel
theorem dX7_number_52 : decode cX7_number 52 = .ok (.iadd, 1) := by decide +kernel
theorem dX7_number_53 : decode cX7_number 53 = .ok (.putfield 29, 3) := by decide +kernel
theorem dX7_number_56 : decode cX7_number 56 = .ok (.iaload, 1) := by decide +kernel
theorem dX7_number_57 : decode cX7_number 57 = .ok (.iadd, 1) := by decide +kernel
theorem dX7_number_58 : decode cX7_number 58 = .ok (.bipush 48, 2) := by decide +kernel
theorem dX7_number_60 : decode cX7_number 60 = .ok (.isub, 1) := by decide +kernel
theorem dX7_number_61 : decode cX7_number 61 = .ok (.istore_n 2, 1) := by decide +kernel
theorem dX7_number_62 : decode cX7_number 62 = .ok (.iinc 3 1, 3) := by decide +kernel
theorem dX7_number_65 : decode cX7_number 65 = .ok (.goto (-43), 3) := by decide +kernel
theorem dX7_number_68 : decode cX7_number 68 = .ok (.iload_n 2, 1) := by decide +kernel
theorem dX7_number_69 : decode cX7_number 69 = .ok (.ireturn, 1) := by decide +kernel
theorem dX7_readOrder_0 : decode cX7_readOrder 0 = .ok (.aload_n 0, 1) := by decide +kernel
theorem dX7_readOrder_1 : decode cX7_readOrder 1 = .ok (.invokevirtual 47, 3) := by decide +kernel
theorem dX7_readOrder_4 : decode cX7_readOrder 4 = .ok (.iconst 0, 1) := by decide +kernel
theorem dX7_readOrder_5 : decode cX7_readOrder 5 = .ok (.istore_n 2, 1) := by decide +kernel
theorem dX7_readOrder_6 : decode cX7_readOrder 6 = .ok (.bipush 8, 2) := by decide +kernel
theorem dX7_readOrder_8 : decode cX7_readOrder 8 = .ok (.istore_n 3, 1) := by decide +kernel
theorem dX7_readOrder_9 : decode cX7_readOrder 9 = .ok (.iconst 0, 1) := by decide +kernel
theorem dX7_readOrder_10 : decode cX7_readOrder 10 = .ok (.istore 4, 2) := by decide +kernel
theorem dX7_readOrder_12 : decode cX7_readOrder 12 = .ok (.iload_n 2, 1) := by decide +kernel
theorem dX7_readOrder_13 : decode cX7_readOrder 13 = .ok (.bipush 8, 2) := by decide +kernel
theorem dX7_readOrder_15 : decode cX7_readOrder 15 = .ok (.if_icmp .ge 52, 3) := by decide +kernel
theorem dX7_readOrder_18 : decode cX7_readOrder 18 = .ok (.aload_n 0, 1) := by decide +kernel
theorem dX7_readOrder_19 : decode cX7_readOrder 19 = .ok (.invokevirtual 35, 3) := by decide +kernel
theorem dX7_readOrder_22 : decode cX7_readOrder 22 = .ok (.bipush 48, 2) := by decide +kernel
theorem dX7_readOrder_24 : decode cX7_readOrder 24 = .ok (.if_icmp .lt 43, 3) := by decide +kernel
theorem dX7_readOrder_27 : decode cX7_readOrder 27 = .ok (.aload_n 0, 1) := by decide +kernel
theorem dX7_readOrder_28 : decode cX7_readOrder 28 = .ok (.invokevirtual 35, 3) := by decide +kernel
theorem dX7_readOrder_31 : decode cX7_readOrder 31 = .ok (.bipush 51, 2) := by decide +kernel
theorem dX7_readOrder_33 : decode cX7_readOrder 33 = .ok (.if_icmp .gt 34, 3) := by decide +kernel
theorem dX7_readOrder_36 : decode cX7_readOrder 36 = .ok (.aload_n 0, 1) := by decide +kernel
theorem dX7_readOrder_37 : decode cX7_readOrder 37 = .ok (.getfield 15, 3) := by decide +kernel
theorem dX7_readOrder_40 : decode cX7_readOrder 40 = .ok (.iload_n 2, 1) := by decide +kernel
theorem dX7_readOrder_41 : decode cX7_readOrder 41 = .ok (.iinc 2 1, 3) := by decide +kernel
theorem dX7_readOrder_44 : decode cX7_readOrder 44 = .ok (.aload_n 0, 1) := by decide +kernel
theorem dX7_readOrder_45 : decode cX7_readOrder 45 = .ok (.getfield 9, 3) := by decide +kernel
theorem dX7_readOrder_48 : decode cX7_readOrder 48 = .ok (.aload_n 0, 1) := by decide +kernel
theorem dX7_readOrder_49 : decode cX7_readOrder 49 = .ok (.dup, 1) := by decide +kernel
theorem dX7_readOrder_50 : decode cX7_readOrder 50 = .ok (.getfield 29, 3) := by decide +kernel
theorem dX7_readOrder_53 : decode cX7_readOrder 53 = .ok (.dup_x1, 1) := by decide +kernel
theorem dX7_readOrder_54 : decode cX7_readOrder 54 = .ok (.iconst 1, 1) := by decide +kernel
theorem dX7_readOrder_55 : decode cX7_readOrder 55 = .ok (.iadd, 1) := by decide +kernel
theorem dX7_readOrder_56 : decode cX7_readOrder 56 = .ok (.putfield 29, 3) := by decide +kernel
theorem dX7_readOrder_59 : decode cX7_readOrder 59 = .ok (.iaload, 1) := by decide +kernel
theorem dX7_readOrder_60 : decode cX7_readOrder 60 = .ok (.bipush 48, 2) := by decide +kernel
theorem dX7_readOrder_62 : decode cX7_readOrder 62 = .ok (.isub, 1) := by decide +kernel
theorem dX7_readOrder_63 : decode cX7_readOrder 63 = .ok (.iastore, 1) := by decide +kernel
theorem dX7_readOrder_64 : decode cX7_readOrder 64 = .ok (.goto (-52), 3) := by decide +kernel
theorem dX7_readOrder_67 : decode cX7_readOrder 67 = .ok (.iload_n 2, 1) := by decide +kernel
theorem dX7_readOrder_68 : decode cX7_readOrder 68 = .ok (.ifCond .ne 11, 3) := by decide +kernel
theorem dX7_readOrder_71 : decode cX7_readOrder 71 = .ok (.aload_n 0, 1) := by decide +kernel
theorem dX7_readOrder_72 : decode cX7_readOrder 72 = .ok (.aload_n 0, 1) := by decide +kernel
theorem dX7_readOrder_73 : decode cX7_readOrder 73 = .ok (.getfield 29, 3) := by decide +kernel
theorem dX7_readOrder_76 : decode cX7_readOrder 76 = .ok (.invokevirtual 43, 3) := by decide +kernel
theorem dX7_readOrder_79 : decode cX7_readOrder 79 = .ok (.aload_n 0, 1) := by decide +kernel
theorem dX7_readOrder_80 : decode cX7_readOrder 80 = .ok (.bipush 58, 2) := by decide +kernel
theorem dX7_readOrder_82 : decode cX7_readOrder 82 = .ok (.invokevirtual 50, 3) := by decide +kernel
theorem dX7_readOrder_85 : decode cX7_readOrder 85 = .ok (.ifCond .eq 32, 3) := by decide +kernel
theorem dX7_readOrder_88 : decode cX7_readOrder 88 = .ok (.aload_n 0, 1) := by decide +kernel
theorem dX7_readOrder_89 : decode cX7_readOrder 89 = .ok (.getfield 29, 3) := by decide +kernel
theorem dX7_readOrder_92 : decode cX7_readOrder 92 = .ok (.istore 5, 2) := by decide +kernel
theorem dX7_readOrder_94 : decode cX7_readOrder 94 = .ok (.aload_n 0, 1) := by decide +kernel
theorem dX7_readOrder_95 : decode cX7_readOrder 95 = .ok (.iconst 2, 1) := by decide +kernel
theorem dX7_readOrder_96 : decode cX7_readOrder 96 = .ok (.invokevirtual 53, 3) := by decide +kernel
theorem dX7_readOrder_99 : decode cX7_readOrder 99 = .ok (.istore_n 3, 1) := by decide +kernel
theorem dX7_readOrder_100 : decode cX7_readOrder 100 = .ok (.iload_n 3, 1) := by decide +kernel
theorem dX7_readOrder_101 : decode cX7_readOrder 101 = .ok (.iconst 1, 1) := by decide +kernel
theorem dX7_readOrder_102 : decode cX7_readOrder 102 = .ok (.if_icmp .lt 9, 3) := by decide +kernel
theorem dX7_readOrder_105 : decode cX7_readOrder 105 = .ok (.iload_n 3, 1) := by decide +kernel
theorem dX7_readOrder_106 : decode cX7_readOrder 106 = .ok (.bipush 12, 2) := by decide +kernel
theorem dX7_readOrder_108 : decode cX7_readOrder 108 = .ok (.if_icmp .le 9, 3) := by decide +kernel
theorem dX7_readOrder_111 : decode cX7_readOrder 111 = .ok (.aload_n 0, 1) := by decide +kernel
theorem dX7_readOrder_112 : decode cX7_readOrder 112 = .ok (.iload 5, 2) := by decide +kernel
theorem dX7_readOrder_114 : decode cX7_readOrder 114 = .ok (.invokevirtual 43, 3) := by decide +kernel
theorem dX7_readOrder_117 : decode cX7_readOrder 117 = .ok (.aload_n 0, 1) := by decide +kernel
theorem dX7_readOrder_118 : decode cX7_readOrder 118 = .ok (.bipush 114, 2) := by decide +kernel
theorem dX7_readOrder_120 : decode cX7_readOrder 120 = .ok (.invokevirtual 50, 3) := by decide +kernel
theorem dX7_readOrder_123 : decode cX7_readOrder 123 = .ok (.ifCond .eq 10, 3) := by decide +kernel
theorem dX7_readOrder_126 : decode cX7_readOrder 126 = .ok (.aload_n 0, 1) := by decide +kernel
theorem dX7_readOrder_127 : decode cX7_readOrder 127 = .ok (.iconst 3, 1) := by decide +kernel
theorem dX7_readOrder_128 : decode cX7_readOrder 128 = .ok (.invokevirtual 53, 3) := by decide +kernel
theorem dX7_readOrder_131 : decode cX7_readOrder 131 = .ok (.istore 4, 2) := by decide +kernel
theorem dX7_readOrder_133 : decode cX7_readOrder 133 = .ok (.aload_n 0, 1) := by decide +kernel
theorem dX7_readOrder_134 : decode cX7_readOrder 134 = .ok (.invokevirtual 57, 3) := by decide +kernel
theorem dX7_readOrder_137 : decode cX7_readOrder 137 = .ok (.istore 5, 2) := by decide +kernel
theorem dX7_readOrder_139 : decode cX7_readOrder 139 = .ok (.iload 5, 2) := by decide +kernel
theorem dX7_readOrder_141 : decode cX7_readOrder 141 = .ok (.iconst (-1), 1) := by decide +kernel
theorem dX7_readOrder_142 : decode cX7_readOrder 142 = .ok (.if_icmp .eq 6, 3) := by decide +kernel
theorem dX7_readOrder_145 : decode cX7_readOrder 145 = .ok (.iload 5, 2) := by decide +kernel
theorem dX7_readOrder_147 : decode cX7_readOrder 147 = .ok (.ireturn, 1) := by decide +kernel
theorem dX7_readOrder_148 : decode cX7_readOrder 148 = .ok (.aload_n 1, 1) := by decide +kernel
theorem dX7_readOrder_149 : decode cX7_readOrder 149 = .ok (.iload_n 2, 1) := by decide +kernel
theorem dX7_readOrder_150 : decode cX7_readOrder 150 = .ok (.putfield 60, 3) := by decide +kernel
theorem dX7_readOrder_153 : decode cX7_readOrder 153 = .ok (.aload_n 1, 1) := by decide +kernel
theorem dX7_readOrder_154 : decode cX7_readOrder 154 = .ok (.iload_n 3, 1) := by decide +kernel
theorem dX7_readOrder_155 : decode cX7_readOrder 155 = .ok (.putfield 61, 3) := by decide +kernel
theorem dX7_readOrder_158 : decode cX7_readOrder 158 = .ok (.aload_n 1, 1) := by decide +kernel
theorem dX7_readOrder_159 : decode cX7_readOrder 159 = .ok (.iload 4, 2) := by decide +kernel
theorem dX7_readOrder_161 : decode cX7_readOrder 161 = .ok (.putfield 64, 3) := by decide +kernel
theorem dX7_readOrder_164 : decode cX7_readOrder 164 = .ok (.aload_n 0, 1) := by decide +kernel
theorem dX7_readOrder_165 : decode cX7_readOrder 165 = .ok (.getfield 15, 3) := by decide +kernel
theorem dX7_readOrder_168 : decode cX7_readOrder 168 = .ok (.iconst 0, 1) := by decide +kernel
theorem dX7_readOrder_169 : decode cX7_readOrder 169 = .ok (.aload_n 1, 1) := by decide +kernel
theorem dX7_readOrder_170 : decode cX7_readOrder 170 = .ok (.getfield 67, 3) := by decide +kernel
theorem dX7_readOrder_173 : decode cX7_readOrder 173 = .ok (.iconst 0, 1) := by decide +kernel
theorem dX7_readOrder_174 : decode cX7_readOrder 174 = .ok (.iload_n 2, 1) := by decide +kernel
theorem dX7_readOrder_175 : decode cX7_readOrder 175 = .ok (.invokestatic 68, 3) := by decide +kernel
theorem dX7_readOrder_178 : decode cX7_readOrder 178 = .ok (.iconst (-1), 1) := by decide +kernel
theorem dX7_readOrder_179 : decode cX7_readOrder 179 = .ok (.ireturn, 1) := by decide +kernel
theorem dX7_readText_0 : decode cX7_readText 0 = .ok (.aload_n 0, 1) := by decide +kernel
theorem dX7_readText_1 : decode cX7_readText 1 = .ok (.invokevirtual 47, 3) := by decide +kernel
theorem dX7_readText_4 : decode cX7_readText 4 = .ok (.aload_n 0, 1) := by decide +kernel
theorem dX7_readText_5 : decode cX7_readText 5 = .ok (.getfield 21, 3) := by decide +kernel
theorem dX7_readText_8 : decode cX7_readText 8 = .ok (.invokevirtual 74, 3) := by decide +kernel
theorem dX7_readText_11 : decode cX7_readText 11 = .ok (.aload_n 0, 1) := by decide +kernel
theorem dX7_readText_12 : decode cX7_readText 12 = .ok (.invokevirtual 75, 3) := by decide +kernel
theorem dX7_readText_15 : decode cX7_readText 15 = .ok (.iconst 0, 1) := by decide +kernel
theorem dX7_readText_16 : decode cX7_readText 16 = .ok (.istore_n 2, 1) := by decide +kernel
theorem dX7_readText_17 : decode cX7_readText 17 = .ok (.iload_n 2, 1) := by decide +kernel
theorem dX7_readText_18 : decode cX7_readText 18 = .ok (.bipush 80, 2) := by decide +kernel
theorem dX7_readText_20 : decode cX7_readText 20 = .ok (.if_icmp .ge 22, 3) := by decide +kernel
theorem dX7_readText_23 : decode cX7_readText 23 = .ok (.aload_n 0, 1) := by decide +kernel
theorem dX7_readText_24 : decode cX7_readText 24 = .ok (.bipush 59, 2) := by decide +kernel
theorem dX7_readText_26 : decode cX7_readText 26 = .ok (.invokevirtual 50, 3) := by decide +kernel
theorem dX7_readText_29 : decode cX7_readText 29 = .ok (.ifCond .eq 13, 3) := by decide +kernel
theorem dX7_readText_32 : decode cX7_readText 32 = .ok (.aload_n 0, 1) := by decide +kernel
theorem dX7_readText_33 : decode cX7_readText 33 = .ok (.invokevirtual 75, 3) := by decide +kernel
theorem dX7_readText_36 : decode cX7_readText 36 = .ok (.iinc 2 1, 3) := by decide +kernel
theorem dX7_readText_39 : decode cX7_readText 39 = .ok (.goto (-22), 3) := by decide +kernel
theorem dX7_readText_42 : decode cX7_readText 42 = .ok (.aload_n 0, 1) := by decide +kernel
theorem dX7_readText_43 : decode cX7_readText 43 = .ok (.invokevirtual 57, 3) := by decide +kernel
theorem dX7_readText_46 : decode cX7_readText 46 = .ok (.istore_n 2, 1) := by decide +kernel
theorem dX7_readText_47 : decode cX7_readText 47 = .ok (.iload_n 2, 1) := by decide +kernel
theorem dX7_readText_48 : decode cX7_readText 48 = .ok (.iconst (-1), 1) := by decide +kernel
theorem dX7_readText_49 : decode cX7_readText 49 = .ok (.if_icmp .ne 11, 3) := by decide +kernel
theorem dX7_readText_52 : decode cX7_readText 52 = .ok (.aload_n 1, 1) := by decide +kernel
theorem dX7_readText_53 : decode cX7_readText 53 = .ok (.aload_n 0, 1) := by decide +kernel
theorem dX7_readText_54 : decode cX7_readText 54 = .ok (.getfield 21, 3) := by decide +kernel
theorem dX7_readText_57 : decode cX7_readText 57 = .ok (.invokevirtual 78, 3) := by decide +kernel
theorem dX7_readText_60 : decode cX7_readText 60 = .ok (.iload_n 2, 1) := by decide +kernel
theorem dX7_readText_61 : decode cX7_readText 61 = .ok (.ireturn, 1) := by decide +kernel
theorem dX7_readLine_0 : decode cX7_readLine 0 = .ok (.aload_n 0, 1) := by decide +kernel
theorem dX7_readLine_1 : decode cX7_readLine 1 = .ok (.iconst 0, 1) := by decide +kernel
theorem dX7_readLine_2 : decode cX7_readLine 2 = .ok (.iconst 0, 1) := by decide +kernel
theorem dX7_readLine_3 : decode cX7_readLine 3 = .ok (.invokevirtual 82, 3) := by decide +kernel
theorem dX7_readLine_6 : decode cX7_readLine 6 = .ok (.iconst (-1), 1) := by decide +kernel
theorem dX7_readLine_7 : decode cX7_readLine 7 = .ok (.istore_n 1, 1) := by decide +kernel
theorem dX7_readLine_8 : decode cX7_readLine 8 = .ok (.aload_n 0, 1) := by decide +kernel
theorem dX7_readLine_9 : decode cX7_readLine 9 = .ok (.bipush 63, 2) := by decide +kernel
theorem dX7_readLine_11 : decode cX7_readLine 11 = .ok (.invokevirtual 50, 3) := by decide +kernel
theorem dX7_readLine_14 : decode cX7_readLine 14 = .ok (.ifCond .eq 35, 3) := by decide +kernel
theorem dX7_readLine_17 : decode cX7_readLine 17 = .ok (.aload_n 0, 1) := by decide +kernel
theorem dX7_readLine_18 : decode cX7_readLine 18 = .ok (.getfield 21, 3) := by decide +kernel
theorem dX7_readLine_21 : decode cX7_readLine 21 = .ok (.sipush 20063, 3) := by decide +kernel
theorem dX7_readLine_24 : decode cX7_readLine 24 = .ok (.invokevirtual 86, 3) := by decide +kernel
theorem dX7_readLine_27 : decode cX7_readLine 27 = .ok (.aload_n 0, 1) := by decide +kernel
theorem dX7_readLine_28 : decode cX7_readLine 28 = .ok (.getfield 21, 3) := by decide +kernel
theorem dX7_readLine_31 : decode cX7_readLine 31 = .ok (.getfield 89, 3) := by decide +kernel
theorem dX7_readLine_34 : decode cX7_readLine 34 = .ok (.istore_n 1, 1) := by decide +kernel
theorem dX7_readLine_35 : decode cX7_readLine 35 = .ok (.aload_n 0, 1) := by decide +kernel
theorem dX7_readLine_36 : decode cX7_readLine 36 = .ok (.getfield 21, 3) := by decide +kernel
theorem dX7_readLine_39 : decode cX7_readLine 39 = .ok (.iconst 0, 1) := by decide +kernel
theorem dX7_readLine_40 : decode cX7_readLine 40 = .ok (.invokevirtual 86, 3) := by decide +kernel
theorem dX7_readLine_43 : decode cX7_readLine 43 = .ok (.aload_n 0, 1) := by decide +kernel
theorem dX7_readLine_44 : decode cX7_readLine 44 = .ok (.iconst 0, 1) := by decide +kernel
theorem dX7_readLine_45 : decode cX7_readLine 45 = .ok (.iconst 0, 1) := by decide +kernel
theorem dX7_readLine_46 : decode cX7_readLine 46 = .ok (.invokevirtual 82, 3) := by decide +kernel
theorem dX7_readLine_49 : decode cX7_readLine 49 = .ok (.aload_n 0, 1) := by decide +kernel
theorem dX7_readLine_50 : decode cX7_readLine 50 = .ok (.getfield 21, 3) := by decide +kernel
theorem dX7_readLine_53 : decode cX7_readLine 53 = .ok (.sipush 20059, 3) := by decide +kernel
theorem dX7_readLine_56 : decode cX7_readLine 56 = .ok (.invokevirtual 86, 3) := by decide +kernel
theorem dX7_readLine_59 : decode cX7_readLine 59 = .ok (.iload_n 1, 1) := by decide +kernel
theorem dX7_readLine_60 : decode cX7_readLine 60 = .ok (.ifCond .lt 26, 3) := by decide +kernel
theorem dX7_readLine_63 : decode cX7_readLine 63 = .ok (.iload_n 1, 1) := by decide +kernel
theorem dX7_readLine_64 : decode cX7_readLine 64 = .ok (.sipush 160, 3) := by decide +kernel
theorem dX7_readLine_67 : decode cX7_readLine 67 = .ok (.if_icmp .ge 19, 3) := by decide +kernel
theorem dX7_readLine_70 : decode cX7_readLine 70 = .ok (.aload_n 0, 1) := by decide +kernel
theorem dX7_readLine_71 : decode cX7_readLine 71 = .ok (.getfield 21, 3) := by decide +kernel
theorem dX7_readLine_74 : decode cX7_readLine 74 = .ok (.getfield 92, 3) := by decide +kernel
theorem dX7_readLine_77 : decode cX7_readLine 77 = .ok (.iload_n 1, 1) := by decide +kernel
theorem dX7_readLine_78 : decode cX7_readLine 78 = .ok (.aload_n 0, 1) := by decide +kernel
theorem dX7_readLine_79 : decode cX7_readLine 79 = .ok (.getfield 21, 3) := by decide +kernel
theorem dX7_readLine_82 : decode cX7_readLine 82 = .ok (.getfield 89, 3) := by decide +kernel
theorem dX7_readLine_85 : decode cX7_readLine 85 = .ok (.iastore, 1) := by decide +kernel
theorem dX7_readLine_86 : decode cX7_readLine 86 = .ok (.return_, 1) := by decide +kernel
theorem dX7_levelOf_0 : decode cX7_levelOf 0 = .ok (.iload_n 0, 1) := by decide +kernel
theorem dX7_levelOf_1 : decode cX7_levelOf 1 = .ok (.lookupswitch 101 #[(37, 99), (38, 93), (42, 99), (43, 97), (45, 97), (47, 99), (60, 95), (61, 95), (62, 95), (124, 91)], 91) := by decide +kernel
theorem dX7_levelOf_92 : decode cX7_levelOf 92 = .ok (.iconst 0, 1) := by decide +kernel
theorem dX7_levelOf_93 : decode cX7_levelOf 93 = .ok (.ireturn, 1) := by decide +kernel
theorem dX7_levelOf_94 : decode cX7_levelOf 94 = .ok (.iconst 1, 1) := by decide +kernel
theorem dX7_levelOf_95 : decode cX7_levelOf 95 = .ok (.ireturn, 1) := by decide +kernel
theorem dX7_levelOf_96 : decode cX7_levelOf 96 = .ok (.iconst 2, 1) := by decide +kernel
theorem dX7_levelOf_97 : decode cX7_levelOf 97 = .ok (.ireturn, 1) := by decide +kernel
theorem dX7_levelOf_98 : decode cX7_levelOf 98 = .ok (.iconst 3, 1) := by decide +kernel
theorem dX7_levelOf_99 : decode cX7_levelOf 99 = .ok (.ireturn, 1) := by decide +kernel
theorem dX7_levelOf_100 : decode cX7_levelOf 100 = .ok (.iconst 4, 1) := by decide +kernel
theorem dX7_levelOf_101 : decode cX7_levelOf 101 = .ok (.ireturn, 1) := by decide +kernel
theorem dX7_levelOf_102 : decode cX7_levelOf 102 = .ok (.iconst 5, 1) := by decide +kernel
theorem dX7_levelOf_103 : decode cX7_levelOf 103 = .ok (.ireturn, 1) := by decide +kernel
theorem dX7_part_0 : decode cX7_part 0 = .ok (.iload_n 1, 1) := by decide +kernel
theorem dX7_part_1 : decode cX7_part 1 = .ok (.iconst 5, 1) := by decide +kernel
theorem dX7_part_2 : decode cX7_part 2 = .ok (.if_icmp .lt 9, 3) := by decide +kernel
theorem dX7_part_5 : decode cX7_part 5 = .ok (.aload_n 0, 1) := by decide +kernel
theorem dX7_part_6 : decode cX7_part 6 = .ok (.iload_n 2, 1) := by decide +kernel
theorem dX7_part_7 : decode cX7_part 7 = .ok (.invokevirtual 95, 3) := by decide +kernel
theorem dX7_part_10 : decode cX7_part 10 = .ok (.return_, 1) := by decide +kernel
theorem dX7_part_11 : decode cX7_part 11 = .ok (.aload_n 0, 1) := by decide +kernel
theorem dX7_part_12 : decode cX7_part 12 = .ok (.iload_n 1, 1) := by decide +kernel
theorem dX7_part_13 : decode cX7_part 13 = .ok (.iconst 1, 1) := by decide +kernel
theorem dX7_part_14 : decode cX7_part 14 = .ok (.iadd, 1) := by decide +kernel
theorem dX7_part_15 : decode cX7_part 15 = .ok (.iload_n 2, 1) := by decide +kernel
theorem dX7_part_16 : decode cX7_part 16 = .ok (.invokevirtual 82, 3) := by decide +kernel
theorem dX7_part_19 : decode cX7_part 19 = .ok (.iconst 0, 1) := by decide +kernel
theorem dX7_part_20 : decode cX7_part 20 = .ok (.istore_n 3, 1) := by decide +kernel
theorem dX7_part_21 : decode cX7_part 21 = .ok (.iload_n 3, 1) := by decide +kernel
theorem dX7_part_22 : decode cX7_part 22 = .ok (.bipush 80, 2) := by decide +kernel
theorem dX7_part_24 : decode cX7_part 24 = .ok (.if_icmp .ge 71, 3) := by decide +kernel
theorem dX7_part_27 : decode cX7_part 27 = .ok (.aload_n 0, 1) := by decide +kernel
theorem dX7_part_28 : decode cX7_part 28 = .ok (.getfield 32, 3) := by decide +kernel
theorem dX7_part_31 : decode cX7_part 31 = .ok (.iconst (-1), 1) := by decide +kernel
theorem dX7_part_32 : decode cX7_part 32 = .ok (.if_icmp .ne 63, 3) := by decide +kernel
theorem dX7_part_35 : decode cX7_part 35 = .ok (.aload_n 0, 1) := by decide +kernel
theorem dX7_part_36 : decode cX7_part 36 = .ok (.invokevirtual 35, 3) := by decide +kernel
theorem dX7_part_39 : decode cX7_part 39 = .ok (.invokestatic 98, 3) := by decide +kernel
theorem dX7_part_42 : decode cX7_part 42 = .ok (.iload_n 1, 1) := by decide +kernel
theorem dX7_part_43 : decode cX7_part 43 = .ok (.if_icmp .ne 52, 3) := by decide +kernel
theorem dX7_part_46 : decode cX7_part 46 = .ok (.aload_n 0, 1) := by decide +kernel
theorem dX7_part_47 : decode cX7_part 47 = .ok (.invokevirtual 35, 3) := by decide +kernel
theorem dX7_part_50 : decode cX7_part 50 = .ok (.istore 4, 2) := by decide +kernel
theorem dX7_part_52 : decode cX7_part 52 = .ok (.aload_n 0, 1) := by decide +kernel
theorem dX7_part_53 : decode cX7_part 53 = .ok (.dup, 1) := by decide +kernel
theorem dX7_part_54 : decode cX7_part 54 = .ok (.getfield 29, 3) := by decide +kernel
theorem dX7_part_57 : decode cX7_part 57 = .ok (.iconst 1, 1) := by decide +kernel
theorem dX7_part_58 : decode cX7_part 58 = .ok (.iadd, 1) := by decide +kernel
theorem dX7_part_59 : decode cX7_part 59 = .ok (.putfield 29, 3) := by decide +kernel
theorem dX7_part_62 : decode cX7_part 62 = .ok (.aload_n 0, 1) := by decide +kernel
theorem dX7_part_63 : decode cX7_part 63 = .ok (.iload_n 1, 1) := by decide +kernel
theorem dX7_part_64 : decode cX7_part 64 = .ok (.iconst 1, 1) := by decide +kernel
theorem dX7_part_65 : decode cX7_part 65 = .ok (.iadd, 1) := by decide +kernel
theorem dX7_part_66 : decode cX7_part 66 = .ok (.iload_n 2, 1) := by decide +kernel
theorem dX7_part_67 : decode cX7_part 67 = .ok (.invokevirtual 82, 3) := by decide +kernel
theorem dX7_part_70 : decode cX7_part 70 = .ok (.aload_n 0, 1) := by decide +kernel
theorem dX7_part_71 : decode cX7_part 71 = .ok (.getfield 21, 3) := by decide +kernel
theorem dX7_part_74 : decode cX7_part 74 = .ok (.sipush 20000, 3) := by decide +kernel
theorem dX7_part_77 : decode cX7_part 77 = .ok (.iload 4, 2) := by decide +kernel
theorem dX7_part_79 : decode cX7_part 79 = .ok (.iadd, 1) := by decide +kernel
theorem dX7_part_80 : decode cX7_part 80 = .ok (.invokevirtual 86, 3) := by decide +kernel
theorem dX7_part_83 : decode cX7_part 83 = .ok (.iload_n 1, 1) := by decide +kernel
theorem dX7_part_84 : decode cX7_part 84 = .ok (.iconst 2, 1) := by decide +kernel
theorem dX7_part_85 : decode cX7_part 85 = .ok (.if_icmp .ne 4, 3) := by decide +kernel
theorem dX7_part_88 : decode cX7_part 88 = .ok (.return_, 1) := by decide +kernel
theorem dX7_part_89 : decode cX7_part 89 = .ok (.iinc 3 1, 3) := by decide +kernel
theorem dX7_part_92 : decode cX7_part 92 = .ok (.goto (-71), 3) := by decide +kernel
theorem dX7_part_95 : decode cX7_part 95 = .ok (.return_, 1) := by decide +kernel
theorem dX7_operand_0 : decode cX7_operand 0 = .ok (.aload_n 0, 1) := by decide +kernel
theorem dX7_operand_1 : decode cX7_operand 1 = .ok (.getfield 32, 3) := by decide +kernel
theorem dX7_operand_4 : decode cX7_operand 4 = .ok (.iconst (-1), 1) := by decide +kernel
theorem dX7_operand_5 : decode cX7_operand 5 = .ok (.if_icmp .eq 4, 3) := by decide +kernel
theorem dX7_operand_8 : decode cX7_operand 8 = .ok (.return_, 1) := by decide +kernel
theorem dX7_operand_9 : decode cX7_operand 9 = .ok (.aload_n 0, 1) := by decide +kernel
theorem dX7_operand_10 : decode cX7_operand 10 = .ok (.invokevirtual 35, 3) := by decide +kernel
theorem dX7_operand_13 : decode cX7_operand 13 = .ok (.istore_n 2, 1) := by decide +kernel
theorem dX7_operand_14 : decode cX7_operand 14 = .ok (.iload_n 2, 1) := by decide +kernel
theorem dX7_operand_15 : decode cX7_operand 15 = .ok (.invokestatic 39, 3) := by decide +kernel
theorem dX7_operand_18 : decode cX7_operand 18 = .ok (.ifCond .eq 18, 3) := by decide +kernel
theorem dX7_operand_21 : decode cX7_operand 21 = .ok (.aload_n 0, 1) := by decide +kernel
theorem dX7_operand_22 : decode cX7_operand 22 = .ok (.getfield 21, 3) := by decide +kernel
theorem dX7_operand_25 : decode cX7_operand 25 = .ok (.aload_n 0, 1) := by decide +kernel
theorem dX7_operand_26 : decode cX7_operand 26 = .ok (.iconst 4, 1) := by decide +kernel
theorem dX7_operand_27 : decode cX7_operand 27 = .ok (.invokevirtual 53, 3) := by decide +kernel
theorem dX7_operand_30 : decode cX7_operand 30 = .ok (.invokevirtual 86, 3) := by decide +kernel
theorem dX7_operand_33 : decode cX7_operand 33 = .ok (.goto 158, 3) := by decide +kernel
theorem dX7_operand_36 : decode cX7_operand 36 = .ok (.iload_n 2, 1) := by decide +kernel
theorem dX7_operand_37 : decode cX7_operand 37 = .ok (.invokestatic 101, 3) := by decide +kernel
theorem dX7_operand_40 : decode cX7_operand 40 = .ok (.ifCond .lt 31, 3) := by decide +kernel
theorem dX7_operand_43 : decode cX7_operand 43 = .ok (.aload_n 0, 1) := by decide +kernel
theorem dX7_operand_44 : decode cX7_operand 44 = .ok (.getfield 21, 3) := by decide +kernel
theorem dX7_operand_47 : decode cX7_operand 47 = .ok (.sipush 10000, 3) := by decide +kernel
theorem dX7_operand_50 : decode cX7_operand 50 = .ok (.iload_n 2, 1) := by decide +kernel
theorem dX7_operand_51 : decode cX7_operand 51 = .ok (.invokestatic 101, 3) := by decide +kernel
theorem dX7_operand_54 : decode cX7_operand 54 = .ok (.iadd, 1) := by decide +kernel
theorem dX7_operand_55 : decode cX7_operand 55 = .ok (.invokevirtual 86, 3) := by decide +kernel
theorem dX7_operand_58 : decode cX7_operand 58 = .ok (.aload_n 0, 1) := by decide +kernel
theorem dX7_operand_59 : decode cX7_operand 59 = .ok (.dup, 1) := by decide +kernel
theorem dX7_operand_60 : decode cX7_operand 60 = .ok (.getfield 29, 3) := by decide +kernel
theorem dX7_operand_63 : decode cX7_operand 63 = .ok (.iconst 1, 1) := by decide +kernel
theorem dX7_operand_64 : decode cX7_operand 64 = .ok (.iadd, 1) := by decide +kernel
theorem dX7_operand_65 : decode cX7_operand 65 = .ok (.putfield 29, 3) := by decide +kernel
theorem dX7_operand_68 : decode cX7_operand 68 = .ok (.goto 123, 3) := by decide +kernel
theorem dX7_operand_71 : decode cX7_operand 71 = .ok (.iload_n 1, 1) := by decide +kernel
theorem dX7_operand_72 : decode cX7_operand 72 = .ok (.bipush 6, 2) := by decide +kernel
theorem dX7_operand_74 : decode cX7_operand 74 = .ok (.if_icmp .ge 59, 3) := by decide +kernel
theorem dX7_operand_77 : decode cX7_operand 77 = .ok (.iload_n 2, 1) := by decide +kernel
theorem dX7_operand_78 : decode cX7_operand 78 = .ok (.bipush 33, 2) := by decide +kernel
theorem dX7_operand_80 : decode cX7_operand 80 = .ok (.if_icmp .eq 9, 3) := by decide +kernel
theorem dX7_operand_83 : decode cX7_operand 83 = .ok (.iload_n 2, 1) := by decide +kernel
theorem dX7_operand_84 : decode cX7_operand 84 = .ok (.bipush 45, 2) := by decide +kernel
theorem dX7_operand_86 : decode cX7_operand 86 = .ok (.if_icmp .ne 47, 3) := by decide +kernel
theorem dX7_operand_89 : decode cX7_operand 89 = .ok (.aload_n 0, 1) := by decide +kernel
theorem dX7_operand_90 : decode cX7_operand 90 = .ok (.dup, 1) := by decide +kernel
theorem dX7_operand_91 : decode cX7_operand 91 = .ok (.getfield 29, 3) := by decide +kernel
theorem dX7_operand_94 : decode cX7_operand 94 = .ok (.iconst 1, 1) := by decide +kernel
theorem dX7_operand_95 : decode cX7_operand 95 = .ok (.iadd, 1) := by decide +kernel
theorem dX7_operand_96 : decode cX7_operand 96 = .ok (.putfield 29, 3) := by decide +kernel
theorem dX7_operand_99 : decode cX7_operand 99 = .ok (.aload_n 0, 1) := by decide +kernel
theorem dX7_operand_100 : decode cX7_operand 100 = .ok (.iload_n 1, 1) := by decide +kernel
theorem dX7_operand_101 : decode cX7_operand 101 = .ok (.iconst 1, 1) := by decide +kernel
theorem dX7_operand_102 : decode cX7_operand 102 = .ok (.iadd, 1) := by decide +kernel
theorem dX7_operand_103 : decode cX7_operand 103 = .ok (.invokevirtual 95, 3) := by decide +kernel
theorem dX7_operand_106 : decode cX7_operand 106 = .ok (.aload_n 0, 1) := by decide +kernel
theorem dX7_operand_107 : decode cX7_operand 107 = .ok (.getfield 21, 3) := by decide +kernel
theorem dX7_operand_110 : decode cX7_operand 110 = .ok (.sipush 20000, 3) := by decide +kernel
theorem dX7_operand_113 : decode cX7_operand 113 = .ok (.iload_n 2, 1) := by decide +kernel
theorem dX7_operand_114 : decode cX7_operand 114 = .ok (.bipush 33, 2) := by decide +kernel
theorem dX7_operand_116 : decode cX7_operand 116 = .ok (.if_icmp .ne 8, 3) := by decide +kernel
theorem dX7_operand_119 : decode cX7_operand 119 = .ok (.bipush 33, 2) := by decide +kernel
theorem dX7_operand_121 : decode cX7_operand 121 = .ok (.goto 5, 3) := by decide +kernel
theorem dX7_operand_124 : decode cX7_operand 124 = .ok (.bipush 126, 2) := by decide +kernel
theorem dX7_operand_126 : decode cX7_operand 126 = .ok (.iadd, 1) := by decide +kernel
theorem dX7_operand_127 : decode cX7_operand 127 = .ok (.invokevirtual 86, 3) := by decide +kernel
theorem dX7_operand_130 : decode cX7_operand 130 = .ok (.goto 61, 3) := by decide +kernel
theorem dX7_operand_133 : decode cX7_operand 133 = .ok (.iload_n 1, 1) := by decide +kernel
theorem dX7_operand_134 : decode cX7_operand 134 = .ok (.bipush 6, 2) := by decide +kernel
theorem dX7_operand_136 : decode cX7_operand 136 = .ok (.if_icmp .ge 47, 3) := by decide +kernel
theorem dX7_operand_139 : decode cX7_operand 139 = .ok (.iload_n 2, 1) := by decide +kernel
theorem dX7_operand_140 : decode cX7_operand 140 = .ok (.bipush 40, 2) := by decide +kernel
theorem dX7_operand_142 : decode cX7_operand 142 = .ok (.if_icmp .ne 41, 3) := by decide +kernel
theorem dX7_operand_145 : decode cX7_operand 145 = .ok (.aload_n 0, 1) := by decide +kernel
theorem dX7_operand_146 : decode cX7_operand 146 = .ok (.dup, 1) := by decide +kernel
theorem dX7_operand_147 : decode cX7_operand 147 = .ok (.getfield 29, 3) := by decide +kernel
theorem dX7_operand_150 : decode cX7_operand 150 = .ok (.iconst 1, 1) := by decide +kernel
theorem dX7_operand_151 : decode cX7_operand 151 = .ok (.iadd, 1) := by decide +kernel
theorem dX7_operand_152 : decode cX7_operand 152 = .ok (.putfield 29, 3) := by decide +kernel
theorem dX7_operand_155 : decode cX7_operand 155 = .ok (.aload_n 0, 1) := by decide +kernel
theorem dX7_operand_156 : decode cX7_operand 156 = .ok (.iconst 0, 1) := by decide +kernel
theorem dX7_operand_157 : decode cX7_operand 157 = .ok (.iload_n 1, 1) := by decide +kernel
theorem dX7_operand_158 : decode cX7_operand 158 = .ok (.iconst 1, 1) := by decide +kernel
theorem dX7_operand_159 : decode cX7_operand 159 = .ok (.iadd, 1) := by decide +kernel
theorem dX7_operand_160 : decode cX7_operand 160 = .ok (.invokevirtual 82, 3) := by decide +kernel
theorem dX7_operand_163 : decode cX7_operand 163 = .ok (.aload_n 0, 1) := by decide +kernel
theorem dX7_operand_164 : decode cX7_operand 164 = .ok (.bipush 41, 2) := by decide +kernel
theorem dX7_operand_166 : decode cX7_operand 166 = .ok (.invokevirtual 50, 3) := by decide +kernel
theorem dX7_operand_169 : decode cX7_operand 169 = .ok (.ifCond .ne 22, 3) := by decide +kernel
theorem dX7_operand_172 : decode cX7_operand 172 = .ok (.aload_n 0, 1) := by decide +kernel
theorem dX7_operand_173 : decode cX7_operand 173 = .ok (.aload_n 0, 1) := by decide +kernel
theorem dX7_operand_174 : decode cX7_operand 174 = .ok (.getfield 29, 3) := by decide +kernel
theorem dX7_operand_177 : decode cX7_operand 177 = .ok (.invokevirtual 43, 3) := by decide +kernel
theorem dX7_operand_180 : decode cX7_operand 180 = .ok (.goto 11, 3) := by decide +kernel
theorem dX7_operand_183 : decode cX7_operand 183 = .ok (.aload_n 0, 1) := by decide +kernel
theorem dX7_operand_184 : decode cX7_operand 184 = .ok (.aload_n 0, 1) := by decide +kernel
theorem dX7_operand_185 : decode cX7_operand 185 = .ok (.getfield 29, 3) := by decide +kernel
theorem dX7_operand_188 : decode cX7_operand 188 = .ok (.invokevirtual 43, 3) := by decide +kernel
theorem dX7_operand_191 : decode cX7_operand 191 = .ok (.return_, 1) := by decide +kernel
theorem dX7_nameOf_0 : decode cX7_nameOf 0 = .ok (.iload_n 0, 1) := by decide +kernel
theorem dX7_nameOf_1 : decode cX7_nameOf 1 = .ok (.tableswitch 121 98 119 #[109, 121, 121, 121, 121, 121, 121, 121, 121, 118, 113, 121, 121, 103, 115, 121, 121, 107, 111, 121, 121, 105], 103) := by decide +kernel
theorem dX7_nameOf_104 : decode cX7_nameOf 104 = .ok (.iconst 0, 1) := by decide +kernel
theorem dX7_nameOf_105 : decode cX7_nameOf 105 = .ok (.ireturn, 1) := by decide +kernel
theorem dX7_nameOf_106 : decode cX7_nameOf 106 = .ok (.iconst 1, 1) := by decide +kernel
theorem dX7_nameOf_107 : decode cX7_nameOf 107 = .ok (.ireturn, 1) := by decide +kernel
theorem dX7_nameOf_108 : decode cX7_nameOf 108 = .ok (.iconst 2, 1) := by decide +kernel
theorem dX7_nameOf_109 : decode cX7_nameOf 109 = .ok (.ireturn, 1) := by decide +kernel
theorem dX7_nameOf_110 : decode cX7_nameOf 110 = .ok (.iconst 3, 1) := by decide +kernel
theorem dX7_nameOf_111 : decode cX7_nameOf 111 = .ok (.ireturn, 1) := by decide +kernel
theorem dX7_nameOf_112 : decode cX7_nameOf 112 = .ok (.iconst 4, 1) := by decide +kernel
theorem dX7_nameOf_113 : decode cX7_nameOf 113 = .ok (.ireturn, 1) := by decide +kernel
theorem dX7_nameOf_114 : decode cX7_nameOf 114 = .ok (.iconst 5, 1) := by decide +kernel
theorem dX7_nameOf_115 : decode cX7_nameOf 115 = .ok (.ireturn, 1) := by decide +kernel
theorem dX7_nameOf_116 : decode cX7_nameOf 116 = .ok (.bipush 6, 2) := by decide +kernel
theorem dX7_nameOf_118 : decode cX7_nameOf 118 = .ok (.ireturn, 1) := by decide +kernel
theorem dX7_nameOf_119 : decode cX7_nameOf 119 = .ok (.bipush 7, 2) := by decide +kernel
theorem dX7_nameOf_121 : decode cX7_nameOf 121 = .ok (.ireturn, 1) := by decide +kernel
theorem dX7_nameOf_122 : decode cX7_nameOf 122 = .ok (.iconst (-1), 1) := by decide +kernel
theorem dX7_nameOf_123 : decode cX7_nameOf 123 = .ok (.ireturn, 1) := by decide +kernel
theorem dX8_init_0 : decode cX8_init 0 = .ok (.aload_n 0, 1) := by decide +kernel
theorem dX8_init_1 : decode cX8_init 1 = .ok (.invokespecial 3, 3) := by decide +kernel
theorem dX8_init_4 : decode cX8_init 4 = .ok (.aload_n 0, 1) := by decide +kernel
theorem dX8_init_5 : decode cX8_init 5 = .ok (.bipush 20, 2) := by decide +kernel
theorem dX8_init_7 : decode cX8_init 7 = .ok (.newarray .int, 2) := by decide +kernel
theorem dX8_init_9 : decode cX8_init 9 = .ok (.putfield 11, 3) := by decide +kernel
theorem dX8_init_12 : decode cX8_init 12 = .ok (.aload_n 0, 1) := by decide +kernel
theorem dX8_init_13 : decode cX8_init 13 = .ok (.bipush 20, 2) := by decide +kernel
theorem dX8_init_15 : decode cX8_init 15 = .ok (.newarray .int, 2) := by decide +kernel
theorem dX8_init_17 : decode cX8_init 17 = .ok (.putfield 15, 3) := by decide +kernel
theorem dX8_init_20 : decode cX8_init 20 = .ok (.aload_n 0, 1) := by decide +kernel
theorem dX8_init_21 : decode cX8_init 21 = .ok (.bipush 20, 2) := by decide +kernel
theorem dX8_init_23 : decode cX8_init 23 = .ok (.newarray .int, 2) := by decide +kernel
theorem dX8_init_25 : decode cX8_init 25 = .ok (.putfield 18, 3) := by decide +kernel
theorem dX8_init_28 : decode cX8_init 28 = .ok (.aload_n 0, 1) := by decide +kernel
theorem dX8_init_29 : decode cX8_init 29 = .ok (.bipush 24, 2) := by decide +kernel
theorem dX8_init_31 : decode cX8_init 31 = .ok (.newarray .int, 2) := by decide +kernel
theorem dX8_init_33 : decode cX8_init 33 = .ok (.putfield 21, 3) := by decide +kernel
theorem dX8_init_36 : decode cX8_init 36 = .ok (.return_, 1) := by decide +kernel
theorem dX8_rowIsRight_0 : decode cX8_rowIsRight 0 = .ok (.iload_n 0, 1) := by decide +kernel
theorem dX8_rowIsRight_1 : decode cX8_rowIsRight 1 = .ok (.ifCond .lt 9, 3) := by decide +kernel
theorem dX8_rowIsRight_4 : decode cX8_rowIsRight 4 = .ok (.iload_n 0, 1) := by decide +kernel
theorem dX8_rowIsRight_5 : decode cX8_rowIsRight 5 = .ok (.ldc 24, 2) := by decide +kernel
theorem dX8_rowIsRight_7 : decode cX8_rowIsRight 7 = .ok (.if_icmp .le 5, 3) := by decide +kernel
theorem dX8_rowIsRight_10 : decode cX8_rowIsRight 10 = .ok (.iconst 0, 1) := by decide +kernel
theorem dX8_rowIsRight_11 : decode cX8_rowIsRight 11 = .ok (.ireturn, 1) := by decide +kernel
theorem dX8_rowIsRight_12 : decode cX8_rowIsRight 12 = .ok (.iload_n 0, 1) := by decide +kernel
theorem dX8_rowIsRight_13 : decode cX8_rowIsRight 13 = .ok (.istore_n 1, 1) := by decide +kernel
theorem dX8_rowIsRight_14 : decode cX8_rowIsRight 14 = .ok (.iconst 0, 1) := by decide +kernel
theorem dX8_rowIsRight_15 : decode cX8_rowIsRight 15 = .ok (.istore_n 2, 1) := by decide +kernel
theorem dX8_rowIsRight_16 : decode cX8_rowIsRight 16 = .ok (.iload_n 1, 1) := by decide +kernel
theorem dX8_rowIsRight_17 : decode cX8_rowIsRight 17 = .ok (.ifCond .le 38, 3) := by decide +kernel
theorem dX8_rowIsRight_20 : decode cX8_rowIsRight 20 = .ok (.iload_n 2, 1) := by decide +kernel
theorem dX8_rowIsRight_21 : decode cX8_rowIsRight 21 = .ok (.bipush 8, 2) := by decide +kernel
theorem dX8_rowIsRight_23 : decode cX8_rowIsRight 23 = .ok (.if_icmp .ge 32, 3) := by decide +kernel
theorem dX8_rowIsRight_26 : decode cX8_rowIsRight 26 = .ok (.iload_n 1, 1) := by decide +kernel
theorem dX8_rowIsRight_27 : decode cX8_rowIsRight 27 = .ok (.bipush 10, 2) := by decide +kernel
theorem dX8_rowIsRight_29 : decode cX8_rowIsRight 29 = .ok (.irem, 1) := by decide +kernel
theorem dX8_rowIsRight_30 : decode cX8_rowIsRight 30 = .ok (.iconst 1, 1) := by decide +kernel
theorem dX8_rowIsRight_31 : decode cX8_rowIsRight 31 = .ok (.if_icmp .lt 11, 3) := by decide +kernel
theorem dX8_rowIsRight_34 : decode cX8_rowIsRight 34 = .ok (.iload_n 1, 1) := by decide +kernel
theorem dX8_rowIsRight_35 : decode cX8_rowIsRight 35 = .ok (.bipush 10, 2) := by decide +kernel
theorem dX8_rowIsRight_37 : decode cX8_rowIsRight 37 = .ok (.irem, 1) := by decide +kernel
theorem dX8_rowIsRight_38 : decode cX8_rowIsRight 38 = .ok (.iconst 4, 1) := by decide +kernel
theorem dX8_rowIsRight_39 : decode cX8_rowIsRight 39 = .ok (.if_icmp .le 5, 3) := by decide +kernel
theorem dX8_rowIsRight_42 : decode cX8_rowIsRight 42 = .ok (.iconst 0, 1) := by decide +kernel
theorem dX8_rowIsRight_43 : decode cX8_rowIsRight 43 = .ok (.ireturn, 1) := by decide +kernel
theorem dX8_rowIsRight_44 : decode cX8_rowIsRight 44 = .ok (.iload_n 1, 1) := by decide +kernel
theorem dX8_rowIsRight_45 : decode cX8_rowIsRight 45 = .ok (.bipush 10, 2) := by decide +kernel
theorem dX8_rowIsRight_47 : decode cX8_rowIsRight 47 = .ok (.idiv, 1) := by decide +kernel
theorem dX8_rowIsRight_48 : decode cX8_rowIsRight 48 = .ok (.istore_n 1, 1) := by decide +kernel
theorem dX8_rowIsRight_49 : decode cX8_rowIsRight 49 = .ok (.iinc 2 1, 3) := by decide +kernel
theorem dX8_rowIsRight_52 : decode cX8_rowIsRight 52 = .ok (.goto (-36), 3) := by decide +kernel
theorem dX8_rowIsRight_55 : decode cX8_rowIsRight 55 = .ok (.iconst 1, 1) := by decide +kernel
theorem dX8_rowIsRight_56 : decode cX8_rowIsRight 56 = .ok (.ireturn, 1) := by decide +kernel
theorem dX8_above_0 : decode cX8_above 0 = .ok (.iload_n 0, 1) := by decide +kernel
theorem dX8_above_1 : decode cX8_above 1 = .ok (.ifCond .lt 9, 3) := by decide +kernel
theorem dX8_above_4 : decode cX8_above 4 = .ok (.iload_n 0, 1) := by decide +kernel
theorem dX8_above_5 : decode cX8_above 5 = .ok (.bipush 7, 2) := by decide +kernel
theorem dX8_above_7 : decode cX8_above 7 = .ok (.if_icmp .lt 7, 3) := by decide +kernel
theorem dX8_above_10 : decode cX8_above 10 = .ok (.iconst (-1), 1) := by decide +kernel
theorem dX8_above_11 : decode cX8_above 11 = .ok (.goto 8, 3) := by decide +kernel
theorem dX8_above_14 : decode cX8_above 14 = .ok (.getstatic 25, 3) := by decide +kernel
theorem dX8_above_17 : decode cX8_above 17 = .ok (.iload_n 0, 1) := by decide +kernel
theorem dX8_above_18 : decode cX8_above 18 = .ok (.iaload, 1) := by decide +kernel
theorem dX8_above_19 : decode cX8_above 19 = .ok (.ireturn, 1) := by decide +kernel
theorem dX8_isUnder_0 : decode cX8_isUnder 0 = .ok (.iload_n 0, 1) := by decide +kernel
theorem dX8_isUnder_1 : decode cX8_isUnder 1 = .ok (.istore_n 2, 1) := by decide +kernel
theorem dX8_isUnder_2 : decode cX8_isUnder 2 = .ok (.iconst 0, 1) := by decide +kernel
theorem dX8_isUnder_3 : decode cX8_isUnder 3 = .ok (.istore_n 3, 1) := by decide +kernel
theorem dX8_isUnder_4 : decode cX8_isUnder 4 = .ok (.iload_n 3, 1) := by decide +kernel
theorem dX8_isUnder_5 : decode cX8_isUnder 5 = .ok (.bipush 7, 2) := by decide +kernel
theorem dX8_isUnder_7 : decode cX8_isUnder 7 = .ok (.if_icmp .ge 25, 3) := by decide +kernel
theorem dX8_isUnder_10 : decode cX8_isUnder 10 = .ok (.iload_n 2, 1) := by decide +kernel
theorem dX8_isUnder_11 : decode cX8_isUnder 11 = .ok (.ifCond .lt 21, 3) := by decide +kernel
theorem dX8_isUnder_14 : decode cX8_isUnder 14 = .ok (.iload_n 2, 1) := by decide +kernel
theorem dX8_isUnder_15 : decode cX8_isUnder 15 = .ok (.iload_n 1, 1) := by decide +kernel
theorem dX8_isUnder_16 : decode cX8_isUnder 16 = .ok (.if_icmp .ne 5, 3) := by decide +kernel
theorem dX8_isUnder_19 : decode cX8_isUnder 19 = .ok (.iconst 1, 1) := by decide +kernel
theorem dX8_isUnder_20 : decode cX8_isUnder 20 = .ok (.ireturn, 1) := by decide +kernel
theorem dX8_isUnder_21 : decode cX8_isUnder 21 = .ok (.iload_n 2, 1) := by decide +kernel
theorem dX8_isUnder_22 : decode cX8_isUnder 22 = .ok (.invokestatic 28, 3) := by decide +kernel
theorem dX8_isUnder_25 : decode cX8_isUnder 25 = .ok (.istore_n 2, 1) := by decide +kernel
theorem dX8_isUnder_26 : decode cX8_isUnder 26 = .ok (.iinc 3 1, 3) := by decide +kernel
theorem dX8_isUnder_29 : decode cX8_isUnder 29 = .ok (.goto (-25), 3) := by decide +kernel
theorem dX8_isUnder_32 : decode cX8_isUnder 32 = .ok (.iconst 0, 1) := by decide +kernel
theorem dX8_isUnder_33 : decode cX8_isUnder 33 = .ok (.ireturn, 1) := by decide +kernel
theorem dX8_make_0 : decode cX8_make 0 = .ok (.aload_n 0, 1) := by decide +kernel
theorem dX8_make_1 : decode cX8_make 1 = .ok (.getfield 32, 3) := by decide +kernel
theorem dX8_make_4 : decode cX8_make 4 = .ok (.bipush 20, 2) := by decide +kernel
theorem dX8_make_6 : decode cX8_make 6 = .ok (.if_icmp .lt 6, 3) := by decide +kernel
theorem dX8_make_9 : decode cX8_make 9 = .ok (.bipush (-3), 2) := by decide +kernel
theorem dX8_make_11 : decode cX8_make 11 = .ok (.ireturn, 1) := by decide +kernel
theorem dX8_make_12 : decode cX8_make 12 = .ok (.aload_n 0, 1) := by decide +kernel
theorem dX8_make_13 : decode cX8_make 13 = .ok (.getfield 11, 3) := by decide +kernel
theorem dX8_make_16 : decode cX8_make 16 = .ok (.aload_n 0, 1) := by decide +kernel
theorem dX8_make_17 : decode cX8_make 17 = .ok (.getfield 32, 3) := by decide +kernel
theorem dX8_make_20 : decode cX8_make 20 = .ok (.iload_n 1, 1) := by decide +kernel
theorem dX8_make_21 : decode cX8_make 21 = .ok (.iastore, 1) := by decide +kernel
theorem dX8_make_22 : decode cX8_make 22 = .ok (.aload_n 0, 1) := by decide +kernel
theorem dX8_make_23 : decode cX8_make 23 = .ok (.getfield 15, 3) := by decide +kernel
theorem dX8_make_26 : decode cX8_make 26 = .ok (.aload_n 0, 1) := by decide +kernel
theorem dX8_make_27 : decode cX8_make 27 = .ok (.getfield 32, 3) := by decide +kernel
theorem dX8_make_30 : decode cX8_make 30 = .ok (.iload_n 2, 1) := by decide +kernel
theorem dX8_make_31 : decode cX8_make 31 = .ok (.iastore, 1) := by decide +kernel
theorem dX8_make_32 : decode cX8_make 32 = .ok (.aload_n 0, 1) := by decide +kernel
theorem dX8_make_33 : decode cX8_make 33 = .ok (.getfield 18, 3) := by decide +kernel
theorem dX8_make_36 : decode cX8_make 36 = .ok (.aload_n 0, 1) := by decide +kernel
theorem dX8_make_37 : decode cX8_make 37 = .ok (.getfield 32, 3) := by decide +kernel
theorem dX8_make_40 : decode cX8_make 40 = .ok (.iload_n 3, 1) := by decide +kernel
theorem dX8_make_41 : decode cX8_make 41 = .ok (.iastore, 1) := by decide +kernel
theorem dX8_make_42 : decode cX8_make 42 = .ok (.aload_n 0, 1) := by decide +kernel
theorem dX8_make_43 : decode cX8_make 43 = .ok (.dup, 1) := by decide +kernel
theorem dX8_make_44 : decode cX8_make 44 = .ok (.getfield 32, 3) := by decide +kernel
theorem dX8_make_47 : decode cX8_make 47 = .ok (.dup_x1, 1) := by decide +kernel
theorem dX8_make_48 : decode cX8_make 48 = .ok (.iconst 1, 1) := by decide +kernel
theorem dX8_make_49 : decode cX8_make 49 = .ok (.iadd, 1) := by decide +kernel
theorem dX8_make_50 : decode cX8_make 50 = .ok (.putfield 32, 3) := by decide +kernel
theorem dX8_make_53 : decode cX8_make 53 = .ok (.ireturn, 1) := by decide +kernel
theorem dX8_kindOf_0 : decode cX8_kindOf 0 = .ok (.iload_n 1, 1) := by decide +kernel
theorem dX8_kindOf_1 : decode cX8_kindOf 1 = .ok (.ifCond .lt 11, 3) := by decide +kernel
theorem dX8_kindOf_4 : decode cX8_kindOf 4 = .ok (.iload_n 1, 1) := by decide +kernel
theorem dX8_kindOf_5 : decode cX8_kindOf 5 = .ok (.aload_n 0, 1) := by decide +kernel
theorem dX8_kindOf_6 : decode cX8_kindOf 6 = .ok (.getfield 32, 3) := by decide +kernel
theorem dX8_kindOf_9 : decode cX8_kindOf 9 = .ok (.if_icmp .lt 7, 3) := by decide +kernel
theorem dX8_kindOf_12 : decode cX8_kindOf 12 = .ok (.iconst 0, 1) := by decide +kernel
theorem dX8_kindOf_13 : decode cX8_kindOf 13 = .ok (.goto 9, 3) := by decide +kernel
theorem dX8_kindOf_16 : decode cX8_kindOf 16 = .ok (.aload_n 0, 1) := by decide +kernel
theorem dX8_kindOf_17 : decode cX8_kindOf 17 = .ok (.getfield 11, 3) := by decide +kernel
theorem dX8_kindOf_20 : decode cX8_kindOf 20 = .ok (.iload_n 1, 1) := by decide +kernel
theorem dX8_kindOf_21 : decode cX8_kindOf 21 = .ok (.iaload, 1) := by decide +kernel
theorem dX8_kindOf_22 : decode cX8_kindOf 22 = .ok (.ireturn, 1) := by decide +kernel
theorem dX8_numberOf_0 : decode cX8_numberOf 0 = .ok (.iload_n 1, 1) := by decide +kernel
theorem dX8_numberOf_1 : decode cX8_numberOf 1 = .ok (.ifCond .lt 11, 3) := by decide +kernel
theorem dX8_numberOf_4 : decode cX8_numberOf 4 = .ok (.iload_n 1, 1) := by decide +kernel
theorem dX8_numberOf_5 : decode cX8_numberOf 5 = .ok (.aload_n 0, 1) := by decide +kernel
theorem dX8_numberOf_6 : decode cX8_numberOf 6 = .ok (.getfield 32, 3) := by decide +kernel
theorem dX8_numberOf_9 : decode cX8_numberOf 9 = .ok (.if_icmp .lt 7, 3) := by decide +kernel
theorem dX8_numberOf_12 : decode cX8_numberOf 12 = .ok (.iconst 0, 1) := by decide +kernel
theorem dX8_numberOf_13 : decode cX8_numberOf 13 = .ok (.goto 9, 3) := by decide +kernel
theorem dX8_numberOf_16 : decode cX8_numberOf 16 = .ok (.aload_n 0, 1) := by decide +kernel
theorem dX8_numberOf_17 : decode cX8_numberOf 17 = .ok (.getfield 18, 3) := by decide +kernel
theorem dX8_numberOf_20 : decode cX8_numberOf 20 = .ok (.iload_n 1, 1) := by decide +kernel
theorem dX8_numberOf_21 : decode cX8_numberOf 21 = .ok (.iaload, 1) := by decide +kernel
theorem dX8_numberOf_22 : decode cX8_numberOf 22 = .ok (.ireturn, 1) := by decide +kernel
theorem dX8_turnOf_0 : decode cX8_turnOf 0 = .ok (.iload_n 1, 1) := by decide +kernel
theorem dX8_turnOf_1 : decode cX8_turnOf 1 = .ok (.ifCond .lt 24, 3) := by decide +kernel
theorem dX8_turnOf_4 : decode cX8_turnOf 4 = .ok (.iload_n 1, 1) := by decide +kernel
theorem dX8_turnOf_5 : decode cX8_turnOf 5 = .ok (.aload_n 0, 1) := by decide +kernel
theorem dX8_turnOf_6 : decode cX8_turnOf 6 = .ok (.getfield 32, 3) := by decide +kernel
theorem dX8_turnOf_9 : decode cX8_turnOf 9 = .ok (.if_icmp .ge 16, 3) := by decide +kernel
theorem dX8_turnOf_12 : decode cX8_turnOf 12 = .ok (.aload_n 0, 1) := by decide +kernel
theorem dX8_turnOf_13 : decode cX8_turnOf 13 = .ok (.getfield 15, 3) := by decide +kernel
theorem dX8_turnOf_16 : decode cX8_turnOf 16 = .ok (.iload_n 1, 1) := by decide +kernel
theorem dX8_turnOf_17 : decode cX8_turnOf 17 = .ok (.iaload, 1) := by decide +kernel
theorem dX8_turnOf_18 : decode cX8_turnOf 18 = .ok (.ifCond .le 7, 3) := by decide +kernel
theorem dX8_turnOf_21 : decode cX8_turnOf 21 = .ok (.iload_n 2, 1) := by decide +kernel
theorem dX8_turnOf_22 : decode cX8_turnOf 22 = .ok (.ifCond .ge 5, 3) := by decide +kernel
theorem dX8_turnOf_25 : decode cX8_turnOf 25 = .ok (.iconst (-1), 1) := by decide +kernel
theorem dX8_turnOf_26 : decode cX8_turnOf 26 = .ok (.ireturn, 1) := by decide +kernel
theorem dX8_turnOf_27 : decode cX8_turnOf 27 = .ok (.iconst 0, 1) := by decide +kernel
theorem dX8_turnOf_28 : decode cX8_turnOf 28 = .ok (.istore_n 3, 1) := by decide +kernel
theorem dX8_turnOf_29 : decode cX8_turnOf 29 = .ok (.aload_n 0, 1) := by decide +kernel
theorem dX8_turnOf_30 : decode cX8_turnOf 30 = .ok (.getfield 15, 3) := by decide +kernel
theorem dX8_turnOf_33 : decode cX8_turnOf 33 = .ok (.iload_n 1, 1) := by decide +kernel
theorem dX8_turnOf_34 : decode cX8_turnOf 34 = .ok (.iaload, 1) := by decide +kernel
theorem dX8_turnOf_35 : decode cX8_turnOf 35 = .ok (.istore 4, 2) := by decide +kernel
theorem dX8_turnOf_37 : decode cX8_turnOf 37 = .ok (.iload 4, 2) := by decide +kernel
theorem dX8_turnOf_39 : decode cX8_turnOf 39 = .ok (.ifCond .le 22, 3) := by decide +kernel
theorem dX8_turnOf_42 : decode cX8_turnOf 42 = .ok (.iload_n 3, 1) := by decide +kernel
theorem dX8_turnOf_43 : decode cX8_turnOf 43 = .ok (.bipush 8, 2) := by decide +kernel
theorem dX8_turnOf_45 : decode cX8_turnOf 45 = .ok (.if_icmp .ge 16, 3) := by decide +kernel
theorem dX8_turnOf_48 : decode cX8_turnOf 48 = .ok (.iinc 3 1, 3) := by decide +kernel
theorem dX8_turnOf_51 : decode cX8_turnOf 51 = .ok (.iload 4, 2) := by decide +kernel
theorem dX8_turnOf_53 : decode cX8_turnOf 53 = .ok (.bipush 10, 2) := by decide +kernel
theorem dX8_turnOf_55 : decode cX8_turnOf 55 = .ok (.idiv, 1) := by decide +kernel
theorem dX8_turnOf_56 : decode cX8_turnOf 56 = .ok (.istore 4, 2) := by decide +kernel
theorem dX8_turnOf_58 : decode cX8_turnOf 58 = .ok (.goto (-21), 3) := by decide +kernel
theorem dX8_turnOf_61 : decode cX8_turnOf 61 = .ok (.aload_n 0, 1) := by decide +kernel
theorem dX8_turnOf_62 : decode cX8_turnOf 62 = .ok (.getfield 15, 3) := by decide +kernel
theorem dX8_turnOf_65 : decode cX8_turnOf 65 = .ok (.iload_n 1, 1) := by decide +kernel
theorem dX8_turnOf_66 : decode cX8_turnOf 66 = .ok (.iaload, 1) := by decide +kernel
theorem dX8_turnOf_67 : decode cX8_turnOf 67 = .ok (.istore 4, 2) := by decide +kernel
theorem dX8_turnOf_69 : decode cX8_turnOf 69 = .ok (.iload_n 3, 1) := by decide +kernel
theorem dX8_turnOf_70 : decode cX8_turnOf 70 = .ok (.ifCond .ne 5, 3) := by decide +kernel
theorem dX8_turnOf_73 : decode cX8_turnOf 73 = .ok (.iconst (-1), 1) := by decide +kernel
theorem dX8_turnOf_74 : decode cX8_turnOf 74 = .ok (.ireturn, 1) := by decide +kernel
theorem dX8_turnOf_75 : decode cX8_turnOf 75 = .ok (.iload_n 3, 1) := by decide +kernel
theorem dX8_turnOf_76 : decode cX8_turnOf 76 = .ok (.iconst 1, 1) := by decide +kernel
theorem dX8_turnOf_77 : decode cX8_turnOf 77 = .ok (.isub, 1) := by decide +kernel
theorem dX8_turnOf_78 : decode cX8_turnOf 78 = .ok (.iload_n 2, 1) := by decide +kernel
theorem dX8_turnOf_79 : decode cX8_turnOf 79 = .ok (.iload_n 3, 1) := by decide +kernel
theorem dX8_turnOf_80 : decode cX8_turnOf 80 = .ok (.irem, 1) := by decide +kernel
theorem dX8_turnOf_81 : decode cX8_turnOf 81 = .ok (.isub, 1) := by decide +kernel
theorem dX8_turnOf_82 : decode cX8_turnOf 82 = .ok (.istore 5, 2) := by decide +kernel
theorem dX8_turnOf_84 : decode cX8_turnOf 84 = .ok (.iload 5, 2) := by decide +kernel
theorem dX8_turnOf_86 : decode cX8_turnOf 86 = .ok (.ifCond .le 16, 3) := by decide +kernel
theorem dX8_turnOf_89 : decode cX8_turnOf 89 = .ok (.iload 4, 2) := by decide +kernel
theorem dX8_turnOf_91 : decode cX8_turnOf 91 = .ok (.bipush 10, 2) := by decide +kernel
theorem dX8_turnOf_93 : decode cX8_turnOf 93 = .ok (.idiv, 1) := by decide +kernel
theorem dX8_turnOf_94 : decode cX8_turnOf 94 = .ok (.istore 4, 2) := by decide +kernel
theorem dX8_turnOf_96 : decode cX8_turnOf 96 = .ok (.iinc 5 (-1), 3) := by decide +kernel
theorem dX8_turnOf_99 : decode cX8_turnOf 99 = .ok (.goto (-15), 3) := by decide +kernel
theorem dX8_turnOf_102 : decode cX8_turnOf 102 = .ok (.iload 4, 2) := by decide +kernel
theorem dX8_turnOf_104 : decode cX8_turnOf 104 = .ok (.bipush 10, 2) := by decide +kernel
theorem dX8_turnOf_106 : decode cX8_turnOf 106 = .ok (.irem, 1) := by decide +kernel
theorem dX8_turnOf_107 : decode cX8_turnOf 107 = .ok (.iconst 1, 1) := by decide +kernel
theorem dX8_turnOf_108 : decode cX8_turnOf 108 = .ok (.isub, 1) := by decide +kernel
theorem dX8_turnOf_109 : decode cX8_turnOf 109 = .ok (.ireturn, 1) := by decide +kernel
theorem dX8_traceAt_0 : decode cX8_traceAt 0 = .ok (.iload_n 1, 1) := by decide +kernel
theorem dX8_traceAt_1 : decode cX8_traceAt 1 = .ok (.ifCond .lt 9, 3) := by decide +kernel
theorem dX8_traceAt_4 : decode cX8_traceAt 4 = .ok (.iload_n 1, 1) := by decide +kernel
theorem dX8_traceAt_5 : decode cX8_traceAt 5 = .ok (.bipush 24, 2) := by decide +kernel
theorem dX8_traceAt_7 : decode cX8_traceAt 7 = .ok (.if_icmp .lt 7, 3) := by decide +kernel
theorem dX8_traceAt_10 : decode cX8_traceAt 10 = .ok (.iconst (-1), 1) := by decide +kernel
theorem dX8_traceAt_11 : decode cX8_traceAt 11 = .ok (.goto 9, 3) := by decide +kernel
theorem dX8_traceAt_14 : decode cX8_traceAt 14 = .ok (.aload_n 0, 1) := by decide +kernel
theorem dX8_traceAt_15 : decode cX8_traceAt 15 = .ok (.getfield 21, 3) := by decide +kernel
theorem dX8_traceAt_18 : decode cX8_traceAt 18 = .ok (.iload_n 1, 1) := by decide +kernel
theorem dX8_traceAt_19 : decode cX8_traceAt 19 = .ok (.iaload, 1) := by decide +kernel
theorem dX8_traceAt_20 : decode cX8_traceAt 20 = .ok (.ireturn, 1) := by decide +kernel
theorem dX8_runBody_0 : decode cX8_runBody 0 = .ok (.iload_n 3, 1) := by decide +kernel
theorem dX8_runBody_1 : decode cX8_runBody 1 = .ok (.ifCond .lt 15, 3) := by decide +kernel
theorem dX8_runBody_4 : decode cX8_runBody 4 = .ok (.iload_n 3, 1) := by decide +kernel
theorem dX8_runBody_5 : decode cX8_runBody 5 = .ok (.iconst 4, 1) := by decide +kernel
theorem dX8_runBody_6 : decode cX8_runBody 6 = .ok (.if_icmp .ge 10, 3) := by decide +kernel
theorem dX8_runBody_9 : decode cX8_runBody 9 = .ok (.iload 5, 2) := by decide +kernel
theorem dX8_runBody_11 : decode cX8_runBody 11 = .ok (.bipush 40, 2) := by decide +kernel
theorem dX8_runBody_13 : decode cX8_runBody 13 = .ok (.if_icmp .lt 5, 3) := by decide +kernel
theorem dX8_runBody_16 : decode cX8_runBody 16 = .ok (.iconst 0, 1) := by decide +kernel
theorem dX8_runBody_17 : decode cX8_runBody 17 = .ok (.ireturn, 1) := by decide +kernel
theorem dX8_runBody_18 : decode cX8_runBody 18 = .ok (.iload_n 2, 1) := by decide +kernel
theorem dX8_runBody_19 : decode cX8_runBody 19 = .ok (.istore 6, 2) := by decide +kernel
theorem dX8_runBody_21 : decode cX8_runBody 21 = .ok (.iconst 0, 1) := by decide +kernel
theorem dX8_runBody_22 : decode cX8_runBody 22 = .ok (.istore 7, 2) := by decide +kernel
theorem dX8_runBody_24 : decode cX8_runBody 24 = .ok (.iload 7, 2) := by decide +kernel
theorem dX8_runBody_26 : decode cX8_runBody 26 = .ok (.bipush 7, 2) := by decide +kernel
theorem dX8_runBody_28 : decode cX8_runBody 28 = .ok (.if_icmp .ge 61, 3) := by decide +kernel
theorem dX8_runBody_31 : decode cX8_runBody 31 = .ok (.iload 6, 2) := by decide +kernel
theorem dX8_runBody_33 : decode cX8_runBody 33 = .ok (.ifCond .lt 56, 3) := by decide +kernel
theorem dX8_runBody_36 : decode cX8_runBody 36 = .ok (.iload 6, 2) := by decide +kernel
theorem dX8_runBody_38 : decode cX8_runBody 38 = .ok (.bipush 7, 2) := by decide +kernel
theorem dX8_runBody_40 : decode cX8_runBody 40 = .ok (.if_icmp .ge 49, 3) := by decide +kernel
theorem dX8_runBody_43 : decode cX8_runBody 43 = .ok (.getstatic 36, 3) := by decide +kernel
theorem dX8_runBody_46 : decode cX8_runBody 46 = .ok (.iload 6, 2) := by decide +kernel
theorem dX8_runBody_48 : decode cX8_runBody 48 = .ok (.iconst 4, 1) := by decide +kernel
theorem dX8_runBody_49 : decode cX8_runBody 49 = .ok (.imul, 1) := by decide +kernel
theorem dX8_runBody_50 : decode cX8_runBody 50 = .ok (.iload_n 3, 1) := by decide +kernel
theorem dX8_runBody_51 : decode cX8_runBody 51 = .ok (.iadd, 1) := by decide +kernel
theorem dX8_runBody_52 : decode cX8_runBody 52 = .ok (.iaload, 1) := by decide +kernel
theorem dX8_runBody_53 : decode cX8_runBody 53 = .ok (.istore 8, 2) := by decide +kernel
theorem dX8_runBody_55 : decode cX8_runBody 55 = .ok (.iload 8, 2) := by decide +kernel
theorem dX8_runBody_57 : decode cX8_runBody 57 = .ok (.ifCond .eq 19, 3) := by decide +kernel
theorem dX8_runBody_60 : decode cX8_runBody 60 = .ok (.aload_n 0, 1) := by decide +kernel
theorem dX8_runBody_61 : decode cX8_runBody 61 = .ok (.iload_n 1, 1) := by decide +kernel
theorem dX8_runBody_62 : decode cX8_runBody 62 = .ok (.iload 8, 2) := by decide +kernel
theorem dX8_runBody_64 : decode cX8_runBody 64 = .ok (.iload 6, 2) := by decide +kernel
theorem dX8_runBody_66 : decode cX8_runBody 66 = .ok (.iload 4, 2) := by decide +kernel
theorem dX8_runBody_68 : decode cX8_runBody 68 = .ok (.iload 5, 2) := by decide +kernel
theorem dX8_runBody_70 : decode cX8_runBody 70 = .ok (.iconst 1, 1) := by decide +kernel
theorem dX8_runBody_71 : decode cX8_runBody 71 = .ok (.iadd, 1) := by decide +kernel
theorem dX8_runBody_72 : decode cX8_runBody 72 = .ok (.invokevirtual 39, 3) := by decide +kernel
theorem dX8_runBody_75 : decode cX8_runBody 75 = .ok (.ireturn, 1) := by decide +kernel
theorem dX8_runBody_76 : decode cX8_runBody 76 = .ok (.iload 6, 2) := by decide +kernel
theorem dX8_runBody_78 : decode cX8_runBody 78 = .ok (.invokestatic 28, 3) := by decide +kernel
theorem dX8_runBody_81 : decode cX8_runBody 81 = .ok (.istore 6, 2) := by decide +kernel
theorem dX8_runBody_83 : decode cX8_runBody 83 = .ok (.iinc 7 1, 3) := by decide +kernel
theorem dX8_runBody_86 : decode cX8_runBody 86 = .ok (.goto (-62), 3) := by decide +kernel
theorem dX8_runBody_89 : decode cX8_runBody 89 = .ok (.iconst 0, 1) := by decide +kernel
theorem dX8_runBody_90 : decode cX8_runBody 90 = .ok (.ireturn, 1) := by decide +kernel
theorem dX8_bodyOf_0 : decode cX8_bodyOf 0 = .ok (.aload_n 0, 1) := by decide +kernel
theorem dX8_bodyOf_1 : decode cX8_bodyOf 1 = .ok (.getfield 43, 3) := by decide +kernel
theorem dX8_bodyOf_4 : decode cX8_bodyOf 4 = .ok (.bipush 24, 2) := by decide +kernel
theorem dX8_bodyOf_6 : decode cX8_bodyOf 6 = .ok (.if_icmp .ge 13, 3) := by decide +kernel
theorem dX8_bodyOf_9 : decode cX8_bodyOf 9 = .ok (.aload_n 0, 1) := by decide +kernel
theorem dX8_bodyOf_10 : decode cX8_bodyOf 10 = .ok (.getfield 21, 3) := by decide +kernel
theorem dX8_bodyOf_13 : decode cX8_bodyOf 13 = .ok (.aload_n 0, 1) := by decide +kernel
theorem dX8_bodyOf_14 : decode cX8_bodyOf 14 = .ok (.getfield 43, 3) := by decide +kernel
theorem dX8_bodyOf_17 : decode cX8_bodyOf 17 = .ok (.iload_n 2, 1) := by decide +kernel
theorem dX8_bodyOf_18 : decode cX8_bodyOf 18 = .ok (.iastore, 1) := by decide +kernel
theorem dX8_bodyOf_19 : decode cX8_bodyOf 19 = .ok (.aload_n 0, 1) := by decide +kernel
theorem dX8_bodyOf_20 : decode cX8_bodyOf 20 = .ok (.dup, 1) := by decide +kernel
theorem dX8_bodyOf_21 : decode cX8_bodyOf 21 = .ok (.getfield 43, 3) := by decide +kernel
theorem dX8_bodyOf_24 : decode cX8_bodyOf 24 = .ok (.iconst 1, 1) := by decide +kernel
theorem dX8_bodyOf_25 : decode cX8_bodyOf 25 = .ok (.iadd, 1) := by decide +kernel
theorem dX8_bodyOf_26 : decode cX8_bodyOf 26 = .ok (.putfield 43, 3) := by decide +kernel
theorem dX8_bodyOf_29 : decode cX8_bodyOf 29 = .ok (.aload_n 0, 1) := by decide +kernel
theorem dX8_bodyOf_30 : decode cX8_bodyOf 30 = .ok (.iload_n 1, 1) := by decide +kernel
theorem dX8_bodyOf_31 : decode cX8_bodyOf 31 = .ok (.invokevirtual 46, 3) := by decide +kernel
theorem dX8_bodyOf_34 : decode cX8_bodyOf 34 = .ok (.istore 6, 2) := by decide +kernel
theorem dX8_bodyOf_36 : decode cX8_bodyOf 36 = .ok (.iload_n 3, 1) := by decide +kernel
theorem dX8_bodyOf_37 : decode cX8_bodyOf 37 = .ok (.invokestatic 28, 3) := by decide +kernel
theorem dX8_bodyOf_40 : decode cX8_bodyOf 40 = .ok (.istore 7, 2) := by decide +kernel
theorem dX8_bodyOf_42 : decode cX8_bodyOf 42 = .ok (.iload_n 2, 1) := by decide +kernel
theorem dX8_bodyOf_43 : decode cX8_bodyOf 43 = .ok (.lookupswitch 271 #[(1, 97), (2, 102), (10, 127), (11, 142), (20, 147), (30, 162), (40, 177), (50, 191), (51, 206), (60, 221), (70, 246)], 97) := by decide +kernel
theorem dX8_bodyOf_140 : decode cX8_bodyOf 140 = .ok (.iload 4, 2) := by decide +kernel
theorem dX8_bodyOf_142 : decode cX8_bodyOf 142 = .ok (.iload_n 1, 1) := by decide +kernel
theorem dX8_bodyOf_143 : decode cX8_bodyOf 143 = .ok (.iadd, 1) := by decide +kernel
theorem dX8_bodyOf_144 : decode cX8_bodyOf 144 = .ok (.ireturn, 1) := by decide +kernel
theorem dX8_bodyOf_145 : decode cX8_bodyOf 145 = .ok (.aload_n 0, 1) := by decide +kernel
theorem dX8_bodyOf_146 : decode cX8_bodyOf 146 = .ok (.iload_n 1, 1) := by decide +kernel
theorem dX8_bodyOf_147 : decode cX8_bodyOf 147 = .ok (.iload 6, 2) := by decide +kernel
theorem dX8_bodyOf_149 : decode cX8_bodyOf 149 = .ok (.iconst 1, 1) := by decide +kernel
theorem dX8_bodyOf_150 : decode cX8_bodyOf 150 = .ok (.iload 4, 2) := by decide +kernel
theorem dX8_bodyOf_152 : decode cX8_bodyOf 152 = .ok (.iload 5, 2) := by decide +kernel
theorem dX8_bodyOf_154 : decode cX8_bodyOf 154 = .ok (.invokevirtual 49, 3) := by decide +kernel
theorem dX8_bodyOf_157 : decode cX8_bodyOf 157 = .ok (.aload_n 0, 1) := by decide +kernel
theorem dX8_bodyOf_158 : decode cX8_bodyOf 158 = .ok (.iload_n 1, 1) := by decide +kernel
theorem dX8_bodyOf_159 : decode cX8_bodyOf 159 = .ok (.iload 6, 2) := by decide +kernel
theorem dX8_bodyOf_161 : decode cX8_bodyOf 161 = .ok (.iconst 2, 1) := by decide +kernel
theorem dX8_bodyOf_162 : decode cX8_bodyOf 162 = .ok (.iconst 1, 1) := by decide +kernel
theorem dX8_bodyOf_163 : decode cX8_bodyOf 163 = .ok (.iload 5, 2) := by decide +kernel
theorem dX8_bodyOf_165 : decode cX8_bodyOf 165 = .ok (.invokevirtual 49, 3) := by decide +kernel
theorem dX8_bodyOf_168 : decode cX8_bodyOf 168 = .ok (.isub, 1) := by decide +kernel
theorem dX8_bodyOf_169 : decode cX8_bodyOf 169 = .ok (.ireturn, 1) := by decide +kernel
theorem dX8_bodyOf_170 : decode cX8_bodyOf 170 = .ok (.aload_n 0, 1) := by decide +kernel
theorem dX8_bodyOf_171 : decode cX8_bodyOf 171 = .ok (.iload_n 1, 1) := by decide +kernel
theorem dX8_bodyOf_172 : decode cX8_bodyOf 172 = .ok (.iload 6, 2) := by decide +kernel
theorem dX8_bodyOf_174 : decode cX8_bodyOf 174 = .ok (.iconst 0, 1) := by decide +kernel
theorem dX8_bodyOf_175 : decode cX8_bodyOf 175 = .ok (.iload 4, 2) := by decide +kernel
theorem dX8_bodyOf_177 : decode cX8_bodyOf 177 = .ok (.iload 5, 2) := by decide +kernel
theorem dX8_bodyOf_179 : decode cX8_bodyOf 179 = .ok (.invokevirtual 49, 3) := by decide +kernel
theorem dX8_bodyOf_182 : decode cX8_bodyOf 182 = .ok (.iconst 2, 1) := by decide +kernel
theorem dX8_bodyOf_183 : decode cX8_bodyOf 183 = .ok (.imul, 1) := by decide +kernel
theorem dX8_bodyOf_184 : decode cX8_bodyOf 184 = .ok (.ireturn, 1) := by decide +kernel
theorem dX8_bodyOf_185 : decode cX8_bodyOf 185 = .ok (.iload 4, 2) := by decide +kernel
theorem dX8_bodyOf_187 : decode cX8_bodyOf 187 = .ok (.iload_n 1, 1) := by decide +kernel
theorem dX8_bodyOf_188 : decode cX8_bodyOf 188 = .ok (.ixor, 1) := by decide +kernel
theorem dX8_bodyOf_189 : decode cX8_bodyOf 189 = .ok (.ireturn, 1) := by decide +kernel
theorem dX8_bodyOf_190 : decode cX8_bodyOf 190 = .ok (.aload_n 0, 1) := by decide +kernel
theorem dX8_bodyOf_191 : decode cX8_bodyOf 191 = .ok (.iload_n 1, 1) := by decide +kernel
theorem dX8_bodyOf_192 : decode cX8_bodyOf 192 = .ok (.iload 7, 2) := by decide +kernel
theorem dX8_bodyOf_194 : decode cX8_bodyOf 194 = .ok (.iconst 0, 1) := by decide +kernel
theorem dX8_bodyOf_195 : decode cX8_bodyOf 195 = .ok (.iload 4, 2) := by decide +kernel
theorem dX8_bodyOf_197 : decode cX8_bodyOf 197 = .ok (.iload 5, 2) := by decide +kernel
theorem dX8_bodyOf_199 : decode cX8_bodyOf 199 = .ok (.invokevirtual 49, 3) := by decide +kernel
theorem dX8_bodyOf_202 : decode cX8_bodyOf 202 = .ok (.iconst 3, 1) := by decide +kernel
theorem dX8_bodyOf_203 : decode cX8_bodyOf 203 = .ok (.iadd, 1) := by decide +kernel
theorem dX8_bodyOf_204 : decode cX8_bodyOf 204 = .ok (.ireturn, 1) := by decide +kernel
theorem dX8_bodyOf_205 : decode cX8_bodyOf 205 = .ok (.aload_n 0, 1) := by decide +kernel
theorem dX8_bodyOf_206 : decode cX8_bodyOf 206 = .ok (.iload_n 1, 1) := by decide +kernel
theorem dX8_bodyOf_207 : decode cX8_bodyOf 207 = .ok (.iload 7, 2) := by decide +kernel
theorem dX8_bodyOf_209 : decode cX8_bodyOf 209 = .ok (.iconst 2, 1) := by decide +kernel
theorem dX8_bodyOf_210 : decode cX8_bodyOf 210 = .ok (.iload 4, 2) := by decide +kernel
theorem dX8_bodyOf_212 : decode cX8_bodyOf 212 = .ok (.iload 5, 2) := by decide +kernel
theorem dX8_bodyOf_214 : decode cX8_bodyOf 214 = .ok (.invokevirtual 49, 3) := by decide +kernel
theorem dX8_bodyOf_217 : decode cX8_bodyOf 217 = .ok (.iconst 3, 1) := by decide +kernel
theorem dX8_bodyOf_218 : decode cX8_bodyOf 218 = .ok (.imul, 1) := by decide +kernel
theorem dX8_bodyOf_219 : decode cX8_bodyOf 219 = .ok (.ireturn, 1) := by decide +kernel
theorem dX8_bodyOf_220 : decode cX8_bodyOf 220 = .ok (.aload_n 0, 1) := by decide +kernel
theorem dX8_bodyOf_221 : decode cX8_bodyOf 221 = .ok (.iload_n 1, 1) := by decide +kernel
theorem dX8_bodyOf_222 : decode cX8_bodyOf 222 = .ok (.iload 7, 2) := by decide +kernel
theorem dX8_bodyOf_224 : decode cX8_bodyOf 224 = .ok (.iconst 1, 1) := by decide +kernel
theorem dX8_bodyOf_225 : decode cX8_bodyOf 225 = .ok (.iload 4, 2) := by decide +kernel
theorem dX8_bodyOf_227 : decode cX8_bodyOf 227 = .ok (.iload 5, 2) := by decide +kernel
theorem dX8_bodyOf_229 : decode cX8_bodyOf 229 = .ok (.invokevirtual 49, 3) := by decide +kernel
theorem dX8_bodyOf_232 : decode cX8_bodyOf 232 = .ok (.ineg, 1) := by decide +kernel
theorem dX8_bodyOf_233 : decode cX8_bodyOf 233 = .ok (.ireturn, 1) := by decide +kernel
theorem dX8_bodyOf_234 : decode cX8_bodyOf 234 = .ok (.aload_n 0, 1) := by decide +kernel
theorem dX8_bodyOf_235 : decode cX8_bodyOf 235 = .ok (.iload_n 1, 1) := by decide +kernel
theorem dX8_bodyOf_236 : decode cX8_bodyOf 236 = .ok (.iload 7, 2) := by decide +kernel
theorem dX8_bodyOf_238 : decode cX8_bodyOf 238 = .ok (.iconst 0, 1) := by decide +kernel
theorem dX8_bodyOf_239 : decode cX8_bodyOf 239 = .ok (.iload 4, 2) := by decide +kernel
theorem dX8_bodyOf_241 : decode cX8_bodyOf 241 = .ok (.iconst 1, 1) := by decide +kernel
theorem dX8_bodyOf_242 : decode cX8_bodyOf 242 = .ok (.iadd, 1) := by decide +kernel
theorem dX8_bodyOf_243 : decode cX8_bodyOf 243 = .ok (.iload 5, 2) := by decide +kernel
theorem dX8_bodyOf_245 : decode cX8_bodyOf 245 = .ok (.invokevirtual 49, 3) := by decide +kernel
theorem dX8_bodyOf_248 : decode cX8_bodyOf 248 = .ok (.ireturn, 1) := by decide +kernel
theorem dX8_bodyOf_249 : decode cX8_bodyOf 249 = .ok (.aload_n 0, 1) := by decide +kernel
theorem dX8_bodyOf_250 : decode cX8_bodyOf 250 = .ok (.iload_n 1, 1) := by decide +kernel
theorem dX8_bodyOf_251 : decode cX8_bodyOf 251 = .ok (.iload 7, 2) := by decide +kernel
theorem dX8_bodyOf_253 : decode cX8_bodyOf 253 = .ok (.iconst 3, 1) := by decide +kernel
theorem dX8_bodyOf_254 : decode cX8_bodyOf 254 = .ok (.iload 4, 2) := by decide +kernel
theorem dX8_bodyOf_256 : decode cX8_bodyOf 256 = .ok (.iload 5, 2) := by decide +kernel
theorem dX8_bodyOf_258 : decode cX8_bodyOf 258 = .ok (.invokevirtual 49, 3) := by decide +kernel
theorem dX8_bodyOf_261 : decode cX8_bodyOf 261 = .ok (.iconst 5, 1) := by decide +kernel
theorem dX8_bodyOf_262 : decode cX8_bodyOf 262 = .ok (.ixor, 1) := by decide +kernel
theorem dX8_bodyOf_263 : decode cX8_bodyOf 263 = .ok (.ireturn, 1) := by decide +kernel
theorem dX8_bodyOf_264 : decode cX8_bodyOf 264 = .ok (.aload_n 0, 1) := by decide +kernel
theorem dX8_bodyOf_265 : decode cX8_bodyOf 265 = .ok (.iload_n 1, 1) := by decide +kernel
theorem dX8_bodyOf_266 : decode cX8_bodyOf 266 = .ok (.iload 7, 2) := by decide +kernel
theorem dX8_bodyOf_268 : decode cX8_bodyOf 268 = .ok (.iconst 2, 1) := by decide +kernel
theorem dX8_bodyOf_269 : decode cX8_bodyOf 269 = .ok (.iload 4, 2) := by decide +kernel
theorem dX8_bodyOf_271 : decode cX8_bodyOf 271 = .ok (.iload 5, 2) := by decide +kernel
theorem dX8_bodyOf_273 : decode cX8_bodyOf 273 = .ok (.invokevirtual 49, 3) := by decide +kernel
theorem dX8_bodyOf_276 : decode cX8_bodyOf 276 = .ok (.aload_n 0, 1) := by decide +kernel
theorem dX8_bodyOf_277 : decode cX8_bodyOf 277 = .ok (.iload_n 1, 1) := by decide +kernel
theorem dX8_bodyOf_278 : decode cX8_bodyOf 278 = .ok (.iload 6, 2) := by decide +kernel
theorem dX8_bodyOf_280 : decode cX8_bodyOf 280 = .ok (.iconst 0, 1) := by decide +kernel
theorem dX8_bodyOf_281 : decode cX8_bodyOf 281 = .ok (.iconst 2, 1) := by decide +kernel
theorem dX8_bodyOf_282 : decode cX8_bodyOf 282 = .ok (.iload 5, 2) := by decide +kernel
theorem dX8_bodyOf_284 : decode cX8_bodyOf 284 = .ok (.invokevirtual 49, 3) := by decide +kernel
theorem dX8_bodyOf_287 : decode cX8_bodyOf 287 = .ok (.isub, 1) := by decide +kernel
theorem dX8_bodyOf_288 : decode cX8_bodyOf 288 = .ok (.ireturn, 1) := by decide +kernel
theorem dX8_bodyOf_289 : decode cX8_bodyOf 289 = .ok (.aload_n 0, 1) := by decide +kernel
theorem dX8_bodyOf_290 : decode cX8_bodyOf 290 = .ok (.iload_n 1, 1) := by decide +kernel
theorem dX8_bodyOf_291 : decode cX8_bodyOf 291 = .ok (.iload 7, 2) := by decide +kernel
theorem dX8_bodyOf_293 : decode cX8_bodyOf 293 = .ok (.iconst 1, 1) := by decide +kernel
theorem dX8_bodyOf_294 : decode cX8_bodyOf 294 = .ok (.iload 4, 2) := by decide +kernel
theorem dX8_bodyOf_296 : decode cX8_bodyOf 296 = .ok (.iload 5, 2) := by decide +kernel
theorem dX8_bodyOf_298 : decode cX8_bodyOf 298 = .ok (.invokevirtual 49, 3) := by decide +kernel
theorem dX8_bodyOf_301 : decode cX8_bodyOf 301 = .ok (.aload_n 0, 1) := by decide +kernel
theorem dX8_bodyOf_302 : decode cX8_bodyOf 302 = .ok (.iload_n 1, 1) := by decide +kernel
theorem dX8_bodyOf_303 : decode cX8_bodyOf 303 = .ok (.iload 6, 2) := by decide +kernel
theorem dX8_bodyOf_305 : decode cX8_bodyOf 305 = .ok (.iconst 2, 1) := by decide +kernel
theorem dX8_bodyOf_306 : decode cX8_bodyOf 306 = .ok (.iconst 1, 1) := by decide +kernel
theorem dX8_bodyOf_307 : decode cX8_bodyOf 307 = .ok (.iload 5, 2) := by decide +kernel
theorem dX8_bodyOf_309 : decode cX8_bodyOf 309 = .ok (.invokevirtual 49, 3) := by decide +kernel
theorem dX8_bodyOf_312 : decode cX8_bodyOf 312 = .ok (.iadd, 1) := by decide +kernel
theorem dX8_bodyOf_313 : decode cX8_bodyOf 313 = .ok (.ireturn, 1) := by decide +kernel
theorem dX8_bodyOf_314 : decode cX8_bodyOf 314 = .ok (.iconst 0, 1) := by decide +kernel
theorem dX8_bodyOf_315 : decode cX8_bodyOf 315 = .ok (.ireturn, 1) := by decide +kernel
theorem dX9_init_0 : decode cX9_init 0 = .ok (.aload_n 0, 1) := by decide +kernel
theorem dX9_init_1 : decode cX9_init 1 = .ok (.invokespecial 3, 3) := by decide +kernel
theorem dX9_init_4 : decode cX9_init 4 = .ok (.aload_n 0, 1) := by decide +kernel
theorem dX9_init_5 : decode cX9_init 5 = .ok (.bipush 6, 2) := by decide +kernel
theorem dX9_init_7 : decode cX9_init 7 = .ok (.newarray .int, 2) := by decide +kernel
theorem dX9_init_9 : decode cX9_init 9 = .ok (.putfield 11, 3) := by decide +kernel
theorem dX9_init_12 : decode cX9_init 12 = .ok (.aload_n 0, 1) := by decide +kernel
theorem dX9_init_13 : decode cX9_init 13 = .ok (.bipush 6, 2) := by decide +kernel
theorem dX9_init_15 : decode cX9_init 15 = .ok (.newarray .int, 2) := by decide +kernel
theorem dX9_init_17 : decode cX9_init 17 = .ok (.putfield 15, 3) := by decide +kernel
theorem dX9_init_20 : decode cX9_init 20 = .ok (.aload_n 0, 1) := by decide +kernel
theorem dX9_init_21 : decode cX9_init 21 = .ok (.bipush 6, 2) := by decide +kernel
theorem dX9_init_23 : decode cX9_init 23 = .ok (.newarray .int, 2) := by decide +kernel
theorem dX9_init_25 : decode cX9_init 25 = .ok (.putfield 18, 3) := by decide +kernel
theorem dX9_init_28 : decode cX9_init 28 = .ok (.aload_n 0, 1) := by decide +kernel
theorem dX9_init_29 : decode cX9_init 29 = .ok (.sipush 360, 3) := by decide +kernel
theorem dX9_init_32 : decode cX9_init 32 = .ok (.newarray .long, 2) := by decide +kernel
theorem dX9_init_34 : decode cX9_init 34 = .ok (.putfield 21, 3) := by decide +kernel
theorem dX9_init_37 : decode cX9_init 37 = .ok (.aload_n 0, 1) := by decide +kernel
theorem dX9_init_38 : decode cX9_init 38 = .ok (.aload_n 1, 1) := by decide +kernel
theorem dX9_init_39 : decode cX9_init 39 = .ok (.putfield 25, 3) := by decide +kernel
theorem dX9_init_42 : decode cX9_init 42 = .ok (.iconst 0, 1) := by decide +kernel
theorem dX9_init_43 : decode cX9_init 43 = .ok (.istore_n 2, 1) := by decide +kernel
theorem dX9_init_44 : decode cX9_init 44 = .ok (.iload_n 2, 1) := by decide +kernel
theorem dX9_init_45 : decode cX9_init 45 = .ok (.bipush 6, 2) := by decide +kernel
theorem dX9_init_47 : decode cX9_init 47 = .ok (.if_icmp .ge 24, 3) := by decide +kernel
theorem dX9_init_50 : decode cX9_init 50 = .ok (.aload_n 0, 1) := by decide +kernel
theorem dX9_init_51 : decode cX9_init 51 = .ok (.getfield 11, 3) := by decide +kernel
theorem dX9_init_54 : decode cX9_init 54 = .ok (.iload_n 2, 1) := by decide +kernel
theorem dX9_init_55 : decode cX9_init 55 = .ok (.bipush (-2), 2) := by decide +kernel
theorem dX9_init_57 : decode cX9_init 57 = .ok (.iastore, 1) := by decide +kernel
theorem dX9_init_58 : decode cX9_init 58 = .ok (.aload_n 0, 1) := by decide +kernel
theorem dX9_init_59 : decode cX9_init 59 = .ok (.getfield 18, 3) := by decide +kernel
theorem dX9_init_62 : decode cX9_init 62 = .ok (.iload_n 2, 1) := by decide +kernel
theorem dX9_init_63 : decode cX9_init 63 = .ok (.iconst (-1), 1) := by decide +kernel
theorem dX9_init_64 : decode cX9_init 64 = .ok (.iastore, 1) := by decide +kernel
theorem dX9_init_65 : decode cX9_init 65 = .ok (.iinc 2 1, 3) := by decide +kernel
theorem dX9_init_68 : decode cX9_init 68 = .ok (.goto (-24), 3) := by decide +kernel
theorem dX9_init_71 : decode cX9_init 71 = .ok (.return_, 1) := by decide +kernel
theorem dX9_isNone_0 : decode cX9_isNone 0 = .ok (.iload_n 0, 1) := by decide +kernel
theorem dX9_isNone_1 : decode cX9_isNone 1 = .ok (.ifCond .lt 9, 3) := by decide +kernel
theorem dX9_isNone_4 : decode cX9_isNone 4 = .ok (.iload_n 0, 1) := by decide +kernel
theorem dX9_isNone_5 : decode cX9_isNone 5 = .ok (.bipush 6, 2) := by decide +kernel
theorem dX9_isNone_7 : decode cX9_isNone 7 = .ok (.if_icmp .lt 7, 3) := by decide +kernel
theorem dX9_isNone_10 : decode cX9_isNone 10 = .ok (.iconst 1, 1) := by decide +kernel
theorem dX9_isNone_11 : decode cX9_isNone 11 = .ok (.goto 4, 3) := by decide +kernel
theorem dX9_isNone_14 : decode cX9_isNone 14 = .ok (.iconst 0, 1) := by decide +kernel
theorem dX9_isNone_15 : decode cX9_isNone 15 = .ok (.ireturn, 1) := by decide +kernel
theorem dX9_isEmpty_0 : decode cX9_isEmpty 0 = .ok (.iload_n 1, 1) := by decide +kernel
theorem dX9_isEmpty_1 : decode cX9_isEmpty 1 = .ok (.invokestatic 29, 3) := by decide +kernel
theorem dX9_isEmpty_4 : decode cX9_isEmpty 4 = .ok (.ifCond .ne 14, 3) := by decide +kernel
theorem dX9_isEmpty_7 : decode cX9_isEmpty 7 = .ok (.aload_n 0, 1) := by decide +kernel
theorem dX9_isEmpty_8 : decode cX9_isEmpty 8 = .ok (.getfield 11, 3) := by decide +kernel
theorem dX9_isEmpty_11 : decode cX9_isEmpty 11 = .ok (.iload_n 1, 1) := by decide +kernel
theorem dX9_isEmpty_12 : decode cX9_isEmpty 12 = .ok (.iaload, 1) := by decide +kernel
theorem dX9_isEmpty_13 : decode cX9_isEmpty 13 = .ok (.bipush (-2), 2) := by decide +kernel
theorem dX9_isEmpty_15 : decode cX9_isEmpty 15 = .ok (.if_icmp .ne 7, 3) := by decide +kernel
theorem dX9_isEmpty_18 : decode cX9_isEmpty 18 = .ok (.iconst 1, 1) := by decide +kernel
theorem dX9_isEmpty_19 : decode cX9_isEmpty 19 = .ok (.goto 4, 3) := by decide +kernel
theorem dX9_isEmpty_22 : decode cX9_isEmpty 22 = .ok (.iconst 0, 1) := by decide +kernel
theorem dX9_isEmpty_23 : decode cX9_isEmpty 23 = .ok (.ireturn, 1) := by decide +kernel
theorem dX9_sortOf_0 : decode cX9_sortOf 0 = .ok (.aload_n 0, 1) := by decide +kernel
theorem dX9_sortOf_1 : decode cX9_sortOf 1 = .ok (.iload_n 1, 1) := by decide +kernel
theorem dX9_sortOf_2 : decode cX9_sortOf 2 = .ok (.invokevirtual 33, 3) := by decide +kernel
theorem dX9_sortOf_5 : decode cX9_sortOf 5 = .ok (.ifCond .eq 7, 3) := by decide +kernel
theorem dX9_sortOf_8 : decode cX9_sortOf 8 = .ok (.iconst (-1), 1) := by decide +kernel
theorem dX9_sortOf_9 : decode cX9_sortOf 9 = .ok (.goto 9, 3) := by decide +kernel
theorem dX9_sortOf_12 : decode cX9_sortOf 12 = .ok (.aload_n 0, 1) := by decide +kernel
theorem dX9_sortOf_13 : decode cX9_sortOf 13 = .ok (.getfield 11, 3) := by decide +kernel
theorem dX9_sortOf_16 : decode cX9_sortOf 16 = .ok (.iload_n 1, 1) := by decide +kernel
theorem dX9_sortOf_17 : decode cX9_sortOf 17 = .ok (.iaload, 1) := by decide +kernel
theorem dX9_sortOf_18 : decode cX9_sortOf 18 = .ok (.ireturn, 1) := by decide +kernel
theorem dX9_lengthOf_0 : decode cX9_lengthOf 0 = .ok (.aload_n 0, 1) := by decide +kernel
theorem dX9_lengthOf_1 : decode cX9_lengthOf 1 = .ok (.iload_n 1, 1) := by decide +kernel
theorem dX9_lengthOf_2 : decode cX9_lengthOf 2 = .ok (.invokevirtual 36, 3) := by decide +kernel
theorem dX9_lengthOf_5 : decode cX9_lengthOf 5 = .ok (.iconst (-1), 1) := by decide +kernel
theorem dX9_lengthOf_6 : decode cX9_lengthOf 6 = .ok (.if_icmp .ne 7, 3) := by decide +kernel
theorem dX9_lengthOf_9 : decode cX9_lengthOf 9 = .ok (.iconst 0, 1) := by decide +kernel
theorem dX9_lengthOf_10 : decode cX9_lengthOf 10 = .ok (.goto 9, 3) := by decide +kernel
theorem dX9_lengthOf_13 : decode cX9_lengthOf 13 = .ok (.aload_n 0, 1) := by decide +kernel
theorem dX9_lengthOf_14 : decode cX9_lengthOf 14 = .ok (.getfield 15, 3) := by decide +kernel
theorem dX9_lengthOf_17 : decode cX9_lengthOf 17 = .ok (.iload_n 1, 1) := by decide +kernel
theorem dX9_lengthOf_18 : decode cX9_lengthOf 18 = .ok (.iaload, 1) := by decide +kernel
theorem dX9_lengthOf_19 : decode cX9_lengthOf 19 = .ok (.ireturn, 1) := by decide +kernel
theorem dX9_ruleOn_0 : decode cX9_ruleOn 0 = .ok (.iload_n 1, 1) := by decide +kernel
theorem dX9_ruleOn_1 : decode cX9_ruleOn 1 = .ok (.invokestatic 29, 3) := by decide +kernel
theorem dX9_ruleOn_4 : decode cX9_ruleOn 4 = .ok (.ifCond .eq 7, 3) := by decide +kernel
theorem dX9_ruleOn_7 : decode cX9_ruleOn 7 = .ok (.iconst (-1), 1) := by decide +kernel
theorem dX9_ruleOn_8 : decode cX9_ruleOn 8 = .ok (.goto 9, 3) := by decide +kernel
theorem dX9_ruleOn_11 : decode cX9_ruleOn 11 = .ok (.aload_n 0, 1) := by decide +kernel
theorem dX9_ruleOn_12 : decode cX9_ruleOn 12 = .ok (.getfield 18, 3) := by decide +kernel
theorem dX9_ruleOn_15 : decode cX9_ruleOn 15 = .ok (.iload_n 1, 1) := by decide +kernel
theorem dX9_ruleOn_16 : decode cX9_ruleOn 16 = .ok (.iaload, 1) := by decide +kernel
theorem dX9_ruleOn_17 : decode cX9_ruleOn 17 = .ok (.ireturn, 1) := by decide +kernel
theorem dX9_hold_0 : decode cX9_hold 0 = .ok (.iload_n 1, 1) := by decide +kernel
theorem dX9_hold_1 : decode cX9_hold 1 = .ok (.invokestatic 29, 3) := by decide +kernel
theorem dX9_hold_4 : decode cX9_hold 4 = .ok (.ifCond .ne 14, 3) := by decide +kernel
theorem dX9_hold_7 : decode cX9_hold 7 = .ok (.iload_n 2, 1) := by decide +kernel
theorem dX9_hold_8 : decode cX9_hold 8 = .ok (.aload_n 0, 1) := by decide +kernel
theorem dX9_hold_9 : decode cX9_hold 9 = .ok (.getfield 25, 3) := by decide +kernel
theorem dX9_hold_12 : decode cX9_hold 12 = .ok (.getfield 40, 3) := by decide +kernel
theorem dX9_hold_15 : decode cX9_hold 15 = .ok (.if_icmp .lt 4, 3) := by decide +kernel
theorem dX9_hold_18 : decode cX9_hold 18 = .ok (.return_, 1) := by decide +kernel
theorem dX9_hold_19 : decode cX9_hold 19 = .ok (.aload_n 0, 1) := by decide +kernel
theorem dX9_hold_20 : decode cX9_hold 20 = .ok (.getfield 11, 3) := by decide +kernel
theorem dX9_hold_23 : decode cX9_hold 23 = .ok (.iload_n 1, 1) := by decide +kernel
theorem dX9_hold_24 : decode cX9_hold 24 = .ok (.iload_n 2, 1) := by decide +kernel
theorem dX9_hold_25 : decode cX9_hold 25 = .ok (.ifCond .ge 8, 3) := by decide +kernel
theorem dX9_hold_28 : decode cX9_hold 28 = .ok (.bipush (-2), 2) := by decide +kernel
theorem dX9_hold_30 : decode cX9_hold 30 = .ok (.goto 4, 3) := by decide +kernel
theorem dX9_hold_33 : decode cX9_hold 33 = .ok (.iconst (-1), 1) := by decide +kernel
theorem dX9_hold_34 : decode cX9_hold 34 = .ok (.iastore, 1) := by decide +kernel
theorem dX9_hold_35 : decode cX9_hold 35 = .ok (.aload_n 0, 1) := by decide +kernel
theorem dX9_hold_36 : decode cX9_hold 36 = .ok (.getfield 18, 3) := by decide +kernel
theorem dX9_hold_39 : decode cX9_hold 39 = .ok (.iload_n 1, 1) := by decide +kernel
theorem dX9_hold_40 : decode cX9_hold 40 = .ok (.iload_n 2, 1) := by decide +kernel
theorem dX9_hold_41 : decode cX9_hold 41 = .ok (.ifCond .ge 7, 3) := by decide +kernel
theorem dX9_hold_44 : decode cX9_hold 44 = .ok (.iconst (-1), 1) := by decide +kernel
theorem dX9_hold_45 : decode cX9_hold 45 = .ok (.goto 4, 3) := by decide +kernel
theorem dX9_hold_48 : decode cX9_hold 48 = .ok (.iload_n 2, 1) := by decide +kernel
theorem dX9_hold_49 : decode cX9_hold 49 = .ok (.iastore, 1) := by decide +kernel
theorem dX9_hold_50 : decode cX9_hold 50 = .ok (.aload_n 0, 1) := by decide +kernel
theorem dX9_hold_51 : decode cX9_hold 51 = .ok (.getfield 15, 3) := by decide +kernel
theorem dX9_hold_54 : decode cX9_hold 54 = .ok (.iload_n 1, 1) := by decide +kernel
theorem dX9_hold_55 : decode cX9_hold 55 = .ok (.iconst 0, 1) := by decide +kernel
theorem dX9_hold_56 : decode cX9_hold 56 = .ok (.iastore, 1) := by decide +kernel
theorem dX9_hold_57 : decode cX9_hold 57 = .ok (.return_, 1) := by decide +kernel
theorem dX9_lay_0 : decode cX9_lay 0 = .ok (.iload_n 1, 1) := by decide +kernel
theorem dX9_lay_1 : decode cX9_lay 1 = .ok (.invokestatic 29, 3) := by decide +kernel
theorem dX9_lay_4 : decode cX9_lay 4 = .ok (.ifCond .ne 13, 3) := by decide +kernel
theorem dX9_lay_7 : decode cX9_lay 7 = .ok (.iload_n 3, 1) := by decide +kernel
theorem dX9_lay_8 : decode cX9_lay 8 = .ok (.ifCond .lt 9, 3) := by decide +kernel
theorem dX9_lay_11 : decode cX9_lay 11 = .ok (.iload_n 3, 1) := by decide +kernel
theorem dX9_lay_12 : decode cX9_lay 12 = .ok (.bipush 60, 2) := by decide +kernel
theorem dX9_lay_14 : decode cX9_lay 14 = .ok (.if_icmp .le 4, 3) := by decide +kernel
theorem dX9_lay_17 : decode cX9_lay 17 = .ok (.return_, 1) := by decide +kernel
theorem dX9_lay_18 : decode cX9_lay 18 = .ok (.aload_n 0, 1) := by decide +kernel
theorem dX9_lay_19 : decode cX9_lay 19 = .ok (.getfield 11, 3) := by decide +kernel
theorem dX9_lay_22 : decode cX9_lay 22 = .ok (.iload_n 1, 1) := by decide +kernel
theorem dX9_lay_23 : decode cX9_lay 23 = .ok (.iload_n 2, 1) := by decide +kernel
theorem dX9_lay_24 : decode cX9_lay 24 = .ok (.iastore, 1) := by decide +kernel
theorem dX9_lay_25 : decode cX9_lay 25 = .ok (.aload_n 0, 1) := by decide +kernel
theorem dX9_lay_26 : decode cX9_lay 26 = .ok (.getfield 15, 3) := by decide +kernel
theorem dX9_lay_29 : decode cX9_lay 29 = .ok (.iload_n 1, 1) := by decide +kernel
theorem dX9_lay_30 : decode cX9_lay 30 = .ok (.iload_n 3, 1) := by decide +kernel
theorem dX9_lay_31 : decode cX9_lay 31 = .ok (.iastore, 1) := by decide +kernel
theorem dX9_lay_32 : decode cX9_lay 32 = .ok (.aload_n 0, 1) := by decide +kernel
theorem dX9_lay_33 : decode cX9_lay 33 = .ok (.getfield 18, 3) := by decide +kernel
theorem dX9_lay_36 : decode cX9_lay 36 = .ok (.iload_n 1, 1) := by decide +kernel
theorem dX9_lay_37 : decode cX9_lay 37 = .ok (.iconst (-1), 1) := by decide +kernel
theorem dX9_lay_38 : decode cX9_lay 38 = .ok (.iastore, 1) := by decide +kernel
theorem dX9_lay_39 : decode cX9_lay 39 = .ok (.iconst 0, 1) := by decide +kernel
theorem dX9_lay_40 : decode cX9_lay 40 = .ok (.istore 4, 2) := by decide +kernel
theorem dX9_lay_42 : decode cX9_lay 42 = .ok (.iload 4, 2) := by decide +kernel
theorem dX9_lay_44 : decode cX9_lay 44 = .ok (.iload_n 3, 1) := by decide +kernel
theorem dX9_lay_45 : decode cX9_lay 45 = .ok (.if_icmp .ge 22, 3) := by decide +kernel
theorem dX9_lay_48 : decode cX9_lay 48 = .ok (.aload_n 0, 1) := by decide +kernel
theorem dX9_lay_49 : decode cX9_lay 49 = .ok (.getfield 21, 3) := by decide +kernel
theorem dX9_lay_52 : decode cX9_lay 52 = .ok (.iload_n 1, 1) := by decide +kernel
theorem dX9_lay_53 : decode cX9_lay 53 = .ok (.bipush 60, 2) := by decide +kernel
theorem dX9_lay_55 : decode cX9_lay 55 = .ok (.imul, 1) := by decide +kernel
theorem dX9_lay_56 : decode cX9_lay 56 = .ok (.iload 4, 2) := by decide +kernel
theorem dX9_lay_58 : decode cX9_lay 58 = .ok (.iadd, 1) := by decide +kernel
theorem dX9_lay_59 : decode cX9_lay 59 = .ok (.lconst 0, 1) := by decide +kernel
theorem dX9_lay_60 : decode cX9_lay 60 = .ok (.lastore, 1) := by decide +kernel
theorem dX9_lay_61 : decode cX9_lay 61 = .ok (.iinc 4 1, 3) := by decide +kernel
theorem dX9_lay_64 : decode cX9_lay 64 = .ok (.goto (-22), 3) := by decide +kernel
theorem dX9_lay_67 : decode cX9_lay 67 = .ok (.return_, 1) := by decide +kernel
theorem dX9_refusal_0 : decode cX9_refusal 0 = .ok (.aload_n 0, 1) := by decide +kernel
theorem dX9_refusal_1 : decode cX9_refusal 1 = .ok (.iload_n 1, 1) := by decide +kernel
theorem dX9_refusal_2 : decode cX9_refusal 2 = .ok (.invokevirtual 33, 3) := by decide +kernel
theorem dX9_refusal_5 : decode cX9_refusal 5 = .ok (.ifCond .eq 6, 3) := by decide +kernel
theorem dX9_refusal_8 : decode cX9_refusal 8 = .ok (.bipush (-11), 2) := by decide +kernel
theorem dX9_refusal_10 : decode cX9_refusal 10 = .ok (.ireturn, 1) := by decide +kernel
theorem dX9_refusal_11 : decode cX9_refusal 11 = .ok (.aload_n 0, 1) := by decide +kernel
theorem dX9_refusal_12 : decode cX9_refusal 12 = .ok (.iload_n 1, 1) := by decide +kernel
theorem dX9_refusal_13 : decode cX9_refusal 13 = .ok (.invokevirtual 36, 3) := by decide +kernel
theorem dX9_refusal_16 : decode cX9_refusal 16 = .ok (.iconst (-1), 1) := by decide +kernel
theorem dX9_refusal_17 : decode cX9_refusal 17 = .ok (.if_icmp .ne 6, 3) := by decide +kernel
theorem dX9_refusal_20 : decode cX9_refusal 20 = .ok (.bipush (-12), 2) := by decide +kernel
theorem dX9_refusal_22 : decode cX9_refusal 22 = .ok (.ireturn, 1) := by decide +kernel
theorem dX9_refusal_23 : decode cX9_refusal 23 = .ok (.iload_n 2, 1) := by decide +kernel
theorem dX9_refusal_24 : decode cX9_refusal 24 = .ok (.ifCond .lt 12, 3) := by decide +kernel
theorem dX9_refusal_27 : decode cX9_refusal 27 = .ok (.iload_n 2, 1) := by decide +kernel
theorem dX9_refusal_28 : decode cX9_refusal 28 = .ok (.aload_n 0, 1) := by decide +kernel
theorem dX9_refusal_29 : decode cX9_refusal 29 = .ok (.iload_n 1, 1) := by decide +kernel
theorem dX9_refusal_30 : decode cX9_refusal 30 = .ok (.invokevirtual 46, 3) := by decide +kernel
theorem dX9_refusal_33 : decode cX9_refusal 33 = .ok (.if_icmp .lt 8, 3) := by decide +kernel
theorem dX9_refusal_36 : decode cX9_refusal 36 = .ok (.bipush (-13), 2) := by decide +kernel
theorem dX9_refusal_38 : decode cX9_refusal 38 = .ok (.goto 4, 3) := by decide +kernel
theorem dX9_refusal_41 : decode cX9_refusal 41 = .ok (.iconst 0, 1) := by decide +kernel
theorem dX9_refusal_42 : decode cX9_refusal 42 = .ok (.ireturn, 1) := by decide +kernel
theorem dX9_elementAt_0 : decode cX9_elementAt 0 = .ok (.aload_n 0, 1) := by decide +kernel
theorem dX9_elementAt_1 : decode cX9_elementAt 1 = .ok (.iload_n 1, 1) := by decide +kernel
theorem dX9_elementAt_2 : decode cX9_elementAt 2 = .ok (.iload_n 2, 1) := by decide +kernel
theorem dX9_elementAt_3 : decode cX9_elementAt 3 = .ok (.invokevirtual 49, 3) := by decide +kernel
theorem dX9_elementAt_6 : decode cX9_elementAt 6 = .ok (.ifCond .ge 9, 3) := by decide +kernel
theorem dX9_elementAt_9 : decode cX9_elementAt 9 = .ok (.ldc2_w 55, 3) := by decide +kernel
theorem dX9_elementAt_12 : decode cX9_elementAt 12 = .ok (.goto 14, 3) := by decide +kernel
theorem dX9_elementAt_15 : decode cX9_elementAt 15 = .ok (.aload_n 0, 1) := by decide +kernel
theorem dX9_elementAt_16 : decode cX9_elementAt 16 = .ok (.getfield 21, 3) := by decide +kernel
theorem dX9_elementAt_19 : decode cX9_elementAt 19 = .ok (.iload_n 1, 1) := by decide +kernel
theorem dX9_elementAt_20 : decode cX9_elementAt 20 = .ok (.bipush 60, 2) := by decide +kernel
theorem dX9_elementAt_22 : decode cX9_elementAt 22 = .ok (.imul, 1) := by decide +kernel
theorem dX9_elementAt_23 : decode cX9_elementAt 23 = .ok (.iload_n 2, 1) := by decide +kernel
theorem dX9_elementAt_24 : decode cX9_elementAt 24 = .ok (.iadd, 1) := by decide +kernel
theorem dX9_elementAt_25 : decode cX9_elementAt 25 = .ok (.laload, 1) := by decide +kernel
theorem dX9_elementAt_26 : decode cX9_elementAt 26 = .ok (.lreturn, 1) := by decide +kernel
theorem dX9_write_0 : decode cX9_write 0 = .ok (.aload_n 0, 1) := by decide +kernel
theorem dX9_write_1 : decode cX9_write 1 = .ok (.iload_n 1, 1) := by decide +kernel
theorem dX9_write_2 : decode cX9_write 2 = .ok (.iload_n 2, 1) := by decide +kernel
theorem dX9_write_3 : decode cX9_write 3 = .ok (.invokevirtual 49, 3) := by decide +kernel
theorem dX9_write_6 : decode cX9_write 6 = .ok (.ifCond .ge 4, 3) := by decide +kernel
theorem dX9_write_9 : decode cX9_write 9 = .ok (.return_, 1) := by decide +kernel
theorem dX9_write_10 : decode cX9_write 10 = .ok (.aload_n 0, 1) := by decide +kernel
theorem dX9_write_11 : decode cX9_write 11 = .ok (.getfield 21, 3) := by decide +kernel
theorem dX9_write_14 : decode cX9_write 14 = .ok (.iload_n 1, 1) := by decide +kernel
theorem dX9_write_15 : decode cX9_write 15 = .ok (.bipush 60, 2) := by decide +kernel
theorem dX9_write_17 : decode cX9_write 17 = .ok (.imul, 1) := by decide +kernel
theorem dX9_write_18 : decode cX9_write 18 = .ok (.iload_n 2, 1) := by decide +kernel
theorem dX9_write_19 : decode cX9_write 19 = .ok (.iadd, 1) := by decide +kernel
theorem dX9_write_20 : decode cX9_write 20 = .ok (.aload_n 0, 1) := by decide +kernel
theorem dX9_write_21 : decode cX9_write 21 = .ok (.getfield 11, 3) := by decide +kernel
theorem dX9_write_24 : decode cX9_write 24 = .ok (.iload_n 1, 1) := by decide +kernel
theorem dX9_write_25 : decode cX9_write 25 = .ok (.iaload, 1) := by decide +kernel
theorem dX9_write_26 : decode cX9_write 26 = .ok (.lload_n 3, 1) := by decide +kernel
theorem dX9_write_27 : decode cX9_write 27 = .ok (.invokestatic 57, 3) := by decide +kernel
theorem dX9_write_30 : decode cX9_write 30 = .ok (.lastore, 1) := by decide +kernel
theorem dX9_write_31 : decode cX9_write 31 = .ok (.return_, 1) := by decide +kernel
theorem dX9_cut_0 : decode cX9_cut 0 = .ok (.iload_n 0, 1) := by decide +kernel
theorem dX9_cut_1 : decode cX9_cut 1 = .ok (.tableswitch 47 0 3 #[31, 36, 41, 45], 31) := by decide +kernel
theorem dX9_cut_32 : decode cX9_cut 32 = .ok (.lload_n 1, 1) := by decide +kernel
theorem dX9_cut_33 : decode cX9_cut 33 = .ok (.l2i, 1) := by decide +kernel
theorem dX9_cut_34 : decode cX9_cut 34 = .ok (.i2b, 1) := by decide +kernel
theorem dX9_cut_35 : decode cX9_cut 35 = .ok (.i2l, 1) := by decide +kernel
theorem dX9_cut_36 : decode cX9_cut 36 = .ok (.lreturn, 1) := by decide +kernel
theorem dX9_cut_37 : decode cX9_cut 37 = .ok (.lload_n 1, 1) := by decide +kernel
theorem dX9_cut_38 : decode cX9_cut 38 = .ok (.l2i, 1) := by decide +kernel
theorem dX9_cut_39 : decode cX9_cut 39 = .ok (.i2s, 1) := by decide +kernel
theorem dX9_cut_40 : decode cX9_cut 40 = .ok (.i2l, 1) := by decide +kernel
theorem dX9_cut_41 : decode cX9_cut 41 = .ok (.lreturn, 1) := by decide +kernel
theorem dX9_cut_42 : decode cX9_cut 42 = .ok (.lload_n 1, 1) := by decide +kernel
theorem dX9_cut_43 : decode cX9_cut 43 = .ok (.l2i, 1) := by decide +kernel
theorem dX9_cut_44 : decode cX9_cut 44 = .ok (.i2l, 1) := by decide +kernel
theorem dX9_cut_45 : decode cX9_cut 45 = .ok (.lreturn, 1) := by decide +kernel
theorem dX9_cut_46 : decode cX9_cut 46 = .ok (.lload_n 1, 1) := by decide +kernel
theorem dX9_cut_47 : decode cX9_cut 47 = .ok (.lreturn, 1) := by decide +kernel
theorem dX9_cut_48 : decode cX9_cut 48 = .ok (.lload_n 1, 1) := by decide +kernel
theorem dX9_cut_49 : decode cX9_cut 49 = .ok (.lconst 0, 1) := by decide +kernel
theorem dX9_cut_50 : decode cX9_cut 50 = .ok (.lcmp, 1) := by decide +kernel
theorem dX9_cut_51 : decode cX9_cut 51 = .ok (.ifCond .eq 7, 3) := by decide +kernel
theorem dX9_cut_54 : decode cX9_cut 54 = .ok (.lconst 1, 1) := by decide +kernel
theorem dX9_cut_55 : decode cX9_cut 55 = .ok (.goto 4, 3) := by decide +kernel
theorem dX9_cut_58 : decode cX9_cut 58 = .ok (.lconst 0, 1) := by decide +kernel
theorem dX9_cut_59 : decode cX9_cut 59 = .ok (.lreturn, 1) := by decide +kernel
theorem dX9_move_0 : decode cX9_move 0 = .ok (.iload 5, 2) := by decide +kernel
theorem dX9_move_2 : decode cX9_move 2 = .ok (.ifCond .lt 37, 3) := by decide +kernel
theorem dX9_move_5 : decode cX9_move 5 = .ok (.iload_n 2, 1) := by decide +kernel
theorem dX9_move_6 : decode cX9_move 6 = .ok (.ifCond .lt 33, 3) := by decide +kernel
theorem dX9_move_9 : decode cX9_move 9 = .ok (.iload 4, 2) := by decide +kernel
theorem dX9_move_11 : decode cX9_move 11 = .ok (.ifCond .lt 28, 3) := by decide +kernel
theorem dX9_move_14 : decode cX9_move 14 = .ok (.iload 5, 2) := by decide +kernel
theorem dX9_move_16 : decode cX9_move 16 = .ok (.aload_n 0, 1) := by decide +kernel
theorem dX9_move_17 : decode cX9_move 17 = .ok (.iload_n 1, 1) := by decide +kernel
theorem dX9_move_18 : decode cX9_move 18 = .ok (.invokevirtual 46, 3) := by decide +kernel
theorem dX9_move_21 : decode cX9_move 21 = .ok (.iload_n 2, 1) := by decide +kernel
theorem dX9_move_22 : decode cX9_move 22 = .ok (.isub, 1) := by decide +kernel
theorem dX9_move_23 : decode cX9_move 23 = .ok (.if_icmp .gt 16, 3) := by decide +kernel
theorem dX9_move_26 : decode cX9_move 26 = .ok (.iload 5, 2) := by decide +kernel
theorem dX9_move_28 : decode cX9_move 28 = .ok (.aload_n 0, 1) := by decide +kernel
theorem dX9_move_29 : decode cX9_move 29 = .ok (.iload_n 3, 1) := by decide +kernel
theorem dX9_move_30 : decode cX9_move 30 = .ok (.invokevirtual 46, 3) := by decide +kernel
theorem dX9_move_33 : decode cX9_move 33 = .ok (.iload 4, 2) := by decide +kernel
theorem dX9_move_35 : decode cX9_move 35 = .ok (.isub, 1) := by decide +kernel
theorem dX9_move_36 : decode cX9_move 36 = .ok (.if_icmp .le 4, 3) := by decide +kernel
theorem dX9_move_39 : decode cX9_move 39 = .ok (.return_, 1) := by decide +kernel
theorem dX9_move_40 : decode cX9_move 40 = .ok (.aload_n 0, 1) := by decide +kernel
theorem dX9_move_41 : decode cX9_move 41 = .ok (.getfield 21, 3) := by decide +kernel
theorem dX9_move_44 : decode cX9_move 44 = .ok (.iload_n 1, 1) := by decide +kernel
theorem dX9_move_45 : decode cX9_move 45 = .ok (.bipush 60, 2) := by decide +kernel
theorem dX9_move_47 : decode cX9_move 47 = .ok (.imul, 1) := by decide +kernel
theorem dX9_move_48 : decode cX9_move 48 = .ok (.iload_n 2, 1) := by decide +kernel
theorem dX9_move_49 : decode cX9_move 49 = .ok (.iadd, 1) := by decide +kernel
theorem dX9_move_50 : decode cX9_move 50 = .ok (.aload_n 0, 1) := by decide +kernel
theorem dX9_move_51 : decode cX9_move 51 = .ok (.getfield 21, 3) := by decide +kernel
theorem dX9_move_54 : decode cX9_move 54 = .ok (.iload_n 3, 1) := by decide +kernel
theorem dX9_move_55 : decode cX9_move 55 = .ok (.bipush 60, 2) := by decide +kernel
theorem dX9_move_57 : decode cX9_move 57 = .ok (.imul, 1) := by decide +kernel
theorem dX9_move_58 : decode cX9_move 58 = .ok (.iload 4, 2) := by decide +kernel
theorem dX9_move_60 : decode cX9_move 60 = .ok (.iadd, 1) := by decide +kernel
theorem dX9_move_61 : decode cX9_move 61 = .ok (.iload 5, 2) := by decide +kernel
theorem dX9_move_63 : decode cX9_move 63 = .ok (.invokestatic 61, 3) := by decide +kernel
theorem dX9_move_66 : decode cX9_move 66 = .ok (.return_, 1) := by decide +kernel
theorem dX10_init_0 : decode cX10_init 0 = .ok (.aload_n 0, 1) := by decide +kernel
theorem dX10_init_1 : decode cX10_init 1 = .ok (.invokespecial 1, 3) := by decide +kernel
theorem dX10_init_4 : decode cX10_init 4 = .ok (.aload_n 0, 1) := by decide +kernel
theorem dX10_init_5 : decode cX10_init 5 = .ok (.sipush 160, 3) := by decide +kernel
theorem dX10_init_8 : decode cX10_init 8 = .ok (.newarray .int, 2) := by decide +kernel
theorem dX10_init_10 : decode cX10_init 10 = .ok (.putfield 9, 3) := by decide +kernel
theorem dX10_init_13 : decode cX10_init 13 = .ok (.aload_n 0, 1) := by decide +kernel
theorem dX10_init_14 : decode cX10_init 14 = .ok (.bipush 8, 2) := by decide +kernel
theorem dX10_init_16 : decode cX10_init 16 = .ok (.newarray .int, 2) := by decide +kernel
theorem dX10_init_18 : decode cX10_init 18 = .ok (.putfield 13, 3) := by decide +kernel
theorem dX10_init_21 : decode cX10_init 21 = .ok (.aload_n 0, 1) := by decide +kernel
theorem dX10_init_22 : decode cX10_init 22 = .ok (.sipush 160, 3) := by decide +kernel
theorem dX10_init_25 : decode cX10_init 25 = .ok (.newarray .int, 2) := by decide +kernel
theorem dX10_init_27 : decode cX10_init 27 = .ok (.putfield 16, 3) := by decide +kernel
theorem dX10_init_30 : decode cX10_init 30 = .ok (.return_, 1) := by decide +kernel
theorem dX10_begin_0 : decode cX10_begin 0 = .ok (.aload_n 0, 1) := by decide +kernel
theorem dX10_begin_1 : decode cX10_begin 1 = .ok (.iconst 0, 1) := by decide +kernel
theorem dX10_begin_2 : decode cX10_begin 2 = .ok (.putfield 19, 3) := by decide +kernel
theorem dX10_begin_5 : decode cX10_begin 5 = .ok (.aload_n 0, 1) := by decide +kernel
theorem dX10_begin_6 : decode cX10_begin 6 = .ok (.iconst 0, 1) := by decide +kernel
theorem dX10_begin_7 : decode cX10_begin 7 = .ok (.putfield 23, 3) := by decide +kernel
theorem dX10_begin_10 : decode cX10_begin 10 = .ok (.return_, 1) := by decide +kernel
theorem dX10_add_0 : decode cX10_add 0 = .ok (.aload_n 0, 1) := by decide +kernel
theorem dX10_add_1 : decode cX10_add 1 = .ok (.getfield 19, 3) := by decide +kernel
theorem dX10_add_4 : decode cX10_add 4 = .ok (.sipush 160, 3) := by decide +kernel
theorem dX10_add_7 : decode cX10_add 7 = .ok (.if_icmp .lt 4, 3) := by decide +kernel
theorem dX10_add_10 : decode cX10_add 10 = .ok (.return_, 1) := by decide +kernel
theorem dX10_add_11 : decode cX10_add 11 = .ok (.aload_n 0, 1) := by decide +kernel
theorem dX10_add_12 : decode cX10_add 12 = .ok (.getfield 9, 3) := by decide +kernel
theorem dX10_add_15 : decode cX10_add 15 = .ok (.aload_n 0, 1) := by decide +kernel
theorem dX10_add_16 : decode cX10_add 16 = .ok (.dup, 1) := by decide +kernel
theorem dX10_add_17 : decode cX10_add 17 = .ok (.getfield 19, 3) := by decide +kernel
theorem dX10_add_20 : decode cX10_add 20 = .ok (.dup_x1, 1) := by decide +kernel
theorem dX10_add_21 : decode cX10_add 21 = .ok (.iconst 1, 1) := by decide +kernel
theorem dX10_add_22 : decode cX10_add 22 = .ok (.iadd, 1) := by decide +kernel
theorem dX10_add_23 : decode cX10_add 23 = .ok (.putfield 19, 3) := by decide +kernel
theorem dX10_add_26 : decode cX10_add 26 = .ok (.iload_n 1, 1) := by decide +kernel
theorem dX10_add_27 : decode cX10_add 27 = .ok (.iastore, 1) := by decide +kernel
theorem dX10_add_28 : decode cX10_add 28 = .ok (.iload_n 1, 1) := by decide +kernel
theorem dX10_add_29 : decode cX10_add 29 = .ok (.sipush 10000, 3) := by decide +kernel
theorem dX10_add_32 : decode cX10_add 32 = .ok (.if_icmp .lt 26, 3) := by decide +kernel
theorem dX10_add_35 : decode cX10_add 35 = .ok (.iload_n 1, 1) := by decide +kernel
theorem dX10_add_36 : decode cX10_add 36 = .ok (.sipush 10008, 3) := by decide +kernel
theorem dX10_add_39 : decode cX10_add 39 = .ok (.if_icmp .ge 19, 3) := by decide +kernel
theorem dX10_add_42 : decode cX10_add 42 = .ok (.aload_n 0, 1) := by decide +kernel
theorem dX10_add_43 : decode cX10_add 43 = .ok (.dup, 1) := by decide +kernel
theorem dX10_add_44 : decode cX10_add 44 = .ok (.getfield 23, 3) := by decide +kernel
theorem dX10_add_47 : decode cX10_add 47 = .ok (.iconst 1, 1) := by decide +kernel
theorem dX10_add_48 : decode cX10_add 48 = .ok (.iload_n 1, 1) := by decide +kernel
theorem dX10_add_49 : decode cX10_add 49 = .ok (.sipush 10000, 3) := by decide +kernel
theorem dX10_add_52 : decode cX10_add 52 = .ok (.isub, 1) := by decide +kernel
theorem dX10_add_53 : decode cX10_add 53 = .ok (.ishl, 1) := by decide +kernel
theorem dX10_add_54 : decode cX10_add 54 = .ok (.ior, 1) := by decide +kernel
theorem dX10_add_55 : decode cX10_add 55 = .ok (.putfield 23, 3) := by decide +kernel
theorem dX10_add_58 : decode cX10_add 58 = .ok (.return_, 1) := by decide +kernel
theorem dX10_copyFrom_0 : decode cX10_copyFrom 0 = .ok (.aload_n 0, 1) := by decide +kernel
theorem dX10_copyFrom_1 : decode cX10_copyFrom 1 = .ok (.aload_n 1, 1) := by decide +kernel
theorem dX10_copyFrom_2 : decode cX10_copyFrom 2 = .ok (.getfield 19, 3) := by decide +kernel
theorem dX10_copyFrom_5 : decode cX10_copyFrom 5 = .ok (.putfield 19, 3) := by decide +kernel
theorem dX10_copyFrom_8 : decode cX10_copyFrom 8 = .ok (.aload_n 0, 1) := by decide +kernel
theorem dX10_copyFrom_9 : decode cX10_copyFrom 9 = .ok (.aload_n 1, 1) := by decide +kernel
theorem dX10_copyFrom_10 : decode cX10_copyFrom 10 = .ok (.getfield 23, 3) := by decide +kernel
theorem dX10_copyFrom_13 : decode cX10_copyFrom 13 = .ok (.putfield 23, 3) := by decide +kernel
theorem dX10_copyFrom_16 : decode cX10_copyFrom 16 = .ok (.aload_n 1, 1) := by decide +kernel
theorem dX10_copyFrom_17 : decode cX10_copyFrom 17 = .ok (.getfield 9, 3) := by decide +kernel
theorem dX10_copyFrom_20 : decode cX10_copyFrom 20 = .ok (.iconst 0, 1) := by decide +kernel
theorem dX10_copyFrom_21 : decode cX10_copyFrom 21 = .ok (.aload_n 0, 1) := by decide +kernel
theorem dX10_copyFrom_22 : decode cX10_copyFrom 22 = .ok (.getfield 9, 3) := by decide +kernel
theorem dX10_copyFrom_25 : decode cX10_copyFrom 25 = .ok (.iconst 0, 1) := by decide +kernel
theorem dX10_copyFrom_26 : decode cX10_copyFrom 26 = .ok (.aload_n 0, 1) := by decide +kernel
theorem dX10_copyFrom_27 : decode cX10_copyFrom 27 = .ok (.getfield 19, 3) := by decide +kernel
theorem dX10_copyFrom_30 : decode cX10_copyFrom 30 = .ok (.invokestatic 26, 3) := by decide +kernel
theorem dX10_copyFrom_33 : decode cX10_copyFrom 33 = .ok (.return_, 1) := by decide +kernel
theorem dX10_uses_0 : decode cX10_uses 0 = .ok (.aload_n 0, 1) := by decide +kernel
theorem dX10_uses_1 : decode cX10_uses 1 = .ok (.getfield 23, 3) := by decide +kernel
theorem dX10_uses_4 : decode cX10_uses 4 = .ok (.iload_n 1, 1) := by decide +kernel
theorem dX10_uses_5 : decode cX10_uses 5 = .ok (.ishr, 1) := by decide +kernel
theorem dX10_uses_6 : decode cX10_uses 6 = .ok (.iconst 1, 1) := by decide +kernel
theorem dX10_uses_7 : decode cX10_uses 7 = .ok (.iand, 1) := by decide +kernel
theorem dX10_uses_8 : decode cX10_uses 8 = .ok (.ifCond .eq 7, 3) := by decide +kernel
theorem dX10_uses_11 : decode cX10_uses 11 = .ok (.iconst 1, 1) := by decide +kernel
theorem dX10_uses_12 : decode cX10_uses 12 = .ok (.goto 4, 3) := by decide +kernel
theorem dX10_uses_15 : decode cX10_uses 15 = .ok (.iconst 0, 1) := by decide +kernel
theorem dX10_uses_16 : decode cX10_uses 16 = .ok (.ireturn, 1) := by decide +kernel
theorem dX10_say_0 : decode cX10_say 0 = .ok (.aload_n 0, 1) := by decide +kernel
theorem dX10_say_1 : decode cX10_say 1 = .ok (.getfield 13, 3) := by decide +kernel
theorem dX10_say_4 : decode cX10_say 4 = .ok (.iconst 0, 1) := by decide +kernel
theorem dX10_say_5 : decode cX10_say 5 = .ok (.iload_n 1, 1) := by decide +kernel
theorem dX10_say_6 : decode cX10_say 6 = .ok (.iastore, 1) := by decide +kernel
theorem dX10_say_7 : decode cX10_say 7 = .ok (.aload_n 0, 1) := by decide +kernel
theorem dX10_say_8 : decode cX10_say 8 = .ok (.getfield 13, 3) := by decide +kernel
theorem dX10_say_11 : decode cX10_say 11 = .ok (.iconst 1, 1) := by decide +kernel
theorem dX10_say_12 : decode cX10_say 12 = .ok (.iload_n 2, 1) := by decide +kernel
theorem dX10_say_13 : decode cX10_say 13 = .ok (.iastore, 1) := by decide +kernel
theorem dX10_say_14 : decode cX10_say 14 = .ok (.aload_n 0, 1) := by decide +kernel
theorem dX10_say_15 : decode cX10_say 15 = .ok (.getfield 13, 3) := by decide +kernel
theorem dX10_say_18 : decode cX10_say 18 = .ok (.iconst 2, 1) := by decide +kernel
theorem dX10_say_19 : decode cX10_say 19 = .ok (.iload_n 3, 1) := by decide +kernel
theorem dX10_say_20 : decode cX10_say 20 = .ok (.iastore, 1) := by decide +kernel
theorem dX10_say_21 : decode cX10_say 21 = .ok (.aload_n 0, 1) := by decide +kernel
theorem dX10_say_22 : decode cX10_say 22 = .ok (.getfield 13, 3) := by decide +kernel
theorem dX10_say_25 : decode cX10_say 25 = .ok (.iconst 3, 1) := by decide +kernel
theorem dX10_say_26 : decode cX10_say 26 = .ok (.iload 4, 2) := by decide +kernel
theorem dX10_say_28 : decode cX10_say 28 = .ok (.iastore, 1) := by decide +kernel
theorem dX10_say_29 : decode cX10_say 29 = .ok (.aload_n 0, 1) := by decide +kernel
theorem dX10_say_30 : decode cX10_say 30 = .ok (.getfield 13, 3) := by decide +kernel
theorem dX10_say_33 : decode cX10_say 33 = .ok (.iconst 4, 1) := by decide +kernel
theorem dX10_say_34 : decode cX10_say 34 = .ok (.iload 5, 2) := by decide +kernel
theorem dX10_say_36 : decode cX10_say 36 = .ok (.iastore, 1) := by decide +kernel
theorem dX10_say_37 : decode cX10_say 37 = .ok (.aload_n 0, 1) := by decide +kernel
theorem dX10_say_38 : decode cX10_say 38 = .ok (.getfield 13, 3) := by decide +kernel
theorem dX10_say_41 : decode cX10_say 41 = .ok (.iconst 5, 1) := by decide +kernel
theorem dX10_say_42 : decode cX10_say 42 = .ok (.iload 6, 2) := by decide +kernel
theorem dX10_say_44 : decode cX10_say 44 = .ok (.iastore, 1) := by decide +kernel
theorem dX10_say_45 : decode cX10_say 45 = .ok (.return_, 1) := by decide +kernel
theorem dX10_sayChance_0 : decode cX10_sayChance 0 = .ok (.aload_n 0, 1) := by decide +kernel
theorem dX10_sayChance_1 : decode cX10_sayChance 1 = .ok (.getfield 13, 3) := by decide +kernel
theorem dX10_sayChance_4 : decode cX10_sayChance 4 = .ok (.bipush 6, 2) := by decide +kernel
theorem dX10_sayChance_6 : decode cX10_sayChance 6 = .ok (.iload_n 1, 1) := by decide +kernel
theorem dX10_sayChance_7 : decode cX10_sayChance 7 = .ok (.iastore, 1) := by decide +kernel
theorem dX10_sayChance_8 : decode cX10_sayChance 8 = .ok (.aload_n 0, 1) := by decide +kernel
theorem dX10_sayChance_9 : decode cX10_sayChance 9 = .ok (.getfield 13, 3) := by decide +kernel
theorem dX10_sayChance_12 : decode cX10_sayChance 12 = .ok (.bipush 7, 2) := by decide +kernel
theorem dX10_sayChance_14 : decode cX10_sayChance 14 = .ok (.iload_n 2, 1) := by decide +kernel
theorem dX10_sayChance_15 : decode cX10_sayChance 15 = .ok (.iastore, 1) := by decide +kernel
theorem dX10_sayChance_16 : decode cX10_sayChance 16 = .ok (.return_, 1) := by decide +kernel
theorem dX10_worked_0 : decode cX10_worked 0 = .ok (.iconst 0, 1) := by decide +kernel
theorem dX10_worked_1 : decode cX10_worked 1 = .ok (.istore_n 1, 1) := by decide +kernel
theorem dX10_worked_2 : decode cX10_worked 2 = .ok (.iconst 0, 1) := by decide +kernel
theorem dX10_worked_3 : decode cX10_worked 3 = .ok (.istore_n 2, 1) := by decide +kernel
theorem dX10_worked_4 : decode cX10_worked 4 = .ok (.iload_n 2, 1) := by decide +kernel
theorem dX10_worked_5 : decode cX10_worked 5 = .ok (.aload_n 0, 1) := by decide +kernel
theorem dX10_worked_6 : decode cX10_worked 6 = .ok (.getfield 19, 3) := by decide +kernel
theorem dX10_worked_9 : decode cX10_worked 9 = .ok (.if_icmp .ge 256, 3) := by decide +kernel
theorem dX10_worked_12 : decode cX10_worked 12 = .ok (.aload_n 0, 1) := by decide +kernel
theorem dX10_worked_13 : decode cX10_worked 13 = .ok (.getfield 9, 3) := by decide +kernel
theorem dX10_worked_16 : decode cX10_worked 16 = .ok (.iload_n 2, 1) := by decide +kernel
theorem dX10_worked_17 : decode cX10_worked 17 = .ok (.iaload, 1) := by decide +kernel
theorem dX10_worked_18 : decode cX10_worked 18 = .ok (.istore_n 3, 1) := by decide +kernel
theorem dX10_worked_19 : decode cX10_worked 19 = .ok (.iload_n 3, 1) := by decide +kernel
theorem dX10_worked_20 : decode cX10_worked 20 = .ok (.sipush 20000, 3) := by decide +kernel
theorem dX10_worked_23 : decode cX10_worked 23 = .ok (.if_icmp .ge 48, 3) := by decide +kernel
theorem dX10_worked_26 : decode cX10_worked 26 = .ok (.iload_n 1, 1) := by decide +kernel
theorem dX10_worked_27 : decode cX10_worked 27 = .ok (.sipush 160, 3) := by decide +kernel
theorem dX10_worked_30 : decode cX10_worked 30 = .ok (.if_icmp .lt 5, 3) := by decide +kernel
theorem dX10_worked_33 : decode cX10_worked 33 = .ok (.iconst 0, 1) := by decide +kernel
theorem dX10_worked_34 : decode cX10_worked 34 = .ok (.ireturn, 1) := by decide +kernel
theorem dX10_worked_35 : decode cX10_worked 35 = .ok (.aload_n 0, 1) := by decide +kernel
theorem dX10_worked_36 : decode cX10_worked 36 = .ok (.getfield 16, 3) := by decide +kernel
theorem dX10_worked_39 : decode cX10_worked 39 = .ok (.iload_n 1, 1) := by decide +kernel
theorem dX10_worked_40 : decode cX10_worked 40 = .ok (.iinc 1 1, 3) := by decide +kernel
theorem dX10_worked_43 : decode cX10_worked 43 = .ok (.iload_n 3, 1) := by decide +kernel
theorem dX10_worked_44 : decode cX10_worked 44 = .ok (.sipush 10000, 3) := by decide +kernel
theorem dX10_worked_47 : decode cX10_worked 47 = .ok (.if_icmp .ge 7, 3) := by decide +kernel
theorem dX10_worked_50 : decode cX10_worked 50 = .ok (.iload_n 3, 1) := by decide +kernel
theorem dX10_worked_51 : decode cX10_worked 51 = .ok (.goto 16, 3) := by decide +kernel
theorem dX10_worked_54 : decode cX10_worked 54 = .ok (.aload_n 0, 1) := by decide +kernel
theorem dX10_worked_55 : decode cX10_worked 55 = .ok (.getfield 13, 3) := by decide +kernel
theorem dX10_worked_58 : decode cX10_worked 58 = .ok (.iload_n 3, 1) := by decide +kernel
theorem dX10_worked_59 : decode cX10_worked 59 = .ok (.sipush 10000, 3) := by decide +kernel
theorem dX10_worked_62 : decode cX10_worked 62 = .ok (.isub, 1) := by decide +kernel
theorem dX10_worked_63 : decode cX10_worked 63 = .ok (.bipush 7, 2) := by decide +kernel
theorem dX10_worked_65 : decode cX10_worked 65 = .ok (.iand, 1) := by decide +kernel
theorem dX10_worked_66 : decode cX10_worked 66 = .ok (.iaload, 1) := by decide +kernel
theorem dX10_worked_67 : decode cX10_worked 67 = .ok (.iastore, 1) := by decide +kernel
theorem dX10_worked_68 : decode cX10_worked 68 = .ok (.goto 191, 3) := by decide +kernel
theorem dX10_worked_71 : decode cX10_worked 71 = .ok (.iload_n 1, 1) := by decide +kernel
theorem dX10_worked_72 : decode cX10_worked 72 = .ok (.iconst 1, 1) := by decide +kernel
theorem dX10_worked_73 : decode cX10_worked 73 = .ok (.if_icmp .lt 10, 3) := by decide +kernel
theorem dX10_worked_76 : decode cX10_worked 76 = .ok (.iload_n 3, 1) := by decide +kernel
theorem dX10_worked_77 : decode cX10_worked 77 = .ok (.sipush 20059, 3) := by decide +kernel
theorem dX10_worked_80 : decode cX10_worked 80 = .ok (.if_icmp .ne 21, 3) := by decide +kernel
theorem dX10_worked_83 : decode cX10_worked 83 = .ok (.iload_n 1, 1) := by decide +kernel
theorem dX10_worked_84 : decode cX10_worked 84 = .ok (.iconst 1, 1) := by decide +kernel
theorem dX10_worked_85 : decode cX10_worked 85 = .ok (.if_icmp .ge 7, 3) := by decide +kernel
theorem dX10_worked_88 : decode cX10_worked 88 = .ok (.iconst 0, 1) := by decide +kernel
theorem dX10_worked_89 : decode cX10_worked 89 = .ok (.goto 11, 3) := by decide +kernel
theorem dX10_worked_92 : decode cX10_worked 92 = .ok (.aload_n 0, 1) := by decide +kernel
theorem dX10_worked_93 : decode cX10_worked 93 = .ok (.getfield 16, 3) := by decide +kernel
theorem dX10_worked_96 : decode cX10_worked 96 = .ok (.iload_n 1, 1) := by decide +kernel
theorem dX10_worked_97 : decode cX10_worked 97 = .ok (.iconst 1, 1) := by decide +kernel
theorem dX10_worked_98 : decode cX10_worked 98 = .ok (.isub, 1) := by decide +kernel
theorem dX10_worked_99 : decode cX10_worked 99 = .ok (.iaload, 1) := by decide +kernel
theorem dX10_worked_100 : decode cX10_worked 100 = .ok (.ireturn, 1) := by decide +kernel
theorem dX10_worked_101 : decode cX10_worked 101 = .ok (.iload_n 3, 1) := by decide +kernel
theorem dX10_worked_102 : decode cX10_worked 102 = .ok (.sipush 20063, 3) := by decide +kernel
theorem dX10_worked_105 : decode cX10_worked 105 = .ok (.if_icmp .ne 55, 3) := by decide +kernel
theorem dX10_worked_108 : decode cX10_worked 108 = .ok (.aload_n 0, 1) := by decide +kernel
theorem dX10_worked_109 : decode cX10_worked 109 = .ok (.getfield 16, 3) := by decide +kernel
theorem dX10_worked_112 : decode cX10_worked 112 = .ok (.iload_n 1, 1) := by decide +kernel
theorem dX10_worked_113 : decode cX10_worked 113 = .ok (.iconst 1, 1) := by decide +kernel
theorem dX10_worked_114 : decode cX10_worked 114 = .ok (.isub, 1) := by decide +kernel
theorem dX10_worked_115 : decode cX10_worked 115 = .ok (.iaload, 1) := by decide +kernel
theorem dX10_worked_116 : decode cX10_worked 116 = .ok (.ifCond .eq 7, 3) := by decide +kernel
theorem dX10_worked_119 : decode cX10_worked 119 = .ok (.iconst 1, 1) := by decide +kernel
theorem dX10_worked_120 : decode cX10_worked 120 = .ok (.goto 4, 3) := by decide +kernel
theorem dX10_worked_123 : decode cX10_worked 123 = .ok (.iconst 0, 1) := by decide +kernel
theorem dX10_worked_124 : decode cX10_worked 124 = .ok (.istore 4, 2) := by decide +kernel
theorem dX10_worked_126 : decode cX10_worked 126 = .ok (.iconst 0, 1) := by decide +kernel
theorem dX10_worked_127 : decode cX10_worked 127 = .ok (.istore_n 1, 1) := by decide +kernel
theorem dX10_worked_128 : decode cX10_worked 128 = .ok (.iinc 2 1, 3) := by decide +kernel
theorem dX10_worked_131 : decode cX10_worked 131 = .ok (.iload 4, 2) := by decide +kernel
theorem dX10_worked_133 : decode cX10_worked 133 = .ok (.ifCond .ne 24, 3) := by decide +kernel
theorem dX10_worked_136 : decode cX10_worked 136 = .ok (.iload_n 2, 1) := by decide +kernel
theorem dX10_worked_137 : decode cX10_worked 137 = .ok (.aload_n 0, 1) := by decide +kernel
theorem dX10_worked_138 : decode cX10_worked 138 = .ok (.getfield 19, 3) := by decide +kernel
theorem dX10_worked_141 : decode cX10_worked 141 = .ok (.if_icmp .ge 16, 3) := by decide +kernel
theorem dX10_worked_144 : decode cX10_worked 144 = .ok (.iload_n 2, 1) := by decide +kernel
theorem dX10_worked_145 : decode cX10_worked 145 = .ok (.aload_n 0, 1) := by decide +kernel
theorem dX10_worked_146 : decode cX10_worked 146 = .ok (.getfield 9, 3) := by decide +kernel
theorem dX10_worked_149 : decode cX10_worked 149 = .ok (.iload_n 2, 1) := by decide +kernel
theorem dX10_worked_150 : decode cX10_worked 150 = .ok (.iaload, 1) := by decide +kernel
theorem dX10_worked_151 : decode cX10_worked 151 = .ok (.iconst 1, 1) := by decide +kernel
theorem dX10_worked_152 : decode cX10_worked 152 = .ok (.isub, 1) := by decide +kernel
theorem dX10_worked_153 : decode cX10_worked 153 = .ok (.invokestatic 32, 3) := by decide +kernel
theorem dX10_worked_156 : decode cX10_worked 156 = .ok (.istore_n 2, 1) := by decide +kernel
theorem dX10_worked_157 : decode cX10_worked 157 = .ok (.goto 102, 3) := by decide +kernel
theorem dX10_worked_160 : decode cX10_worked 160 = .ok (.iload_n 3, 1) := by decide +kernel
theorem dX10_worked_161 : decode cX10_worked 161 = .ok (.sipush 20033, 3) := by decide +kernel
theorem dX10_worked_164 : decode cX10_worked 164 = .ok (.if_icmp .ne 30, 3) := by decide +kernel
theorem dX10_worked_167 : decode cX10_worked 167 = .ok (.aload_n 0, 1) := by decide +kernel
theorem dX10_worked_168 : decode cX10_worked 168 = .ok (.getfield 16, 3) := by decide +kernel
theorem dX10_worked_171 : decode cX10_worked 171 = .ok (.iload_n 1, 1) := by decide +kernel
theorem dX10_worked_172 : decode cX10_worked 172 = .ok (.iconst 1, 1) := by decide +kernel
theorem dX10_worked_173 : decode cX10_worked 173 = .ok (.isub, 1) := by decide +kernel
theorem dX10_worked_174 : decode cX10_worked 174 = .ok (.aload_n 0, 1) := by decide +kernel
theorem dX10_worked_175 : decode cX10_worked 175 = .ok (.getfield 16, 3) := by decide +kernel
theorem dX10_worked_178 : decode cX10_worked 178 = .ok (.iload_n 1, 1) := by decide +kernel
theorem dX10_worked_179 : decode cX10_worked 179 = .ok (.iconst 1, 1) := by decide +kernel
theorem dX10_worked_180 : decode cX10_worked 180 = .ok (.isub, 1) := by decide +kernel
theorem dX10_worked_181 : decode cX10_worked 181 = .ok (.iaload, 1) := by decide +kernel
theorem dX10_worked_182 : decode cX10_worked 182 = .ok (.ifCond .ne 7, 3) := by decide +kernel
theorem dX10_worked_185 : decode cX10_worked 185 = .ok (.iconst 1, 1) := by decide +kernel
theorem dX10_worked_186 : decode cX10_worked 186 = .ok (.goto 4, 3) := by decide +kernel
theorem dX10_worked_189 : decode cX10_worked 189 = .ok (.iconst 0, 1) := by decide +kernel
theorem dX10_worked_190 : decode cX10_worked 190 = .ok (.iastore, 1) := by decide +kernel
theorem dX10_worked_191 : decode cX10_worked 191 = .ok (.goto 68, 3) := by decide +kernel
theorem dX10_worked_194 : decode cX10_worked 194 = .ok (.iload_n 3, 1) := by decide +kernel
theorem dX10_worked_195 : decode cX10_worked 195 = .ok (.sipush 20126, 3) := by decide +kernel
theorem dX10_worked_198 : decode cX10_worked 198 = .ok (.if_icmp .ne 23, 3) := by decide +kernel
theorem dX10_worked_201 : decode cX10_worked 201 = .ok (.aload_n 0, 1) := by decide +kernel
theorem dX10_worked_202 : decode cX10_worked 202 = .ok (.getfield 16, 3) := by decide +kernel
theorem dX10_worked_205 : decode cX10_worked 205 = .ok (.iload_n 1, 1) := by decide +kernel
theorem dX10_worked_206 : decode cX10_worked 206 = .ok (.iconst 1, 1) := by decide +kernel
theorem dX10_worked_207 : decode cX10_worked 207 = .ok (.isub, 1) := by decide +kernel
theorem dX10_worked_208 : decode cX10_worked 208 = .ok (.aload_n 0, 1) := by decide +kernel
theorem dX10_worked_209 : decode cX10_worked 209 = .ok (.getfield 16, 3) := by decide +kernel
theorem dX10_worked_212 : decode cX10_worked 212 = .ok (.iload_n 1, 1) := by decide +kernel
theorem dX10_worked_213 : decode cX10_worked 213 = .ok (.iconst 1, 1) := by decide +kernel
theorem dX10_worked_214 : decode cX10_worked 214 = .ok (.isub, 1) := by decide +kernel
theorem dX10_worked_215 : decode cX10_worked 215 = .ok (.iaload, 1) := by decide +kernel
theorem dX10_worked_216 : decode cX10_worked 216 = .ok (.ineg, 1) := by decide +kernel
theorem dX10_worked_217 : decode cX10_worked 217 = .ok (.iastore, 1) := by decide +kernel
theorem dX10_worked_218 : decode cX10_worked 218 = .ok (.goto 41, 3) := by decide +kernel
theorem dX10_worked_221 : decode cX10_worked 221 = .ok (.iload_n 1, 1) := by decide +kernel
theorem dX10_worked_222 : decode cX10_worked 222 = .ok (.iconst 1, 1) := by decide +kernel
theorem dX10_worked_223 : decode cX10_worked 223 = .ok (.if_icmp .le 36, 3) := by decide +kernel
theorem dX10_worked_226 : decode cX10_worked 226 = .ok (.iinc 1 (-1), 3) := by decide +kernel
theorem dX10_worked_229 : decode cX10_worked 229 = .ok (.aload_n 0, 1) := by decide +kernel
theorem dX10_worked_230 : decode cX10_worked 230 = .ok (.getfield 16, 3) := by decide +kernel
theorem dX10_worked_233 : decode cX10_worked 233 = .ok (.iload_n 1, 1) := by decide +kernel
theorem dX10_worked_234 : decode cX10_worked 234 = .ok (.iconst 1, 1) := by decide +kernel
theorem dX10_worked_235 : decode cX10_worked 235 = .ok (.isub, 1) := by decide +kernel
theorem dX10_worked_236 : decode cX10_worked 236 = .ok (.iload_n 3, 1) := by decide +kernel
theorem dX10_worked_237 : decode cX10_worked 237 = .ok (.sipush 20000, 3) := by decide +kernel
theorem dX10_worked_240 : decode cX10_worked 240 = .ok (.isub, 1) := by decide +kernel
theorem dX10_worked_241 : decode cX10_worked 241 = .ok (.aload_n 0, 1) := by decide +kernel
theorem dX10_worked_242 : decode cX10_worked 242 = .ok (.getfield 16, 3) := by decide +kernel
theorem dX10_worked_245 : decode cX10_worked 245 = .ok (.iload_n 1, 1) := by decide +kernel
theorem dX10_worked_246 : decode cX10_worked 246 = .ok (.iconst 1, 1) := by decide +kernel
theorem dX10_worked_247 : decode cX10_worked 247 = .ok (.isub, 1) := by decide +kernel
theorem dX10_worked_248 : decode cX10_worked 248 = .ok (.iaload, 1) := by decide +kernel
theorem dX10_worked_249 : decode cX10_worked 249 = .ok (.aload_n 0, 1) := by decide +kernel
theorem dX10_worked_250 : decode cX10_worked 250 = .ok (.getfield 16, 3) := by decide +kernel
theorem dX10_worked_253 : decode cX10_worked 253 = .ok (.iload_n 1, 1) := by decide +kernel
theorem dX10_worked_254 : decode cX10_worked 254 = .ok (.iaload, 1) := by decide +kernel
theorem dX10_worked_255 : decode cX10_worked 255 = .ok (.invokestatic 38, 3) := by decide +kernel
theorem dX10_worked_258 : decode cX10_worked 258 = .ok (.iastore, 1) := by decide +kernel
theorem dX10_worked_259 : decode cX10_worked 259 = .ok (.iinc 2 1, 3) := by decide +kernel
theorem dX10_worked_262 : decode cX10_worked 262 = .ok (.goto (-258), 3) := by decide +kernel
theorem dX10_worked_265 : decode cX10_worked 265 = .ok (.iconst 0, 1) := by decide +kernel
theorem dX10_worked_266 : decode cX10_worked 266 = .ok (.ireturn, 1) := by decide +kernel
theorem dX10_joined_0 : decode cX10_joined 0 = .ok (.iload_n 0, 1) := by decide +kernel
theorem dX10_joined_1 : decode cX10_joined 1 = .ok (.lookupswitch 188 #[(37, 176), (38, 105), (42, 160), (43, 152), (45, 156), (47, 164), (60, 119), (61, 130), (62, 141), (124, 91)], 91) := by decide +kernel
theorem dX10_joined_92 : decode cX10_joined 92 = .ok (.iload_n 1, 1) := by decide +kernel
theorem dX10_joined_93 : decode cX10_joined 93 = .ok (.ifCond .ne 7, 3) := by decide +kernel
theorem dX10_joined_96 : decode cX10_joined 96 = .ok (.iload_n 2, 1) := by decide +kernel
theorem dX10_joined_97 : decode cX10_joined 97 = .ok (.ifCond .eq 7, 3) := by decide +kernel
theorem dX10_joined_100 : decode cX10_joined 100 = .ok (.iconst 1, 1) := by decide +kernel
theorem dX10_joined_101 : decode cX10_joined 101 = .ok (.goto 4, 3) := by decide +kernel
theorem dX10_joined_104 : decode cX10_joined 104 = .ok (.iconst 0, 1) := by decide +kernel
theorem dX10_joined_105 : decode cX10_joined 105 = .ok (.ireturn, 1) := by decide +kernel
theorem dX10_joined_106 : decode cX10_joined 106 = .ok (.iload_n 1, 1) := by decide +kernel
theorem dX10_joined_107 : decode cX10_joined 107 = .ok (.ifCond .eq 11, 3) := by decide +kernel
theorem dX10_joined_110 : decode cX10_joined 110 = .ok (.iload_n 2, 1) := by decide +kernel
theorem dX10_joined_111 : decode cX10_joined 111 = .ok (.ifCond .eq 7, 3) := by decide +kernel
theorem dX10_joined_114 : decode cX10_joined 114 = .ok (.iconst 1, 1) := by decide +kernel
theorem dX10_joined_115 : decode cX10_joined 115 = .ok (.goto 4, 3) := by decide +kernel
theorem dX10_joined_118 : decode cX10_joined 118 = .ok (.iconst 0, 1) := by decide +kernel
theorem dX10_joined_119 : decode cX10_joined 119 = .ok (.ireturn, 1) := by decide +kernel
theorem dX10_joined_120 : decode cX10_joined 120 = .ok (.iload_n 1, 1) := by decide +kernel
theorem dX10_joined_121 : decode cX10_joined 121 = .ok (.iload_n 2, 1) := by decide +kernel
theorem dX10_joined_122 : decode cX10_joined 122 = .ok (.if_icmp .ge 7, 3) := by decide +kernel
theorem dX10_joined_125 : decode cX10_joined 125 = .ok (.iconst 1, 1) := by decide +kernel
theorem dX10_joined_126 : decode cX10_joined 126 = .ok (.goto 4, 3) := by decide +kernel
theorem dX10_joined_129 : decode cX10_joined 129 = .ok (.iconst 0, 1) := by decide +kernel
theorem dX10_joined_130 : decode cX10_joined 130 = .ok (.ireturn, 1) := by decide +kernel
theorem dX10_joined_131 : decode cX10_joined 131 = .ok (.iload_n 1, 1) := by decide +kernel
theorem dX10_joined_132 : decode cX10_joined 132 = .ok (.iload_n 2, 1) := by decide +kernel
theorem dX10_joined_133 : decode cX10_joined 133 = .ok (.if_icmp .ne 7, 3) := by decide +kernel
theorem dX10_joined_136 : decode cX10_joined 136 = .ok (.iconst 1, 1) := by decide +kernel
theorem dX10_joined_137 : decode cX10_joined 137 = .ok (.goto 4, 3) := by decide +kernel
theorem dX10_joined_140 : decode cX10_joined 140 = .ok (.iconst 0, 1) := by decide +kernel
theorem dX10_joined_141 : decode cX10_joined 141 = .ok (.ireturn, 1) := by decide +kernel
theorem dX10_joined_142 : decode cX10_joined 142 = .ok (.iload_n 1, 1) := by decide +kernel
theorem dX10_joined_143 : decode cX10_joined 143 = .ok (.iload_n 2, 1) := by decide +kernel
theorem dX10_joined_144 : decode cX10_joined 144 = .ok (.if_icmp .le 7, 3) := by decide +kernel
theorem dX10_joined_147 : decode cX10_joined 147 = .ok (.iconst 1, 1) := by decide +kernel
theorem dX10_joined_148 : decode cX10_joined 148 = .ok (.goto 4, 3) := by decide +kernel
theorem dX10_joined_151 : decode cX10_joined 151 = .ok (.iconst 0, 1) := by decide +kernel
theorem dX10_joined_152 : decode cX10_joined 152 = .ok (.ireturn, 1) := by decide +kernel
theorem dX10_joined_153 : decode cX10_joined 153 = .ok (.iload_n 1, 1) := by decide +kernel
theorem dX10_joined_154 : decode cX10_joined 154 = .ok (.iload_n 2, 1) := by decide +kernel
theorem dX10_joined_155 : decode cX10_joined 155 = .ok (.iadd, 1) := by decide +kernel
theorem dX10_joined_156 : decode cX10_joined 156 = .ok (.ireturn, 1) := by decide +kernel
theorem dX10_joined_157 : decode cX10_joined 157 = .ok (.iload_n 1, 1) := by decide +kernel
theorem dX10_joined_158 : decode cX10_joined 158 = .ok (.iload_n 2, 1) := by decide +kernel
theorem dX10_joined_159 : decode cX10_joined 159 = .ok (.isub, 1) := by decide +kernel
theorem dX10_joined_160 : decode cX10_joined 160 = .ok (.ireturn, 1) := by decide +kernel
theorem dX10_joined_161 : decode cX10_joined 161 = .ok (.iload_n 1, 1) := by decide +kernel
theorem dX10_joined_162 : decode cX10_joined 162 = .ok (.iload_n 2, 1) := by decide +kernel
theorem dX10_joined_163 : decode cX10_joined 163 = .ok (.imul, 1) := by decide +kernel
theorem dX10_joined_164 : decode cX10_joined 164 = .ok (.ireturn, 1) := by decide +kernel
theorem dX10_joined_165 : decode cX10_joined 165 = .ok (.iload_n 2, 1) := by decide +kernel
theorem dX10_joined_166 : decode cX10_joined 166 = .ok (.ifCond .ne 7, 3) := by decide +kernel
theorem dX10_joined_169 : decode cX10_joined 169 = .ok (.iconst 0, 1) := by decide +kernel
theorem dX10_joined_170 : decode cX10_joined 170 = .ok (.goto 6, 3) := by decide +kernel
theorem dX10_joined_173 : decode cX10_joined 173 = .ok (.iload_n 1, 1) := by decide +kernel
theorem dX10_joined_174 : decode cX10_joined 174 = .ok (.iload_n 2, 1) := by decide +kernel
theorem dX10_joined_175 : decode cX10_joined 175 = .ok (.idiv, 1) := by decide +kernel
theorem dX10_joined_176 : decode cX10_joined 176 = .ok (.ireturn, 1) := by decide +kernel
theorem dX10_joined_177 : decode cX10_joined 177 = .ok (.iload_n 2, 1) := by decide +kernel
theorem dX10_joined_178 : decode cX10_joined 178 = .ok (.ifCond .ne 7, 3) := by decide +kernel
theorem dX10_joined_181 : decode cX10_joined 181 = .ok (.iconst 0, 1) := by decide +kernel
theorem dX10_joined_182 : decode cX10_joined 182 = .ok (.goto 6, 3) := by decide +kernel
theorem dX10_joined_185 : decode cX10_joined 185 = .ok (.iload_n 1, 1) := by decide +kernel
theorem dX10_joined_186 : decode cX10_joined 186 = .ok (.iload_n 2, 1) := by decide +kernel
theorem dX10_joined_187 : decode cX10_joined 187 = .ok (.irem, 1) := by decide +kernel
theorem dX10_joined_188 : decode cX10_joined 188 = .ok (.ireturn, 1) := by decide +kernel
theorem dX10_joined_189 : decode cX10_joined 189 = .ok (.iconst 0, 1) := by decide +kernel
theorem dX10_joined_190 : decode cX10_joined 190 = .ok (.ireturn, 1) := by decide +kernel
theorem dX11_init_0 : decode cX11_init 0 = .ok (.aload_n 0, 1) := by decide +kernel
theorem dX11_init_1 : decode cX11_init 1 = .ok (.invokespecial 1, 3) := by decide +kernel
theorem dX11_init_4 : decode cX11_init 4 = .ok (.aload_n 0, 1) := by decide +kernel
theorem dX11_init_5 : decode cX11_init 5 = .ok (.new 7, 3) := by decide +kernel
theorem dX11_init_8 : decode cX11_init 8 = .ok (.dup, 1) := by decide +kernel
theorem dX11_init_9 : decode cX11_init 9 = .ok (.invokespecial 9, 3) := by decide +kernel
theorem dX11_init_12 : decode cX11_init 12 = .ok (.putfield 10, 3) := by decide +kernel
theorem dX11_init_15 : decode cX11_init 15 = .ok (.aload_n 0, 1) := by decide +kernel
theorem dX11_init_16 : decode cX11_init 16 = .ok (.new 16, 3) := by decide +kernel
theorem dX11_init_19 : decode cX11_init 19 = .ok (.dup, 1) := by decide +kernel
theorem dX11_init_20 : decode cX11_init 20 = .ok (.invokespecial 18, 3) := by decide +kernel
theorem dX11_init_23 : decode cX11_init 23 = .ok (.putfield 19, 3) := by decide +kernel
theorem dX11_init_26 : decode cX11_init 26 = .ok (.aload_n 0, 1) := by decide +kernel
theorem dX11_init_27 : decode cX11_init 27 = .ok (.new 23, 3) := by decide +kernel
theorem dX11_init_30 : decode cX11_init 30 = .ok (.dup, 1) := by decide +kernel
theorem dX11_init_31 : decode cX11_init 31 = .ok (.invokespecial 25, 3) := by decide +kernel
theorem dX11_init_34 : decode cX11_init 34 = .ok (.putfield 26, 3) := by decide +kernel
theorem dX11_init_37 : decode cX11_init 37 = .ok (.aload_n 0, 1) := by decide +kernel
theorem dX11_init_38 : decode cX11_init 38 = .ok (.new 30, 3) := by decide +kernel
theorem dX11_init_41 : decode cX11_init 41 = .ok (.dup, 1) := by decide +kernel
theorem dX11_init_42 : decode cX11_init 42 = .ok (.invokespecial 32, 3) := by decide +kernel
theorem dX11_init_45 : decode cX11_init 45 = .ok (.putfield 33, 3) := by decide +kernel
theorem dX11_init_48 : decode cX11_init 48 = .ok (.aload_n 0, 1) := by decide +kernel
theorem dX11_init_49 : decode cX11_init 49 = .ok (.new 30, 3) := by decide +kernel
theorem dX11_init_52 : decode cX11_init 52 = .ok (.dup, 1) := by decide +kernel
theorem dX11_init_53 : decode cX11_init 53 = .ok (.invokespecial 32, 3) := by decide +kernel
theorem dX11_init_56 : decode cX11_init 56 = .ok (.putfield 37, 3) := by decide +kernel
theorem dX11_init_59 : decode cX11_init 59 = .ok (.aload_n 0, 1) := by decide +kernel
theorem dX11_init_60 : decode cX11_init 60 = .ok (.new 40, 3) := by decide +kernel
theorem dX11_init_63 : decode cX11_init 63 = .ok (.dup, 1) := by decide +kernel
theorem dX11_init_64 : decode cX11_init 64 = .ok (.aload_n 0, 1) := by decide +kernel
theorem dX11_init_65 : decode cX11_init 65 = .ok (.getfield 10, 3) := by decide +kernel
theorem dX11_init_68 : decode cX11_init 68 = .ok (.aload_n 0, 1) := by decide +kernel
theorem dX11_init_69 : decode cX11_init 69 = .ok (.getfield 37, 3) := by decide +kernel
theorem dX11_init_72 : decode cX11_init 72 = .ok (.invokespecial 42, 3) := by decide +kernel
theorem dX11_init_75 : decode cX11_init 75 = .ok (.putfield 45, 3) := by decide +kernel
theorem dX11_init_78 : decode cX11_init 78 = .ok (.aload_n 0, 1) := by decide +kernel
theorem dX11_init_79 : decode cX11_init 79 = .ok (.new 49, 3) := by decide +kernel
theorem dX11_init_82 : decode cX11_init 82 = .ok (.dup, 1) := by decide +kernel
theorem dX11_init_83 : decode cX11_init 83 = .ok (.aload_n 0, 1) := by decide +kernel
theorem dX11_init_84 : decode cX11_init 84 = .ok (.getfield 45, 3) := by decide +kernel
theorem dX11_init_87 : decode cX11_init 87 = .ok (.aload_n 0, 1) := by decide +kernel
theorem dX11_init_88 : decode cX11_init 88 = .ok (.getfield 26, 3) := by decide +kernel
theorem dX11_init_91 : decode cX11_init 91 = .ok (.invokespecial 51, 3) := by decide +kernel
theorem dX11_init_94 : decode cX11_init 94 = .ok (.putfield 54, 3) := by decide +kernel
theorem dX11_init_97 : decode cX11_init 97 = .ok (.aload_n 0, 1) := by decide +kernel
theorem dX11_init_98 : decode cX11_init 98 = .ok (.new 58, 3) := by decide +kernel
theorem dX11_init_101 : decode cX11_init 101 = .ok (.dup, 1) := by decide +kernel
theorem dX11_init_102 : decode cX11_init 102 = .ok (.invokespecial 60, 3) := by decide +kernel
theorem dX11_init_105 : decode cX11_init 105 = .ok (.putfield 61, 3) := by decide +kernel
theorem dX11_init_108 : decode cX11_init 108 = .ok (.aload_n 0, 1) := by decide +kernel
theorem dX11_init_109 : decode cX11_init 109 = .ok (.new 65, 3) := by decide +kernel
theorem dX11_init_112 : decode cX11_init 112 = .ok (.dup, 1) := by decide +kernel
theorem dX11_init_113 : decode cX11_init 113 = .ok (.aload_n 0, 1) := by decide +kernel
theorem dX11_init_114 : decode cX11_init 114 = .ok (.getfield 61, 3) := by decide +kernel
theorem dX11_init_117 : decode cX11_init 117 = .ok (.aload_n 0, 1) := by decide +kernel
theorem dX11_init_118 : decode cX11_init 118 = .ok (.getfield 45, 3) := by decide +kernel
theorem dX11_init_121 : decode cX11_init 121 = .ok (.aload_n 0, 1) := by decide +kernel
theorem dX11_init_122 : decode cX11_init 122 = .ok (.getfield 54, 3) := by decide +kernel
theorem dX11_init_125 : decode cX11_init 125 = .ok (.aload_n 0, 1) := by decide +kernel
theorem dX11_init_126 : decode cX11_init 126 = .ok (.getfield 26, 3) := by decide +kernel
theorem dX11_init_129 : decode cX11_init 129 = .ok (.aload_n 0, 1) := by decide +kernel
theorem dX11_init_130 : decode cX11_init 130 = .ok (.getfield 33, 3) := by decide +kernel
theorem dX11_init_133 : decode cX11_init 133 = .ok (.invokespecial 67, 3) := by decide +kernel
theorem dX11_init_136 : decode cX11_init 136 = .ok (.putfield 70, 3) := by decide +kernel
theorem dX11_init_139 : decode cX11_init 139 = .ok (.aload_n 0, 1) := by decide +kernel
theorem dX11_init_140 : decode cX11_init 140 = .ok (.new 74, 3) := by decide +kernel
theorem dX11_init_143 : decode cX11_init 143 = .ok (.dup, 1) := by decide +kernel
theorem dX11_init_144 : decode cX11_init 144 = .ok (.invokespecial 76, 3) := by decide +kernel
theorem dX11_init_147 : decode cX11_init 147 = .ok (.putfield 77, 3) := by decide +kernel
theorem dX11_init_150 : decode cX11_init 150 = .ok (.aload_n 0, 1) := by decide +kernel
theorem dX11_init_151 : decode cX11_init 151 = .ok (.new 81, 3) := by decide +kernel
theorem dX11_init_154 : decode cX11_init 154 = .ok (.dup, 1) := by decide +kernel
theorem dX11_init_155 : decode cX11_init 155 = .ok (.aload_n 0, 1) := by decide +kernel
theorem dX11_init_156 : decode cX11_init 156 = .ok (.getfield 61, 3) := by decide +kernel
theorem dX11_init_159 : decode cX11_init 159 = .ok (.invokespecial 83, 3) := by decide +kernel
theorem dX11_init_162 : decode cX11_init 162 = .ok (.putfield 86, 3) := by decide +kernel
theorem dX11_init_165 : decode cX11_init 165 = .ok (.aload_n 0, 1) := by decide +kernel
theorem dX11_init_166 : decode cX11_init 166 = .ok (.bipush 8, 2) := by decide +kernel
theorem dX11_init_168 : decode cX11_init 168 = .ok (.newarray .int, 2) := by decide +kernel
theorem dX11_init_170 : decode cX11_init 170 = .ok (.putfield 90, 3) := by decide +kernel
theorem dX11_init_173 : decode cX11_init 173 = .ok (.return_, 1) := by decide +kernel
theorem dX11_bowler_0 : decode cX11_bowler 0 = .ok (.iload_n 1, 1) := by decide +kernel
theorem dX11_bowler_1 : decode cX11_bowler 1 = .ok (.iconst 0, 1) := by decide +kernel
theorem dX11_bowler_2 : decode cX11_bowler 2 = .ok (.bipush 8, 2) := by decide +kernel
theorem dX11_bowler_4 : decode cX11_bowler 4 = .ok (.invokestatic 94, 3) := by decide +kernel
theorem dX11_bowler_7 : decode cX11_bowler 7 = .ok (.ifCond .ne 23, 3) := by decide +kernel
theorem dX11_bowler_10 : decode cX11_bowler 10 = .ok (.iload_n 2, 1) := by decide +kernel
theorem dX11_bowler_11 : decode cX11_bowler 11 = .ok (.iconst 0, 1) := by decide +kernel
theorem dX11_bowler_12 : decode cX11_bowler 12 = .ok (.bipush 50, 2) := by decide +kernel
theorem dX11_bowler_14 : decode cX11_bowler 14 = .ok (.invokestatic 94, 3) := by decide +kernel
theorem dX11_bowler_17 : decode cX11_bowler 17 = .ok (.ifCond .ne 13, 3) := by decide +kernel
theorem dX11_bowler_20 : decode cX11_bowler 20 = .ok (.iload_n 3, 1) := by decide +kernel
theorem dX11_bowler_21 : decode cX11_bowler 21 = .ok (.iconst 0, 1) := by decide +kernel
theorem dX11_bowler_22 : decode cX11_bowler 22 = .ok (.bipush 20, 2) := by decide +kernel
theorem dX11_bowler_24 : decode cX11_bowler 24 = .ok (.invokestatic 94, 3) := by decide +kernel
theorem dX11_bowler_27 : decode cX11_bowler 27 = .ok (.ifCond .eq 5, 3) := by decide +kernel
theorem dX11_bowler_30 : decode cX11_bowler 30 = .ok (.iconst (-1), 1) := by decide +kernel
theorem dX11_bowler_31 : decode cX11_bowler 31 = .ok (.ireturn, 1) := by decide +kernel
theorem dX11_bowler_32 : decode cX11_bowler 32 = .ok (.aload_n 0, 1) := by decide +kernel
theorem dX11_bowler_33 : decode cX11_bowler 33 = .ok (.getfield 10, 3) := by decide +kernel
theorem dX11_bowler_36 : decode cX11_bowler 36 = .ok (.getfield 98, 3) := by decide +kernel
theorem dX11_bowler_39 : decode cX11_bowler 39 = .ok (.iconst 4, 1) := by decide +kernel
theorem dX11_bowler_40 : decode cX11_bowler 40 = .ok (.if_icmp .lt 6, 3) := by decide +kernel
theorem dX11_bowler_43 : decode cX11_bowler 43 = .ok (.bipush (-3), 2) := by decide +kernel
theorem dX11_bowler_45 : decode cX11_bowler 45 = .ok (.ireturn, 1) := by decide +kernel
theorem dX11_bowler_46 : decode cX11_bowler 46 = .ok (.aload_n 0, 1) := by decide +kernel
theorem dX11_bowler_47 : decode cX11_bowler 47 = .ok (.getfield 10, 3) := by decide +kernel
theorem dX11_bowler_50 : decode cX11_bowler 50 = .ok (.iload_n 1, 1) := by decide +kernel
theorem dX11_bowler_51 : decode cX11_bowler 51 = .ok (.iload_n 2, 1) := by decide +kernel
theorem dX11_bowler_52 : decode cX11_bowler 52 = .ok (.iload_n 3, 1) := by decide +kernel
theorem dX11_bowler_53 : decode cX11_bowler 53 = .ok (.invokevirtual 102, 3) := by decide +kernel
theorem dX11_bowler_56 : decode cX11_bowler 56 = .ok (.ireturn, 1) := by decide +kernel
theorem dX11_edge_0 : decode cX11_edge 0 = .ok (.aload_n 0, 1) := by decide +kernel
theorem dX11_edge_1 : decode cX11_edge 1 = .ok (.iload_n 1, 1) := by decide +kernel
theorem dX11_edge_2 : decode cX11_edge 2 = .ok (.iload_n 2, 1) := by decide +kernel
theorem dX11_edge_3 : decode cX11_edge 3 = .ok (.invokevirtual 106, 3) := by decide +kernel
theorem dX11_edge_6 : decode cX11_edge 6 = .ok (.istore 4, 2) := by decide +kernel
theorem dX11_edge_8 : decode cX11_edge 8 = .ok (.iload 4, 2) := by decide +kernel
theorem dX11_edge_10 : decode cX11_edge 10 = .ok (.ifCond .lt 20, 3) := by decide +kernel
theorem dX11_edge_13 : decode cX11_edge 13 = .ok (.iload_n 3, 1) := by decide +kernel
theorem dX11_edge_14 : decode cX11_edge 14 = .ok (.iload 4, 2) := by decide +kernel
theorem dX11_edge_16 : decode cX11_edge 16 = .ok (.invokestatic 110, 3) := by decide +kernel
theorem dX11_edge_19 : decode cX11_edge 19 = .ok (.iload 4, 2) := by decide +kernel
theorem dX11_edge_21 : decode cX11_edge 21 = .ok (.invokestatic 114, 3) := by decide +kernel
theorem dX11_edge_24 : decode cX11_edge 24 = .ok (.invokestatic 94, 3) := by decide +kernel
theorem dX11_edge_27 : decode cX11_edge 27 = .ok (.ifCond .eq 6, 3) := by decide +kernel
theorem dX11_edge_30 : decode cX11_edge 30 = .ok (.ldc 117, 2) := by decide +kernel
theorem dX11_edge_32 : decode cX11_edge 32 = .ok (.ireturn, 1) := by decide +kernel
theorem dX11_edge_33 : decode cX11_edge 33 = .ok (.aload_n 0, 1) := by decide +kernel
theorem dX11_edge_34 : decode cX11_edge 34 = .ok (.getfield 10, 3) := by decide +kernel
theorem dX11_edge_37 : decode cX11_edge 37 = .ok (.iload 4, 2) := by decide +kernel
theorem dX11_edge_39 : decode cX11_edge 39 = .ok (.iload_n 3, 1) := by decide +kernel
theorem dX11_edge_40 : decode cX11_edge 40 = .ok (.invokevirtual 118, 3) := by decide +kernel
theorem dX11_edge_43 : decode cX11_edge 43 = .ok (.ireturn, 1) := by decide +kernel
theorem dX11_field_0 : decode cX11_field 0 = .ok (.iload_n 1, 1) := by decide +kernel
theorem dX11_field_1 : decode cX11_field 1 = .ok (.ifCond .lt 36, 3) := by decide +kernel
theorem dX11_field_4 : decode cX11_field 4 = .ok (.iload_n 1, 1) := by decide +kernel
theorem dX11_field_5 : decode cX11_field 5 = .ok (.bipush 10, 2) := by decide +kernel
theorem dX11_field_7 : decode cX11_field 7 = .ok (.idiv, 1) := by decide +kernel
theorem dX11_field_8 : decode cX11_field 8 = .ok (.iconst 0, 1) := by decide +kernel
theorem dX11_field_9 : decode cX11_field 9 = .ok (.iconst 3, 1) := by decide +kernel
theorem dX11_field_10 : decode cX11_field 10 = .ok (.invokestatic 94, 3) := by decide +kernel
theorem dX11_field_13 : decode cX11_field 13 = .ok (.ifCond .ne 24, 3) := by decide +kernel
theorem dX11_field_16 : decode cX11_field 16 = .ok (.iload_n 1, 1) := by decide +kernel
theorem dX11_field_17 : decode cX11_field 17 = .ok (.bipush 10, 2) := by decide +kernel
theorem dX11_field_19 : decode cX11_field 19 = .ok (.irem, 1) := by decide +kernel
theorem dX11_field_20 : decode cX11_field 20 = .ok (.iconst 0, 1) := by decide +kernel
theorem dX11_field_21 : decode cX11_field 21 = .ok (.iconst 3, 1) := by decide +kernel
theorem dX11_field_22 : decode cX11_field 22 = .ok (.invokestatic 94, 3) := by decide +kernel
theorem dX11_field_25 : decode cX11_field 25 = .ok (.ifCond .ne 12, 3) := by decide +kernel
theorem dX11_field_28 : decode cX11_field 28 = .ok (.iload_n 2, 1) := by decide +kernel
theorem dX11_field_29 : decode cX11_field 29 = .ok (.iconst 0, 1) := by decide +kernel
theorem dX11_field_30 : decode cX11_field 30 = .ok (.iconst 1, 1) := by decide +kernel
theorem dX11_field_31 : decode cX11_field 31 = .ok (.invokestatic 94, 3) := by decide +kernel
theorem dX11_field_34 : decode cX11_field 34 = .ok (.ifCond .eq 6, 3) := by decide +kernel
theorem dX11_field_37 : decode cX11_field 37 = .ok (.ldc 117, 2) := by decide +kernel
theorem dX11_field_39 : decode cX11_field 39 = .ok (.ireturn, 1) := by decide +kernel
theorem dX11_field_40 : decode cX11_field 40 = .ok (.iload_n 2, 1) := by decide +kernel
theorem dX11_field_41 : decode cX11_field 41 = .ok (.ifCond .ne 8, 3) := by decide +kernel
theorem dX11_field_44 : decode cX11_field 44 = .ok (.bipush 36, 2) := by decide +kernel
theorem dX11_field_46 : decode cX11_field 46 = .ok (.goto 5, 3) := by decide +kernel
theorem dX11_field_49 : decode cX11_field 49 = .ok (.bipush 52, 2) := by decide +kernel
theorem dX11_field_51 : decode cX11_field 51 = .ok (.iload_n 1, 1) := by decide +kernel
theorem dX11_field_52 : decode cX11_field 52 = .ok (.bipush 10, 2) := by decide +kernel
theorem dX11_field_54 : decode cX11_field 54 = .ok (.idiv, 1) := by decide +kernel
theorem dX11_field_55 : decode cX11_field 55 = .ok (.iconst 4, 1) := by decide +kernel
theorem dX11_field_56 : decode cX11_field 56 = .ok (.imul, 1) := by decide +kernel
theorem dX11_field_57 : decode cX11_field 57 = .ok (.iadd, 1) := by decide +kernel
theorem dX11_field_58 : decode cX11_field 58 = .ok (.iload_n 1, 1) := by decide +kernel
theorem dX11_field_59 : decode cX11_field 59 = .ok (.bipush 10, 2) := by decide +kernel
theorem dX11_field_61 : decode cX11_field 61 = .ok (.irem, 1) := by decide +kernel
theorem dX11_field_62 : decode cX11_field 62 = .ok (.iadd, 1) := by decide +kernel
theorem dX11_field_63 : decode cX11_field 63 = .ok (.istore 4, 2) := by decide +kernel
theorem dX11_field_65 : decode cX11_field 65 = .ok (.iload_n 3, 1) := by decide +kernel
theorem dX11_field_66 : decode cX11_field 66 = .ok (.iload 4, 2) := by decide +kernel
theorem dX11_field_68 : decode cX11_field 68 = .ok (.invokestatic 110, 3) := by decide +kernel
theorem dX11_field_71 : decode cX11_field 71 = .ok (.iload 4, 2) := by decide +kernel
theorem dX11_field_73 : decode cX11_field 73 = .ok (.invokestatic 114, 3) := by decide +kernel
theorem dX11_field_76 : decode cX11_field 76 = .ok (.invokestatic 94, 3) := by decide +kernel
theorem dX11_field_79 : decode cX11_field 79 = .ok (.ifCond .eq 6, 3) := by decide +kernel
theorem dX11_field_82 : decode cX11_field 82 = .ok (.ldc 117, 2) := by decide +kernel
theorem dX11_field_84 : decode cX11_field 84 = .ok (.ireturn, 1) := by decide +kernel
theorem dX11_field_85 : decode cX11_field 85 = .ok (.aload_n 0, 1) := by decide +kernel
theorem dX11_field_86 : decode cX11_field 86 = .ok (.getfield 10, 3) := by decide +kernel
theorem dX11_field_89 : decode cX11_field 89 = .ok (.iload 4, 2) := by decide +kernel
theorem dX11_field_91 : decode cX11_field 91 = .ok (.iload_n 3, 1) := by decide +kernel
theorem dX11_field_92 : decode cX11_field 92 = .ok (.invokevirtual 118, 3) := by decide +kernel
theorem dX11_field_95 : decode cX11_field 95 = .ok (.ireturn, 1) := by decide +kernel
theorem dX11_set_0 : decode cX11_set 0 = .ok (.iload_n 1, 1) := by decide +kernel
theorem dX11_set_1 : decode cX11_set 1 = .ok (.iconst 0, 1) := by decide +kernel
theorem dX11_set_2 : decode cX11_set 2 = .ok (.iconst 3, 1) := by decide +kernel
theorem dX11_set_3 : decode cX11_set 3 = .ok (.invokestatic 94, 3) := by decide +kernel
theorem dX11_set_6 : decode cX11_set 6 = .ok (.ifCond .eq 5, 3) := by decide +kernel
theorem dX11_set_9 : decode cX11_set 9 = .ok (.iconst (-1), 1) := by decide +kernel
theorem dX11_set_10 : decode cX11_set 10 = .ok (.ireturn, 1) := by decide +kernel
theorem dX11_set_11 : decode cX11_set 11 = .ok (.aload_n 0, 1) := by decide +kernel
theorem dX11_set_12 : decode cX11_set 12 = .ok (.getfield 10, 3) := by decide +kernel
theorem dX11_set_15 : decode cX11_set 15 = .ok (.getfield 121, 3) := by decide +kernel
theorem dX11_set_18 : decode cX11_set 18 = .ok (.istore_n 2, 1) := by decide +kernel
theorem dX11_set_19 : decode cX11_set 19 = .ok (.aload_n 0, 1) := by decide +kernel
theorem dX11_set_20 : decode cX11_set 20 = .ok (.getfield 10, 3) := by decide +kernel
theorem dX11_set_23 : decode cX11_set 23 = .ok (.iload_n 1, 1) := by decide +kernel
theorem dX11_set_24 : decode cX11_set 24 = .ok (.putfield 121, 3) := by decide +kernel
theorem dX11_set_27 : decode cX11_set 27 = .ok (.iload_n 2, 1) := by decide +kernel
theorem dX11_set_28 : decode cX11_set 28 = .ok (.ireturn, 1) := by decide +kernel
theorem dX11_feed_0 : decode cX11_feed 0 = .ok (.iload_n 1, 1) := by decide +kernel
theorem dX11_feed_1 : decode cX11_feed 1 = .ok (.iconst 1, 1) := by decide +kernel
theorem dX11_feed_2 : decode cX11_feed 2 = .ok (.iconst 4, 1) := by decide +kernel
theorem dX11_feed_3 : decode cX11_feed 3 = .ok (.invokestatic 94, 3) := by decide +kernel
theorem dX11_feed_6 : decode cX11_feed 6 = .ok (.ifCond .eq 5, 3) := by decide +kernel
theorem dX11_feed_9 : decode cX11_feed 9 = .ok (.iconst (-1), 1) := by decide +kernel
theorem dX11_feed_10 : decode cX11_feed 10 = .ok (.ireturn, 1) := by decide +kernel
theorem dX11_feed_11 : decode cX11_feed 11 = .ok (.aload_n 0, 1) := by decide +kernel
theorem dX11_feed_12 : decode cX11_feed 12 = .ok (.getfield 19, 3) := by decide +kernel
theorem dX11_feed_15 : decode cX11_feed 15 = .ok (.getfield 124, 3) := by decide +kernel
theorem dX11_feed_18 : decode cX11_feed 18 = .ok (.iload_n 1, 1) := by decide +kernel
theorem dX11_feed_19 : decode cX11_feed 19 = .ok (.iadd, 1) := by decide +kernel
theorem dX11_feed_20 : decode cX11_feed 20 = .ok (.bipush 80, 2) := by decide +kernel
theorem dX11_feed_22 : decode cX11_feed 22 = .ok (.if_icmp .le 6, 3) := by decide +kernel
theorem dX11_feed_25 : decode cX11_feed 25 = .ok (.bipush (-3), 2) := by decide +kernel
theorem dX11_feed_27 : decode cX11_feed 27 = .ok (.ireturn, 1) := by decide +kernel
theorem dX11_feed_28 : decode cX11_feed 28 = .ok (.aload_n 0, 1) := by decide +kernel
theorem dX11_feed_29 : decode cX11_feed 29 = .ok (.getfield 19, 3) := by decide +kernel
theorem dX11_feed_32 : decode cX11_feed 32 = .ok (.iload_n 1, 1) := by decide +kernel
theorem dX11_feed_33 : decode cX11_feed 33 = .ok (.iload_n 2, 1) := by decide +kernel
theorem dX11_feed_34 : decode cX11_feed 34 = .ok (.invokevirtual 127, 3) := by decide +kernel
theorem dX11_feed_37 : decode cX11_feed 37 = .ok (.ireturn, 1) := by decide +kernel
theorem dX11_order_0 : decode cX11_order 0 = .ok (.aload_n 0, 1) := by decide +kernel
theorem dX11_order_1 : decode cX11_order 1 = .ok (.getfield 19, 3) := by decide +kernel
theorem dX11_order_4 : decode cX11_order 4 = .ok (.aload_n 0, 1) := by decide +kernel
theorem dX11_order_5 : decode cX11_order 5 = .ok (.getfield 26, 3) := by decide +kernel
theorem dX11_order_8 : decode cX11_order 8 = .ok (.invokevirtual 130, 3) := by decide +kernel
theorem dX11_order_11 : decode cX11_order 11 = .ok (.istore_n 1, 1) := by decide +kernel
theorem dX11_order_12 : decode cX11_order 12 = .ok (.iload_n 1, 1) := by decide +kernel
theorem dX11_order_13 : decode cX11_order 13 = .ok (.ifCond .lt 8, 3) := by decide +kernel
theorem dX11_order_16 : decode cX11_order 16 = .ok (.bipush (-100), 2) := by decide +kernel
theorem dX11_order_18 : decode cX11_order 18 = .ok (.iload_n 1, 1) := by decide +kernel
theorem dX11_order_19 : decode cX11_order 19 = .ok (.isub, 1) := by decide +kernel
theorem dX11_order_20 : decode cX11_order 20 = .ok (.ireturn, 1) := by decide +kernel
theorem dX11_order_21 : decode cX11_order 21 = .ok (.aload_n 0, 1) := by decide +kernel
theorem dX11_order_22 : decode cX11_order 22 = .ok (.getfield 77, 3) := by decide +kernel
theorem dX11_order_25 : decode cX11_order 25 = .ok (.iconst 0, 1) := by decide +kernel
theorem dX11_order_26 : decode cX11_order 26 = .ok (.putfield 134, 3) := by decide +kernel
theorem dX11_order_29 : decode cX11_order 29 = .ok (.aload_n 0, 1) := by decide +kernel
theorem dX11_order_30 : decode cX11_order 30 = .ok (.getfield 26, 3) := by decide +kernel
theorem dX11_order_33 : decode cX11_order 33 = .ok (.getfield 135, 3) := by decide +kernel
theorem dX11_order_36 : decode cX11_order 36 = .ok (.ireturn, 1) := by decide +kernel
theorem dX11_text_0 : decode cX11_text 0 = .ok (.iload_n 1, 1) := by decide +kernel
theorem dX11_text_1 : decode cX11_text 1 = .ok (.iconst 0, 1) := by decide +kernel
theorem dX11_text_2 : decode cX11_text 2 = .ok (.iconst 1, 1) := by decide +kernel
theorem dX11_text_3 : decode cX11_text 3 = .ok (.invokestatic 94, 3) := by decide +kernel
theorem dX11_text_6 : decode cX11_text 6 = .ok (.ifCond .eq 5, 3) := by decide +kernel
theorem dX11_text_9 : decode cX11_text 9 = .ok (.iconst (-1), 1) := by decide +kernel
theorem dX11_text_10 : decode cX11_text 10 = .ok (.ireturn, 1) := by decide +kernel
theorem dX11_text_11 : decode cX11_text 11 = .ok (.aload_n 0, 1) := by decide +kernel
theorem dX11_text_12 : decode cX11_text 12 = .ok (.getfield 19, 3) := by decide +kernel
theorem dX11_text_15 : decode cX11_text 15 = .ok (.iload_n 1, 1) := by decide +kernel
theorem dX11_text_16 : decode cX11_text 16 = .ok (.ifCond .ne 10, 3) := by decide +kernel
theorem dX11_text_19 : decode cX11_text 19 = .ok (.aload_n 0, 1) := by decide +kernel
theorem dX11_text_20 : decode cX11_text 20 = .ok (.getfield 33, 3) := by decide +kernel
theorem dX11_text_23 : decode cX11_text 23 = .ok (.goto 7, 3) := by decide +kernel
theorem dX11_text_26 : decode cX11_text 26 = .ok (.aload_n 0, 1) := by decide +kernel
theorem dX11_text_27 : decode cX11_text 27 = .ok (.getfield 37, 3) := by decide +kernel
theorem dX11_text_30 : decode cX11_text 30 = .ok (.invokevirtual 136, 3) := by decide +kernel
theorem dX11_text_33 : decode cX11_text 33 = .ok (.istore_n 2, 1) := by decide +kernel
theorem dX11_text_34 : decode cX11_text 34 = .ok (.iload_n 2, 1) := by decide +kernel
theorem dX11_text_35 : decode cX11_text 35 = .ok (.ifCond .lt 8, 3) := by decide +kernel
theorem dX11_text_38 : decode cX11_text 38 = .ok (.bipush (-100), 2) := by decide +kernel
theorem dX11_text_40 : decode cX11_text 40 = .ok (.iload_n 2, 1) := by decide +kernel
theorem dX11_text_41 : decode cX11_text 41 = .ok (.isub, 1) := by decide +kernel
theorem dX11_text_42 : decode cX11_text 42 = .ok (.ireturn, 1) := by decide +kernel
theorem dX11_text_43 : decode cX11_text 43 = .ok (.iload_n 1, 1) := by decide +kernel
theorem dX11_text_44 : decode cX11_text 44 = .ok (.iconst 1, 1) := by decide +kernel
theorem dX11_text_45 : decode cX11_text 45 = .ok (.if_icmp .ne 10, 3) := by decide +kernel
theorem dX11_text_48 : decode cX11_text 48 = .ok (.aload_n 0, 1) := by decide +kernel
theorem dX11_text_49 : decode cX11_text 49 = .ok (.getfield 45, 3) := by decide +kernel
theorem dX11_text_52 : decode cX11_text 52 = .ok (.invokevirtual 140, 3) := by decide +kernel
theorem dX11_text_55 : decode cX11_text 55 = .ok (.iconst 1, 1) := by decide +kernel
theorem dX11_text_56 : decode cX11_text 56 = .ok (.ireturn, 1) := by decide +kernel
theorem dX11_of_0 : decode cX11_of 0 = .ok (.iload_n 1, 1) := by decide +kernel
theorem dX11_of_1 : decode cX11_of 1 = .ok (.ifCond .ne 11, 3) := by decide +kernel
theorem dX11_of_4 : decode cX11_of 4 = .ok (.aload_n 0, 1) := by decide +kernel
theorem dX11_of_5 : decode cX11_of 5 = .ok (.getfield 26, 3) := by decide +kernel
theorem dX11_of_8 : decode cX11_of 8 = .ok (.getfield 135, 3) := by decide +kernel
theorem dX11_of_11 : decode cX11_of 11 = .ok (.ireturn, 1) := by decide +kernel
theorem dX11_of_12 : decode cX11_of 12 = .ok (.iload_n 1, 1) := by decide +kernel
theorem dX11_of_13 : decode cX11_of 13 = .ok (.iconst 1, 1) := by decide +kernel
theorem dX11_of_14 : decode cX11_of 14 = .ok (.if_icmp .ne 11, 3) := by decide +kernel
theorem dX11_of_17 : decode cX11_of 17 = .ok (.aload_n 0, 1) := by decide +kernel
theorem dX11_of_18 : decode cX11_of 18 = .ok (.getfield 26, 3) := by decide +kernel
theorem dX11_of_21 : decode cX11_of 21 = .ok (.getfield 143, 3) := by decide +kernel
theorem dX11_of_24 : decode cX11_of 24 = .ok (.ireturn, 1) := by decide +kernel
theorem dX11_of_25 : decode cX11_of 25 = .ok (.iload_n 1, 1) := by decide +kernel
theorem dX11_of_26 : decode cX11_of 26 = .ok (.iconst 2, 1) := by decide +kernel
theorem dX11_of_27 : decode cX11_of 27 = .ok (.if_icmp .ne 11, 3) := by decide +kernel
theorem dX11_of_30 : decode cX11_of 30 = .ok (.aload_n 0, 1) := by decide +kernel
theorem dX11_of_31 : decode cX11_of 31 = .ok (.getfield 26, 3) := by decide +kernel
theorem dX11_of_34 : decode cX11_of 34 = .ok (.getfield 146, 3) := by decide +kernel
theorem dX11_of_37 : decode cX11_of 37 = .ok (.ireturn, 1) := by decide +kernel
theorem dX11_of_38 : decode cX11_of 38 = .ok (.iload_n 1, 1) := by decide +kernel
theorem dX11_of_39 : decode cX11_of 39 = .ok (.bipush 10, 2) := by decide +kernel
theorem dX11_of_41 : decode cX11_of 41 = .ok (.if_icmp .lt 17, 3) := by decide +kernel
theorem dX11_of_44 : decode cX11_of 44 = .ok (.iload_n 1, 1) := by decide +kernel
theorem dX11_of_45 : decode cX11_of 45 = .ok (.bipush 10, 2) := by decide +kernel
theorem dX11_of_47 : decode cX11_of 47 = .ok (.isub, 1) := by decide +kernel
theorem dX11_of_48 : decode cX11_of 48 = .ok (.aload_n 0, 1) := by decide +kernel
theorem dX11_of_49 : decode cX11_of 49 = .ok (.getfield 26, 3) := by decide +kernel
theorem dX11_of_52 : decode cX11_of 52 = .ok (.getfield 135, 3) := by decide +kernel
theorem dX11_of_55 : decode cX11_of 55 = .ok (.if_icmp .lt 5, 3) := by decide +kernel
theorem dX11_of_58 : decode cX11_of 58 = .ok (.iconst (-1), 1) := by decide +kernel
theorem dX11_of_59 : decode cX11_of 59 = .ok (.ireturn, 1) := by decide +kernel
theorem dX11_of_60 : decode cX11_of 60 = .ok (.aload_n 0, 1) := by decide +kernel
theorem dX11_of_61 : decode cX11_of 61 = .ok (.getfield 26, 3) := by decide +kernel
theorem dX11_of_64 : decode cX11_of 64 = .ok (.iload_n 1, 1) := by decide +kernel
theorem dX11_of_65 : decode cX11_of 65 = .ok (.bipush 10, 2) := by decide +kernel
theorem dX11_of_67 : decode cX11_of 67 = .ok (.isub, 1) := by decide +kernel
theorem dX11_of_68 : decode cX11_of 68 = .ok (.invokevirtual 149, 3) := by decide +kernel
theorem dX11_of_71 : decode cX11_of 71 = .ok (.ireturn, 1) := by decide +kernel
theorem dX11_over_0 : decode cX11_over 0 = .ok (.iload_n 1, 1) := by decide +kernel
theorem dX11_over_1 : decode cX11_over 1 = .ok (.ifCond .lt 16, 3) := by decide +kernel
theorem dX11_over_4 : decode cX11_over 4 = .ok (.iload_n 2, 1) := by decide +kernel
theorem dX11_over_5 : decode cX11_over 5 = .ok (.ifCond .lt 12, 3) := by decide +kernel
theorem dX11_over_8 : decode cX11_over 8 = .ok (.iload_n 3, 1) := by decide +kernel
theorem dX11_over_9 : decode cX11_over 9 = .ok (.iconst 0, 1) := by decide +kernel
theorem dX11_over_10 : decode cX11_over 10 = .ok (.iconst 1, 1) := by decide +kernel
theorem dX11_over_11 : decode cX11_over 11 = .ok (.invokestatic 94, 3) := by decide +kernel
theorem dX11_over_14 : decode cX11_over 14 = .ok (.ifCond .eq 5, 3) := by decide +kernel
theorem dX11_over_17 : decode cX11_over 17 = .ok (.iconst (-1), 1) := by decide +kernel
theorem dX11_over_18 : decode cX11_over 18 = .ok (.ireturn, 1) := by decide +kernel
theorem dX11_over_19 : decode cX11_over 19 = .ok (.iload_n 1, 1) := by decide +kernel
theorem dX11_over_20 : decode cX11_over 20 = .ok (.bipush 100, 2) := by decide +kernel
theorem dX11_over_22 : decode cX11_over 22 = .ok (.idiv, 1) := by decide +kernel
theorem dX11_over_23 : decode cX11_over 23 = .ok (.istore 4, 2) := by decide +kernel
theorem dX11_over_25 : decode cX11_over 25 = .ok (.iload_n 1, 1) := by decide +kernel
theorem dX11_over_26 : decode cX11_over 26 = .ok (.bipush 10, 2) := by decide +kernel
theorem dX11_over_28 : decode cX11_over 28 = .ok (.idiv, 1) := by decide +kernel
theorem dX11_over_29 : decode cX11_over 29 = .ok (.bipush 10, 2) := by decide +kernel
theorem dX11_over_31 : decode cX11_over 31 = .ok (.irem, 1) := by decide +kernel
theorem dX11_over_32 : decode cX11_over 32 = .ok (.istore 5, 2) := by decide +kernel
theorem dX11_over_34 : decode cX11_over 34 = .ok (.iload_n 1, 1) := by decide +kernel
theorem dX11_over_35 : decode cX11_over 35 = .ok (.bipush 10, 2) := by decide +kernel
theorem dX11_over_37 : decode cX11_over 37 = .ok (.irem, 1) := by decide +kernel
theorem dX11_over_38 : decode cX11_over 38 = .ok (.istore 6, 2) := by decide +kernel
theorem dX11_over_40 : decode cX11_over 40 = .ok (.aload_n 0, 1) := by decide +kernel
theorem dX11_over_41 : decode cX11_over 41 = .ok (.iload 4, 2) := by decide +kernel
theorem dX11_over_43 : decode cX11_over 43 = .ok (.invokevirtual 152, 3) := by decide +kernel
theorem dX11_over_46 : decode cX11_over 46 = .ok (.ifCond .ne 15, 3) := by decide +kernel
theorem dX11_over_49 : decode cX11_over 49 = .ok (.iload 5, 2) := by decide +kernel
theorem dX11_over_51 : decode cX11_over 51 = .ok (.iconst 4, 1) := by decide +kernel
theorem dX11_over_52 : decode cX11_over 52 = .ok (.if_icmp .ge 9, 3) := by decide +kernel
theorem dX11_over_55 : decode cX11_over 55 = .ok (.iload 6, 2) := by decide +kernel
theorem dX11_over_57 : decode cX11_over 57 = .ok (.iconst 3, 1) := by decide +kernel
theorem dX11_over_58 : decode cX11_over 58 = .ok (.if_icmp .le 5, 3) := by decide +kernel
theorem dX11_over_61 : decode cX11_over 61 = .ok (.iconst (-1), 1) := by decide +kernel
theorem dX11_over_62 : decode cX11_over 62 = .ok (.ireturn, 1) := by decide +kernel
theorem dX11_over_63 : decode cX11_over 63 = .ok (.iload_n 2, 1) := by decide +kernel
theorem dX11_over_64 : decode cX11_over 64 = .ok (.bipush 10, 2) := by decide +kernel
theorem dX11_over_66 : decode cX11_over 66 = .ok (.idiv, 1) := by decide +kernel
theorem dX11_over_67 : decode cX11_over 67 = .ok (.bipush 12, 2) := by decide +kernel
theorem dX11_over_69 : decode cX11_over 69 = .ok (.if_icmp .gt 12, 3) := by decide +kernel
theorem dX11_over_72 : decode cX11_over 72 = .ok (.iload_n 2, 1) := by decide +kernel
theorem dX11_over_73 : decode cX11_over 73 = .ok (.bipush 10, 2) := by decide +kernel
theorem dX11_over_75 : decode cX11_over 75 = .ok (.irem, 1) := by decide +kernel
theorem dX11_over_76 : decode cX11_over 76 = .ok (.bipush 8, 2) := by decide +kernel
theorem dX11_over_78 : decode cX11_over 78 = .ok (.if_icmp .le 5, 3) := by decide +kernel
theorem dX11_over_81 : decode cX11_over 81 = .ok (.iconst (-1), 1) := by decide +kernel
theorem dX11_over_82 : decode cX11_over 82 = .ok (.ireturn, 1) := by decide +kernel
theorem dX11_over_83 : decode cX11_over 83 = .ok (.aload_n 0, 1) := by decide +kernel
theorem dX11_over_84 : decode cX11_over 84 = .ok (.getfield 45, 3) := by decide +kernel
theorem dX11_over_87 : decode cX11_over 87 = .ok (.aload_n 0, 1) := by decide +kernel
theorem dX11_over_88 : decode cX11_over 88 = .ok (.getfield 10, 3) := by decide +kernel
theorem dX11_over_91 : decode cX11_over 91 = .ok (.getfield 121, 3) := by decide +kernel
theorem dX11_over_94 : decode cX11_over 94 = .ok (.invokevirtual 156, 3) := by decide +kernel
theorem dX11_over_97 : decode cX11_over 97 = .ok (.iload_n 3, 1) := by decide +kernel
theorem dX11_over_98 : decode cX11_over 98 = .ok (.iconst 1, 1) := by decide +kernel
theorem dX11_over_99 : decode cX11_over 99 = .ok (.if_icmp .ne 17, 3) := by decide +kernel
theorem dX11_over_102 : decode cX11_over 102 = .ok (.aload_n 0, 1) := by decide +kernel
theorem dX11_over_103 : decode cX11_over 103 = .ok (.getfield 45, 3) := by decide +kernel
theorem dX11_over_106 : decode cX11_over 106 = .ok (.iload 4, 2) := by decide +kernel
theorem dX11_over_108 : decode cX11_over 108 = .ok (.iload 5, 2) := by decide +kernel
theorem dX11_over_110 : decode cX11_over 110 = .ok (.iload 6, 2) := by decide +kernel
theorem dX11_over_112 : decode cX11_over 112 = .ok (.invokevirtual 160, 3) := by decide +kernel
theorem dX11_over_115 : decode cX11_over 115 = .ok (.ireturn, 1) := by decide +kernel
theorem dX11_over_116 : decode cX11_over 116 = .ok (.aload_n 0, 1) := by decide +kernel
theorem dX11_over_117 : decode cX11_over 117 = .ok (.getfield 45, 3) := by decide +kernel
theorem dX11_over_120 : decode cX11_over 120 = .ok (.iload 4, 2) := by decide +kernel
theorem dX11_over_122 : decode cX11_over 122 = .ok (.iload 5, 2) := by decide +kernel
theorem dX11_over_124 : decode cX11_over 124 = .ok (.iload 6, 2) := by decide +kernel
theorem dX11_over_126 : decode cX11_over 126 = .ok (.aload_n 0, 1) := by decide +kernel
theorem dX11_over_127 : decode cX11_over 127 = .ok (.getfield 10, 3) := by decide +kernel
theorem dX11_over_130 : decode cX11_over 130 = .ok (.iload 4, 2) := by decide +kernel
theorem dX11_over_132 : decode cX11_over 132 = .ok (.invokevirtual 163, 3) := by decide +kernel
theorem dX11_over_135 : decode cX11_over 135 = .ok (.iload_n 2, 1) := by decide +kernel
theorem dX11_over_136 : decode cX11_over 136 = .ok (.bipush 10, 2) := by decide +kernel
theorem dX11_over_138 : decode cX11_over 138 = .ok (.idiv, 1) := by decide +kernel
theorem dX11_over_139 : decode cX11_over 139 = .ok (.iload_n 2, 1) := by decide +kernel
theorem dX11_over_140 : decode cX11_over 140 = .ok (.bipush 10, 2) := by decide +kernel
theorem dX11_over_142 : decode cX11_over 142 = .ok (.irem, 1) := by decide +kernel
theorem dX11_over_143 : decode cX11_over 143 = .ok (.invokevirtual 166, 3) := by decide +kernel
theorem dX11_over_146 : decode cX11_over 146 = .ok (.ireturn, 1) := by decide +kernel
theorem dX11_rule_0 : decode cX11_rule 0 = .ok (.iload_n 1, 1) := by decide +kernel
theorem dX11_rule_1 : decode cX11_rule 1 = .ok (.iconst 0, 1) := by decide +kernel
theorem dX11_rule_2 : decode cX11_rule 2 = .ok (.bipush 6, 2) := by decide +kernel
theorem dX11_rule_4 : decode cX11_rule 4 = .ok (.invokestatic 94, 3) := by decide +kernel
theorem dX11_rule_7 : decode cX11_rule 7 = .ok (.ifCond .ne 20, 3) := by decide +kernel
theorem dX11_rule_10 : decode cX11_rule 10 = .ok (.iload_n 2, 1) := by decide +kernel
theorem dX11_rule_11 : decode cX11_rule 11 = .ok (.invokestatic 170, 3) := by decide +kernel
theorem dX11_rule_14 : decode cX11_rule 14 = .ok (.ifCond .eq 13, 3) := by decide +kernel
theorem dX11_rule_17 : decode cX11_rule 17 = .ok (.iload_n 3, 1) := by decide +kernel
theorem dX11_rule_18 : decode cX11_rule 18 = .ok (.iconst 0, 1) := by decide +kernel
theorem dX11_rule_19 : decode cX11_rule 19 = .ok (.bipush 12, 2) := by decide +kernel
theorem dX11_rule_21 : decode cX11_rule 21 = .ok (.invokestatic 94, 3) := by decide +kernel
theorem dX11_rule_24 : decode cX11_rule 24 = .ok (.ifCond .eq 5, 3) := by decide +kernel
theorem dX11_rule_27 : decode cX11_rule 27 = .ok (.iconst (-1), 1) := by decide +kernel
theorem dX11_rule_28 : decode cX11_rule 28 = .ok (.ireturn, 1) := by decide +kernel
theorem dX11_rule_29 : decode cX11_rule 29 = .ok (.aload_n 0, 1) := by decide +kernel
theorem dX11_rule_30 : decode cX11_rule 30 = .ok (.getfield 61, 3) := by decide +kernel
theorem dX11_rule_33 : decode cX11_rule 33 = .ok (.getfield 173, 3) := by decide +kernel
theorem dX11_rule_36 : decode cX11_rule 36 = .ok (.bipush 20, 2) := by decide +kernel
theorem dX11_rule_38 : decode cX11_rule 38 = .ok (.if_icmp .lt 6, 3) := by decide +kernel
theorem dX11_rule_41 : decode cX11_rule 41 = .ok (.bipush (-3), 2) := by decide +kernel
theorem dX11_rule_43 : decode cX11_rule 43 = .ok (.ireturn, 1) := by decide +kernel
theorem dX11_rule_44 : decode cX11_rule 44 = .ok (.aload_n 0, 1) := by decide +kernel
theorem dX11_rule_45 : decode cX11_rule 45 = .ok (.getfield 61, 3) := by decide +kernel
theorem dX11_rule_48 : decode cX11_rule 48 = .ok (.iload_n 1, 1) := by decide +kernel
theorem dX11_rule_49 : decode cX11_rule 49 = .ok (.iload_n 2, 1) := by decide +kernel
theorem dX11_rule_50 : decode cX11_rule 50 = .ok (.iload_n 3, 1) := by decide +kernel
theorem dX11_rule_51 : decode cX11_rule 51 = .ok (.invokevirtual 174, 3) := by decide +kernel
theorem dX11_rule_54 : decode cX11_rule 54 = .ok (.ireturn, 1) := by decide +kernel
theorem dX11_puts_0 : decode cX11_puts 0 = .ok (.aload_n 0, 1) := by decide +kernel
theorem dX11_puts_1 : decode cX11_puts 1 = .ok (.iload_n 1, 1) := by decide +kernel
theorem dX11_puts_2 : decode cX11_puts 2 = .ok (.invokevirtual 177, 3) := by decide +kernel
theorem dX11_puts_5 : decode cX11_puts 5 = .ok (.ifCond .eq 5, 3) := by decide +kernel
theorem dX11_puts_8 : decode cX11_puts 8 = .ok (.iconst (-1), 1) := by decide +kernel
theorem dX11_puts_9 : decode cX11_puts 9 = .ok (.ireturn, 1) := by decide +kernel
theorem dX11_puts_10 : decode cX11_puts 10 = .ok (.aload_n 0, 1) := by decide +kernel
theorem dX11_puts_11 : decode cX11_puts 11 = .ok (.getfield 77, 3) := by decide +kernel
theorem dX11_puts_14 : decode cX11_puts 14 = .ok (.getfield 134, 3) := by decide +kernel
theorem dX11_puts_17 : decode cX11_puts 17 = .ok (.istore_n 2, 1) := by decide +kernel
theorem dX11_puts_18 : decode cX11_puts 18 = .ok (.aload_n 0, 1) := by decide +kernel
theorem dX11_puts_19 : decode cX11_puts 19 = .ok (.getfield 77, 3) := by decide +kernel
theorem dX11_puts_22 : decode cX11_puts 22 = .ok (.aload_n 0, 1) := by decide +kernel
theorem dX11_puts_23 : decode cX11_puts 23 = .ok (.getfield 77, 3) := by decide +kernel
theorem dX11_puts_26 : decode cX11_puts 26 = .ok (.getfield 134, 3) := by decide +kernel
theorem dX11_puts_29 : decode cX11_puts 29 = .ok (.invokevirtual 180, 3) := by decide +kernel
theorem dX11_puts_32 : decode cX11_puts 32 = .ok (.istore_n 3, 1) := by decide +kernel
theorem dX11_puts_33 : decode cX11_puts 33 = .ok (.aload_n 0, 1) := by decide +kernel
theorem dX11_puts_34 : decode cX11_puts 34 = .ok (.getfield 61, 3) := by decide +kernel
theorem dX11_puts_37 : decode cX11_puts 37 = .ok (.iload_n 1, 1) := by decide +kernel
theorem dX11_puts_38 : decode cX11_puts 38 = .ok (.invokevirtual 183, 3) := by decide +kernel
theorem dX11_puts_41 : decode cX11_puts 41 = .ok (.iconst 2, 1) := by decide +kernel
theorem dX11_puts_42 : decode cX11_puts 42 = .ok (.if_icmp .ne 7, 3) := by decide +kernel
theorem dX11_puts_45 : decode cX11_puts 45 = .ok (.iconst 1, 1) := by decide +kernel
theorem dX11_puts_46 : decode cX11_puts 46 = .ok (.goto 4, 3) := by decide +kernel
theorem dX11_puts_49 : decode cX11_puts 49 = .ok (.iconst 0, 1) := by decide +kernel
theorem dX11_puts_50 : decode cX11_puts 50 = .ok (.istore 4, 2) := by decide +kernel
theorem dX11_puts_52 : decode cX11_puts 52 = .ok (.iload 4, 2) := by decide +kernel
theorem dX11_puts_54 : decode cX11_puts 54 = .ok (.ifCond .eq 20, 3) := by decide +kernel
theorem dX11_puts_57 : decode cX11_puts 57 = .ok (.aload_n 0, 1) := by decide +kernel
theorem dX11_puts_58 : decode cX11_puts 58 = .ok (.getfield 26, 3) := by decide +kernel
theorem dX11_puts_61 : decode cX11_puts 61 = .ok (.getfield 143, 3) := by decide +kernel
theorem dX11_puts_64 : decode cX11_puts 64 = .ok (.iload_n 2, 1) := by decide +kernel
theorem dX11_puts_65 : decode cX11_puts 65 = .ok (.isub, 1) := by decide +kernel
theorem dX11_puts_66 : decode cX11_puts 66 = .ok (.bipush 8, 2) := by decide +kernel
theorem dX11_puts_68 : decode cX11_puts 68 = .ok (.if_icmp .le 6, 3) := by decide +kernel
theorem dX11_puts_71 : decode cX11_puts 71 = .ok (.bipush (-4), 2) := by decide +kernel
theorem dX11_puts_73 : decode cX11_puts 73 = .ok (.ireturn, 1) := by decide +kernel
theorem dX11_puts_74 : decode cX11_puts 74 = .ok (.aload_n 0, 1) := by decide +kernel
theorem dX11_puts_75 : decode cX11_puts 75 = .ok (.getfield 77, 3) := by decide +kernel
theorem dX11_puts_78 : decode cX11_puts 78 = .ok (.iload_n 2, 1) := by decide +kernel
theorem dX11_puts_79 : decode cX11_puts 79 = .ok (.aload_n 0, 1) := by decide +kernel
theorem dX11_puts_80 : decode cX11_puts 80 = .ok (.getfield 10, 3) := by decide +kernel
theorem dX11_puts_83 : decode cX11_puts 83 = .ok (.invokevirtual 186, 3) := by decide +kernel
theorem dX11_puts_86 : decode cX11_puts 86 = .ok (.istore 5, 2) := by decide +kernel
theorem dX11_puts_88 : decode cX11_puts 88 = .ok (.aload_n 0, 1) := by decide +kernel
theorem dX11_puts_89 : decode cX11_puts 89 = .ok (.getfield 26, 3) := by decide +kernel
theorem dX11_puts_92 : decode cX11_puts 92 = .ok (.iload_n 2, 1) := by decide +kernel
theorem dX11_puts_93 : decode cX11_puts 93 = .ok (.iload_n 3, 1) := by decide +kernel
theorem dX11_puts_94 : decode cX11_puts 94 = .ok (.iload 5, 2) := by decide +kernel
theorem dX11_puts_96 : decode cX11_puts 96 = .ok (.invokevirtual 190, 3) := by decide +kernel
theorem dX11_puts_99 : decode cX11_puts 99 = .ok (.ifCond .eq 6, 3) := by decide +kernel
theorem dX11_puts_102 : decode cX11_puts 102 = .ok (.bipush (-2), 2) := by decide +kernel
theorem dX11_puts_104 : decode cX11_puts 104 = .ok (.ireturn, 1) := by decide +kernel
theorem dX11_puts_105 : decode cX11_puts 105 = .ok (.aload_n 0, 1) := by decide +kernel
theorem dX11_puts_106 : decode cX11_puts 106 = .ok (.getfield 45, 3) := by decide +kernel
theorem dX11_puts_109 : decode cX11_puts 109 = .ok (.aload_n 0, 1) := by decide +kernel
theorem dX11_puts_110 : decode cX11_puts 110 = .ok (.getfield 10, 3) := by decide +kernel
theorem dX11_puts_113 : decode cX11_puts 113 = .ok (.getfield 121, 3) := by decide +kernel
theorem dX11_puts_116 : decode cX11_puts 116 = .ok (.invokevirtual 156, 3) := by decide +kernel
theorem dX11_puts_119 : decode cX11_puts 119 = .ok (.iload 4, 2) := by decide +kernel
theorem dX11_puts_121 : decode cX11_puts 121 = .ok (.ifCond .eq 14, 3) := by decide +kernel
theorem dX11_puts_124 : decode cX11_puts 124 = .ok (.aload_n 0, 1) := by decide +kernel
theorem dX11_puts_125 : decode cX11_puts 125 = .ok (.getfield 54, 3) := by decide +kernel
theorem dX11_puts_128 : decode cX11_puts 128 = .ok (.iload 5, 2) := by decide +kernel
theorem dX11_puts_130 : decode cX11_puts 130 = .ok (.iload_n 2, 1) := by decide +kernel
theorem dX11_puts_131 : decode cX11_puts 131 = .ok (.iload_n 3, 1) := by decide +kernel
theorem dX11_puts_132 : decode cX11_puts 132 = .ok (.invokevirtual 193, 3) := by decide +kernel
theorem dX11_puts_135 : decode cX11_puts 135 = .ok (.aload_n 0, 1) := by decide +kernel
theorem dX11_puts_136 : decode cX11_puts 136 = .ok (.getfield 70, 3) := by decide +kernel
theorem dX11_puts_139 : decode cX11_puts 139 = .ok (.iload_n 1, 1) := by decide +kernel
theorem dX11_puts_140 : decode cX11_puts 140 = .ok (.iload_n 2, 1) := by decide +kernel
theorem dX11_puts_141 : decode cX11_puts 141 = .ok (.iload_n 3, 1) := by decide +kernel
theorem dX11_puts_142 : decode cX11_puts 142 = .ok (.iload 5, 2) := by decide +kernel
theorem dX11_puts_144 : decode cX11_puts 144 = .ok (.invokevirtual 197, 3) := by decide +kernel
theorem dX11_puts_147 : decode cX11_puts 147 = .ok (.ireturn, 1) := by decide +kernel
theorem dX11_mean_0 : decode cX11_mean 0 = .ok (.aload_n 0, 1) := by decide +kernel
theorem dX11_mean_1 : decode cX11_mean 1 = .ok (.iload_n 1, 1) := by decide +kernel
theorem dX11_mean_2 : decode cX11_mean 2 = .ok (.invokevirtual 177, 3) := by decide +kernel
theorem dX11_mean_5 : decode cX11_mean 5 = .ok (.ifCond .eq 5, 3) := by decide +kernel
theorem dX11_mean_8 : decode cX11_mean 8 = .ok (.iconst (-1), 1) := by decide +kernel
theorem dX11_mean_9 : decode cX11_mean 9 = .ok (.ireturn, 1) := by decide +kernel
theorem dX11_mean_10 : decode cX11_mean 10 = .ok (.aload_n 0, 1) := by decide +kernel
theorem dX11_mean_11 : decode cX11_mean 11 = .ok (.getfield 26, 3) := by decide +kernel
theorem dX11_mean_14 : decode cX11_mean 14 = .ok (.getfield 143, 3) := by decide +kernel
theorem dX11_mean_17 : decode cX11_mean 17 = .ok (.bipush 8, 2) := by decide +kernel
theorem dX11_mean_19 : decode cX11_mean 19 = .ok (.if_icmp .le 6, 3) := by decide +kernel
theorem dX11_mean_22 : decode cX11_mean 22 = .ok (.bipush (-4), 2) := by decide +kernel
theorem dX11_mean_24 : decode cX11_mean 24 = .ok (.ireturn, 1) := by decide +kernel
theorem dX11_mean_25 : decode cX11_mean 25 = .ok (.aload_n 0, 1) := by decide +kernel
theorem dX11_mean_26 : decode cX11_mean 26 = .ok (.iload_n 1, 1) := by decide +kernel
theorem dX11_mean_27 : decode cX11_mean 27 = .ok (.invokevirtual 201, 3) := by decide +kernel
theorem dX11_mean_30 : decode cX11_mean 30 = .ok (.aload_n 0, 1) := by decide +kernel
theorem dX11_mean_31 : decode cX11_mean 31 = .ok (.getfield 70, 3) := by decide +kernel
theorem dX11_mean_34 : decode cX11_mean 34 = .ok (.iload_n 1, 1) := by decide +kernel
theorem dX11_mean_35 : decode cX11_mean 35 = .ok (.iconst 0, 1) := by decide +kernel
theorem dX11_mean_36 : decode cX11_mean 36 = .ok (.iconst 0, 1) := by decide +kernel
theorem dX11_mean_37 : decode cX11_mean 37 = .ok (.aload_n 0, 1) := by decide +kernel
theorem dX11_mean_38 : decode cX11_mean 38 = .ok (.getfield 10, 3) := by decide +kernel
theorem dX11_mean_41 : decode cX11_mean 41 = .ok (.invokevirtual 204, 3) := by decide +kernel
theorem dX11_mean_44 : decode cX11_mean 44 = .ok (.invokevirtual 208, 3) := by decide +kernel
theorem dX11_mean_47 : decode cX11_mean 47 = .ok (.ireturn, 1) := by decide +kernel
theorem dX11_likely_0 : decode cX11_likely 0 = .ok (.aload_n 0, 1) := by decide +kernel
theorem dX11_likely_1 : decode cX11_likely 1 = .ok (.iload_n 1, 1) := by decide +kernel
theorem dX11_likely_2 : decode cX11_likely 2 = .ok (.invokevirtual 177, 3) := by decide +kernel
theorem dX11_likely_5 : decode cX11_likely 5 = .ok (.ifCond .ne 14, 3) := by decide +kernel
theorem dX11_likely_8 : decode cX11_likely 8 = .ok (.iload_n 2, 1) := by decide +kernel
theorem dX11_likely_9 : decode cX11_likely 9 = .ok (.iconst 0, 1) := by decide +kernel
theorem dX11_likely_10 : decode cX11_likely 10 = .ok (.sipush 999, 3) := by decide +kernel
theorem dX11_likely_13 : decode cX11_likely 13 = .ok (.invokestatic 94, 3) := by decide +kernel
theorem dX11_likely_16 : decode cX11_likely 16 = .ok (.ifCond .eq 5, 3) := by decide +kernel
theorem dX11_likely_19 : decode cX11_likely 19 = .ok (.iconst (-1), 1) := by decide +kernel
theorem dX11_likely_20 : decode cX11_likely 20 = .ok (.ireturn, 1) := by decide +kernel
theorem dX11_likely_21 : decode cX11_likely 21 = .ok (.aload_n 0, 1) := by decide +kernel
theorem dX11_likely_22 : decode cX11_likely 22 = .ok (.getfield 26, 3) := by decide +kernel
theorem dX11_likely_25 : decode cX11_likely 25 = .ok (.getfield 143, 3) := by decide +kernel
theorem dX11_likely_28 : decode cX11_likely 28 = .ok (.bipush 8, 2) := by decide +kernel
theorem dX11_likely_30 : decode cX11_likely 30 = .ok (.if_icmp .le 6, 3) := by decide +kernel
theorem dX11_likely_33 : decode cX11_likely 33 = .ok (.bipush (-4), 2) := by decide +kernel
theorem dX11_likely_35 : decode cX11_likely 35 = .ok (.ireturn, 1) := by decide +kernel
theorem dX11_likely_36 : decode cX11_likely 36 = .ok (.aload_n 0, 1) := by decide +kernel
theorem dX11_likely_37 : decode cX11_likely 37 = .ok (.iload_n 1, 1) := by decide +kernel
theorem dX11_likely_38 : decode cX11_likely 38 = .ok (.invokevirtual 201, 3) := by decide +kernel
theorem dX11_likely_41 : decode cX11_likely 41 = .ok (.aload_n 0, 1) := by decide +kernel
theorem dX11_likely_42 : decode cX11_likely 42 = .ok (.getfield 70, 3) := by decide +kernel
theorem dX11_likely_45 : decode cX11_likely 45 = .ok (.iload_n 1, 1) := by decide +kernel
theorem dX11_likely_46 : decode cX11_likely 46 = .ok (.iconst 0, 1) := by decide +kernel
theorem dX11_likely_47 : decode cX11_likely 47 = .ok (.iconst 0, 1) := by decide +kernel
theorem dX11_likely_48 : decode cX11_likely 48 = .ok (.aload_n 0, 1) := by decide +kernel
theorem dX11_likely_49 : decode cX11_likely 49 = .ok (.getfield 10, 3) := by decide +kernel
theorem dX11_likely_52 : decode cX11_likely 52 = .ok (.invokevirtual 204, 3) := by decide +kernel
theorem dX11_likely_55 : decode cX11_likely 55 = .ok (.iload_n 2, 1) := by decide +kernel
theorem dX11_likely_56 : decode cX11_likely 56 = .ok (.invokevirtual 211, 3) := by decide +kernel
theorem dX11_likely_59 : decode cX11_likely 59 = .ok (.ireturn, 1) := by decide +kernel
theorem dX11_best_0 : decode cX11_best 0 = .ok (.iload_n 1, 1) := by decide +kernel
theorem dX11_best_1 : decode cX11_best 1 = .ok (.iconst 0, 1) := by decide +kernel
theorem dX11_best_2 : decode cX11_best 2 = .ok (.iconst 1, 1) := by decide +kernel
theorem dX11_best_3 : decode cX11_best 3 = .ok (.invokestatic 94, 3) := by decide +kernel
theorem dX11_best_6 : decode cX11_best 6 = .ok (.ifCond .eq 5, 3) := by decide +kernel
theorem dX11_best_9 : decode cX11_best 9 = .ok (.iconst (-1), 1) := by decide +kernel
theorem dX11_best_10 : decode cX11_best 10 = .ok (.ireturn, 1) := by decide +kernel
theorem dX11_best_11 : decode cX11_best 11 = .ok (.aload_n 0, 1) := by decide +kernel
theorem dX11_best_12 : decode cX11_best 12 = .ok (.getfield 77, 3) := by decide +kernel
theorem dX11_best_15 : decode cX11_best 15 = .ok (.getfield 134, 3) := by decide +kernel
theorem dX11_best_18 : decode cX11_best 18 = .ok (.istore_n 2, 1) := by decide +kernel
theorem dX11_best_19 : decode cX11_best 19 = .ok (.aload_n 0, 1) := by decide +kernel
theorem dX11_best_20 : decode cX11_best 20 = .ok (.getfield 77, 3) := by decide +kernel
theorem dX11_best_23 : decode cX11_best 23 = .ok (.aload_n 0, 1) := by decide +kernel
theorem dX11_best_24 : decode cX11_best 24 = .ok (.getfield 77, 3) := by decide +kernel
theorem dX11_best_27 : decode cX11_best 27 = .ok (.getfield 134, 3) := by decide +kernel
theorem dX11_best_30 : decode cX11_best 30 = .ok (.invokevirtual 180, 3) := by decide +kernel
theorem dX11_best_33 : decode cX11_best 33 = .ok (.istore_n 3, 1) := by decide +kernel
theorem dX11_best_34 : decode cX11_best 34 = .ok (.aload_n 0, 1) := by decide +kernel
theorem dX11_best_35 : decode cX11_best 35 = .ok (.getfield 26, 3) := by decide +kernel
theorem dX11_best_38 : decode cX11_best 38 = .ok (.getfield 143, 3) := by decide +kernel
theorem dX11_best_41 : decode cX11_best 41 = .ok (.iload_n 2, 1) := by decide +kernel
theorem dX11_best_42 : decode cX11_best 42 = .ok (.isub, 1) := by decide +kernel
theorem dX11_best_43 : decode cX11_best 43 = .ok (.bipush 8, 2) := by decide +kernel
theorem dX11_best_45 : decode cX11_best 45 = .ok (.if_icmp .le 6, 3) := by decide +kernel
theorem dX11_best_48 : decode cX11_best 48 = .ok (.bipush (-4), 2) := by decide +kernel
theorem dX11_best_50 : decode cX11_best 50 = .ok (.ireturn, 1) := by decide +kernel
theorem dX11_best_51 : decode cX11_best 51 = .ok (.aload_n 0, 1) := by decide +kernel
theorem dX11_best_52 : decode cX11_best 52 = .ok (.getfield 77, 3) := by decide +kernel
theorem dX11_best_55 : decode cX11_best 55 = .ok (.iload_n 2, 1) := by decide +kernel
theorem dX11_best_56 : decode cX11_best 56 = .ok (.aload_n 0, 1) := by decide +kernel
theorem dX11_best_57 : decode cX11_best 57 = .ok (.getfield 10, 3) := by decide +kernel
theorem dX11_best_60 : decode cX11_best 60 = .ok (.invokevirtual 186, 3) := by decide +kernel
theorem dX11_best_63 : decode cX11_best 63 = .ok (.istore 4, 2) := by decide +kernel
theorem dX11_best_65 : decode cX11_best 65 = .ok (.aload_n 0, 1) := by decide +kernel
theorem dX11_best_66 : decode cX11_best 66 = .ok (.getfield 26, 3) := by decide +kernel
theorem dX11_best_69 : decode cX11_best 69 = .ok (.iload_n 2, 1) := by decide +kernel
theorem dX11_best_70 : decode cX11_best 70 = .ok (.iload_n 3, 1) := by decide +kernel
theorem dX11_best_71 : decode cX11_best 71 = .ok (.iload 4, 2) := by decide +kernel
theorem dX11_best_73 : decode cX11_best 73 = .ok (.invokevirtual 190, 3) := by decide +kernel
theorem dX11_best_76 : decode cX11_best 76 = .ok (.ifCond .eq 14, 3) := by decide +kernel
theorem dX11_best_79 : decode cX11_best 79 = .ok (.iload_n 1, 1) := by decide +kernel
theorem dX11_best_80 : decode cX11_best 80 = .ok (.ifCond .ne 7, 3) := by decide +kernel
theorem dX11_best_83 : decode cX11_best 83 = .ok (.iconst 0, 1) := by decide +kernel
theorem dX11_best_84 : decode cX11_best 84 = .ok (.goto 5, 3) := by decide +kernel
theorem dX11_best_87 : decode cX11_best 87 = .ok (.bipush (-2), 2) := by decide +kernel
theorem dX11_best_89 : decode cX11_best 89 = .ok (.ireturn, 1) := by decide +kernel
theorem dX11_best_90 : decode cX11_best 90 = .ok (.aload_n 0, 1) := by decide +kernel
theorem dX11_best_91 : decode cX11_best 91 = .ok (.getfield 45, 3) := by decide +kernel
theorem dX11_best_94 : decode cX11_best 94 = .ok (.aload_n 0, 1) := by decide +kernel
theorem dX11_best_95 : decode cX11_best 95 = .ok (.getfield 10, 3) := by decide +kernel
theorem dX11_best_98 : decode cX11_best 98 = .ok (.getfield 121, 3) := by decide +kernel
theorem dX11_best_101 : decode cX11_best 101 = .ok (.invokevirtual 156, 3) := by decide +kernel
theorem dX11_best_104 : decode cX11_best 104 = .ok (.aload_n 0, 1) := by decide +kernel
theorem dX11_best_105 : decode cX11_best 105 = .ok (.getfield 54, 3) := by decide +kernel
theorem dX11_best_108 : decode cX11_best 108 = .ok (.iload 4, 2) := by decide +kernel
theorem dX11_best_110 : decode cX11_best 110 = .ok (.iload_n 2, 1) := by decide +kernel
theorem dX11_best_111 : decode cX11_best 111 = .ok (.iload_n 3, 1) := by decide +kernel
theorem dX11_best_112 : decode cX11_best 112 = .ok (.invokevirtual 193, 3) := by decide +kernel
theorem dX11_best_115 : decode cX11_best 115 = .ok (.iload_n 1, 1) := by decide +kernel
theorem dX11_best_116 : decode cX11_best 116 = .ok (.ifCond .ne 15, 3) := by decide +kernel
theorem dX11_best_119 : decode cX11_best 119 = .ok (.aload_n 0, 1) := by decide +kernel
theorem dX11_best_120 : decode cX11_best 120 = .ok (.getfield 54, 3) := by decide +kernel
theorem dX11_best_123 : decode cX11_best 123 = .ok (.iconst 0, 1) := by decide +kernel
theorem dX11_best_124 : decode cX11_best 124 = .ok (.iload_n 3, 1) := by decide +kernel
theorem dX11_best_125 : decode cX11_best 125 = .ok (.invokevirtual 215, 3) := by decide +kernel
theorem dX11_best_128 : decode cX11_best 128 = .ok (.goto 12, 3) := by decide +kernel
theorem dX11_best_131 : decode cX11_best 131 = .ok (.aload_n 0, 1) := by decide +kernel
theorem dX11_best_132 : decode cX11_best 132 = .ok (.getfield 54, 3) := by decide +kernel
theorem dX11_best_135 : decode cX11_best 135 = .ok (.iconst 0, 1) := by decide +kernel
theorem dX11_best_136 : decode cX11_best 136 = .ok (.iload_n 3, 1) := by decide +kernel
theorem dX11_best_137 : decode cX11_best 137 = .ok (.invokevirtual 218, 3) := by decide +kernel
theorem dX11_best_140 : decode cX11_best 140 = .ok (.ireturn, 1) := by decide +kernel
theorem dX11_worth_0 : decode cX11_worth 0 = .ok (.aload_n 0, 1) := by decide +kernel
theorem dX11_worth_1 : decode cX11_worth 1 = .ok (.iload_n 1, 1) := by decide +kernel
theorem dX11_worth_2 : decode cX11_worth 2 = .ok (.invokevirtual 152, 3) := by decide +kernel
theorem dX11_worth_5 : decode cX11_worth 5 = .ok (.ifCond .ne 24, 3) := by decide +kernel
theorem dX11_worth_8 : decode cX11_worth 8 = .ok (.iload_n 2, 1) := by decide +kernel
theorem dX11_worth_9 : decode cX11_worth 9 = .ok (.iconst 0, 1) := by decide +kernel
theorem dX11_worth_10 : decode cX11_worth 10 = .ok (.iconst 1, 1) := by decide +kernel
theorem dX11_worth_11 : decode cX11_worth 11 = .ok (.invokestatic 94, 3) := by decide +kernel
theorem dX11_worth_14 : decode cX11_worth 14 = .ok (.ifCond .ne 15, 3) := by decide +kernel
theorem dX11_worth_17 : decode cX11_worth 17 = .ok (.aload_n 0, 1) := by decide +kernel
theorem dX11_worth_18 : decode cX11_worth 18 = .ok (.getfield 26, 3) := by decide +kernel
theorem dX11_worth_21 : decode cX11_worth 21 = .ok (.getfield 143, 3) := by decide +kernel
theorem dX11_worth_24 : decode cX11_worth 24 = .ok (.bipush 8, 2) := by decide +kernel
theorem dX11_worth_26 : decode cX11_worth 26 = .ok (.if_icmp .le 6, 3) := by decide +kernel
theorem dX11_worth_29 : decode cX11_worth 29 = .ok (.ldc 117, 2) := by decide +kernel
theorem dX11_worth_31 : decode cX11_worth 31 = .ok (.ireturn, 1) := by decide +kernel
theorem dX11_worth_32 : decode cX11_worth 32 = .ok (.aload_n 0, 1) := by decide +kernel
theorem dX11_worth_33 : decode cX11_worth 33 = .ok (.getfield 10, 3) := by decide +kernel
theorem dX11_worth_36 : decode cX11_worth 36 = .ok (.invokevirtual 204, 3) := by decide +kernel
theorem dX11_worth_39 : decode cX11_worth 39 = .ok (.istore_n 3, 1) := by decide +kernel
theorem dX11_worth_40 : decode cX11_worth 40 = .ok (.iload_n 2, 1) := by decide +kernel
theorem dX11_worth_41 : decode cX11_worth 41 = .ok (.ifCond .ne 7, 3) := by decide +kernel
theorem dX11_worth_44 : decode cX11_worth 44 = .ok (.iconst 0, 1) := by decide +kernel
theorem dX11_worth_45 : decode cX11_worth 45 = .ok (.goto 13, 3) := by decide +kernel
theorem dX11_worth_48 : decode cX11_worth 48 = .ok (.aload_n 0, 1) := by decide +kernel
theorem dX11_worth_49 : decode cX11_worth 49 = .ok (.getfield 10, 3) := by decide +kernel
theorem dX11_worth_52 : decode cX11_worth 52 = .ok (.iload_n 1, 1) := by decide +kernel
theorem dX11_worth_53 : decode cX11_worth 53 = .ok (.invokevirtual 163, 3) := by decide +kernel
theorem dX11_worth_56 : decode cX11_worth 56 = .ok (.iconst 1, 1) := by decide +kernel
theorem dX11_worth_57 : decode cX11_worth 57 = .ok (.iadd, 1) := by decide +kernel
theorem dX11_worth_58 : decode cX11_worth 58 = .ok (.istore 4, 2) := by decide +kernel
theorem dX11_worth_60 : decode cX11_worth 60 = .ok (.aload_n 0, 1) := by decide +kernel
theorem dX11_worth_61 : decode cX11_worth 61 = .ok (.iload_n 3, 1) := by decide +kernel
theorem dX11_worth_62 : decode cX11_worth 62 = .ok (.iload_n 1, 1) := by decide +kernel
theorem dX11_worth_63 : decode cX11_worth 63 = .ok (.iload 4, 2) := by decide +kernel
theorem dX11_worth_65 : decode cX11_worth 65 = .ok (.invokestatic 221, 3) := by decide +kernel
theorem dX11_worth_68 : decode cX11_worth 68 = .ok (.aload_n 0, 1) := by decide +kernel
theorem dX11_worth_69 : decode cX11_worth 69 = .ok (.getfield 10, 3) := by decide +kernel
theorem dX11_worth_72 : decode cX11_worth 72 = .ok (.getfield 121, 3) := by decide +kernel
theorem dX11_worth_75 : decode cX11_worth 75 = .ok (.invokevirtual 226, 3) := by decide +kernel
theorem dX11_worth_78 : decode cX11_worth 78 = .ok (.istore 5, 2) := by decide +kernel
theorem dX11_worth_80 : decode cX11_worth 80 = .ok (.aload_n 0, 1) := by decide +kernel
theorem dX11_worth_81 : decode cX11_worth 81 = .ok (.iload_n 3, 1) := by decide +kernel
theorem dX11_worth_82 : decode cX11_worth 82 = .ok (.aload_n 0, 1) := by decide +kernel
theorem dX11_worth_83 : decode cX11_worth 83 = .ok (.getfield 10, 3) := by decide +kernel
theorem dX11_worth_86 : decode cX11_worth 86 = .ok (.getfield 121, 3) := by decide +kernel
theorem dX11_worth_89 : decode cX11_worth 89 = .ok (.invokevirtual 226, 3) := by decide +kernel
theorem dX11_worth_92 : decode cX11_worth 92 = .ok (.istore 6, 2) := by decide +kernel
theorem dX11_worth_94 : decode cX11_worth 94 = .ok (.iload_n 2, 1) := by decide +kernel
theorem dX11_worth_95 : decode cX11_worth 95 = .ok (.ifCond .ne 11, 3) := by decide +kernel
theorem dX11_worth_98 : decode cX11_worth 98 = .ok (.iload 5, 2) := by decide +kernel
theorem dX11_worth_100 : decode cX11_worth 100 = .ok (.iload 6, 2) := by decide +kernel
theorem dX11_worth_102 : decode cX11_worth 102 = .ok (.isub, 1) := by decide +kernel
theorem dX11_worth_103 : decode cX11_worth 103 = .ok (.goto 8, 3) := by decide +kernel
theorem dX11_worth_106 : decode cX11_worth 106 = .ok (.iload 6, 2) := by decide +kernel
theorem dX11_worth_108 : decode cX11_worth 108 = .ok (.iload 5, 2) := by decide +kernel
theorem dX11_worth_110 : decode cX11_worth 110 = .ok (.isub, 1) := by decide +kernel
theorem dX11_worth_111 : decode cX11_worth 111 = .ok (.ireturn, 1) := by decide +kernel
theorem dX11_fielded_0 : decode cX11_fielded 0 = .ok (.iload_n 2, 1) := by decide +kernel
theorem dX11_fielded_1 : decode cX11_fielded 1 = .ok (.iconst 0, 1) := by decide +kernel
theorem dX11_fielded_2 : decode cX11_fielded 2 = .ok (.iconst 1, 1) := by decide +kernel
theorem dX11_fielded_3 : decode cX11_fielded 3 = .ok (.invokestatic 94, 3) := by decide +kernel
theorem dX11_fielded_6 : decode cX11_fielded 6 = .ok (.ifCond .ne 16, 3) := by decide +kernel
theorem dX11_fielded_9 : decode cX11_fielded 9 = .ok (.iload_n 2, 1) := by decide +kernel
theorem dX11_fielded_10 : decode cX11_fielded 10 = .ok (.ifCond .ne 14, 3) := by decide +kernel
theorem dX11_fielded_13 : decode cX11_fielded 13 = .ok (.iload_n 1, 1) := by decide +kernel
theorem dX11_fielded_14 : decode cX11_fielded 14 = .ok (.iconst 0, 1) := by decide +kernel
theorem dX11_fielded_15 : decode cX11_fielded 15 = .ok (.iconst 3, 1) := by decide +kernel
theorem dX11_fielded_16 : decode cX11_fielded 16 = .ok (.invokestatic 94, 3) := by decide +kernel
theorem dX11_fielded_19 : decode cX11_fielded 19 = .ok (.ifCond .eq 5, 3) := by decide +kernel
theorem dX11_fielded_22 : decode cX11_fielded 22 = .ok (.iconst (-1), 1) := by decide +kernel
theorem dX11_fielded_23 : decode cX11_fielded 23 = .ok (.ireturn, 1) := by decide +kernel
theorem dX11_fielded_24 : decode cX11_fielded 24 = .ok (.aload_n 0, 1) := by decide +kernel
theorem dX11_fielded_25 : decode cX11_fielded 25 = .ok (.getfield 26, 3) := by decide +kernel
theorem dX11_fielded_28 : decode cX11_fielded 28 = .ok (.getfield 143, 3) := by decide +kernel
theorem dX11_fielded_31 : decode cX11_fielded 31 = .ok (.bipush 8, 2) := by decide +kernel
theorem dX11_fielded_33 : decode cX11_fielded 33 = .ok (.if_icmp .le 6, 3) := by decide +kernel
theorem dX11_fielded_36 : decode cX11_fielded 36 = .ok (.bipush (-4), 2) := by decide +kernel
theorem dX11_fielded_38 : decode cX11_fielded 38 = .ok (.ireturn, 1) := by decide +kernel
theorem dX11_fielded_39 : decode cX11_fielded 39 = .ok (.aload_n 0, 1) := by decide +kernel
theorem dX11_fielded_40 : decode cX11_fielded 40 = .ok (.getfield 10, 3) := by decide +kernel
theorem dX11_fielded_43 : decode cX11_fielded 43 = .ok (.invokevirtual 204, 3) := by decide +kernel
theorem dX11_fielded_46 : decode cX11_fielded 46 = .ok (.istore_n 3, 1) := by decide +kernel
theorem dX11_fielded_47 : decode cX11_fielded 47 = .ok (.iconst 0, 1) := by decide +kernel
theorem dX11_fielded_48 : decode cX11_fielded 48 = .ok (.istore 4, 2) := by decide +kernel
theorem dX11_fielded_50 : decode cX11_fielded 50 = .ok (.aload_n 0, 1) := by decide +kernel
theorem dX11_fielded_51 : decode cX11_fielded 51 = .ok (.iload_n 3, 1) := by decide +kernel
theorem dX11_fielded_52 : decode cX11_fielded 52 = .ok (.iload_n 2, 1) := by decide +kernel
theorem dX11_fielded_53 : decode cX11_fielded 53 = .ok (.ifCond .ne 7, 3) := by decide +kernel
theorem dX11_fielded_56 : decode cX11_fielded 56 = .ok (.iload_n 1, 1) := by decide +kernel
theorem dX11_fielded_57 : decode cX11_fielded 57 = .ok (.goto 4, 3) := by decide +kernel
theorem dX11_fielded_60 : decode cX11_fielded 60 = .ok (.iconst 0, 1) := by decide +kernel
theorem dX11_fielded_61 : decode cX11_fielded 61 = .ok (.invokevirtual 226, 3) := by decide +kernel
theorem dX11_fielded_64 : decode cX11_fielded 64 = .ok (.istore 5, 2) := by decide +kernel
theorem dX11_fielded_66 : decode cX11_fielded 66 = .ok (.iload_n 2, 1) := by decide +kernel
theorem dX11_fielded_67 : decode cX11_fielded 67 = .ok (.ifCond .ne 6, 3) := by decide +kernel
theorem dX11_fielded_70 : decode cX11_fielded 70 = .ok (.iload 5, 2) := by decide +kernel
theorem dX11_fielded_72 : decode cX11_fielded 72 = .ok (.ireturn, 1) := by decide +kernel
theorem dX11_fielded_73 : decode cX11_fielded 73 = .ok (.iconst 1, 1) := by decide +kernel
theorem dX11_fielded_74 : decode cX11_fielded 74 = .ok (.istore 6, 2) := by decide +kernel
theorem dX11_fielded_76 : decode cX11_fielded 76 = .ok (.iload 6, 2) := by decide +kernel
theorem dX11_fielded_78 : decode cX11_fielded 78 = .ok (.iconst 4, 1) := by decide +kernel
theorem dX11_fielded_79 : decode cX11_fielded 79 = .ok (.if_icmp .ge 33, 3) := by decide +kernel
theorem dX11_fielded_82 : decode cX11_fielded 82 = .ok (.aload_n 0, 1) := by decide +kernel
theorem dX11_fielded_83 : decode cX11_fielded 83 = .ok (.iload_n 3, 1) := by decide +kernel
theorem dX11_fielded_84 : decode cX11_fielded 84 = .ok (.iload 6, 2) := by decide +kernel
theorem dX11_fielded_86 : decode cX11_fielded 86 = .ok (.invokevirtual 226, 3) := by decide +kernel
theorem dX11_fielded_89 : decode cX11_fielded 89 = .ok (.istore 7, 2) := by decide +kernel
theorem dX11_fielded_91 : decode cX11_fielded 91 = .ok (.iload 7, 2) := by decide +kernel
theorem dX11_fielded_93 : decode cX11_fielded 93 = .ok (.iload 5, 2) := by decide +kernel
theorem dX11_fielded_95 : decode cX11_fielded 95 = .ok (.if_icmp .ge 11, 3) := by decide +kernel
theorem dX11_fielded_98 : decode cX11_fielded 98 = .ok (.iload 6, 2) := by decide +kernel
theorem dX11_fielded_100 : decode cX11_fielded 100 = .ok (.istore 4, 2) := by decide +kernel
theorem dX11_fielded_102 : decode cX11_fielded 102 = .ok (.iload 7, 2) := by decide +kernel
theorem dX11_fielded_104 : decode cX11_fielded 104 = .ok (.istore 5, 2) := by decide +kernel
theorem dX11_fielded_106 : decode cX11_fielded 106 = .ok (.iinc 6 1, 3) := by decide +kernel
theorem dX11_fielded_109 : decode cX11_fielded 109 = .ok (.goto (-33), 3) := by decide +kernel
theorem dX11_fielded_112 : decode cX11_fielded 112 = .ok (.iload 4, 2) := by decide +kernel
theorem dX11_fielded_114 : decode cX11_fielded 114 = .ok (.ireturn, 1) := by decide +kernel
theorem dX11_kept_0 : decode cX11_kept 0 = .ok (.aload_n 0, 1) := by decide +kernel
theorem dX11_kept_1 : decode cX11_kept 1 = .ok (.iload_n 1, 1) := by decide +kernel
theorem dX11_kept_2 : decode cX11_kept 2 = .ok (.invokevirtual 152, 3) := by decide +kernel
theorem dX11_kept_5 : decode cX11_kept 5 = .ok (.ifCond .eq 5, 3) := by decide +kernel
theorem dX11_kept_8 : decode cX11_kept 8 = .ok (.iconst (-1), 1) := by decide +kernel
theorem dX11_kept_9 : decode cX11_kept 9 = .ok (.ireturn, 1) := by decide +kernel
theorem dX11_kept_10 : decode cX11_kept 10 = .ok (.aload_n 0, 1) := by decide +kernel
theorem dX11_kept_11 : decode cX11_kept 11 = .ok (.getfield 26, 3) := by decide +kernel
theorem dX11_kept_14 : decode cX11_kept 14 = .ok (.getfield 143, 3) := by decide +kernel
theorem dX11_kept_17 : decode cX11_kept 17 = .ok (.bipush 8, 2) := by decide +kernel
theorem dX11_kept_19 : decode cX11_kept 19 = .ok (.if_icmp .le 6, 3) := by decide +kernel
theorem dX11_kept_22 : decode cX11_kept 22 = .ok (.bipush (-4), 2) := by decide +kernel
theorem dX11_kept_24 : decode cX11_kept 24 = .ok (.ireturn, 1) := by decide +kernel
theorem dX11_kept_25 : decode cX11_kept 25 = .ok (.aload_n 0, 1) := by decide +kernel
theorem dX11_kept_26 : decode cX11_kept 26 = .ok (.getfield 10, 3) := by decide +kernel
theorem dX11_kept_29 : decode cX11_kept 29 = .ok (.invokevirtual 204, 3) := by decide +kernel
theorem dX11_kept_32 : decode cX11_kept 32 = .ok (.istore_n 2, 1) := by decide +kernel
theorem dX11_kept_33 : decode cX11_kept 33 = .ok (.aload_n 0, 1) := by decide +kernel
theorem dX11_kept_34 : decode cX11_kept 34 = .ok (.iload_n 2, 1) := by decide +kernel
theorem dX11_kept_35 : decode cX11_kept 35 = .ok (.aload_n 0, 1) := by decide +kernel
theorem dX11_kept_36 : decode cX11_kept 36 = .ok (.getfield 10, 3) := by decide +kernel
theorem dX11_kept_39 : decode cX11_kept 39 = .ok (.getfield 121, 3) := by decide +kernel
theorem dX11_kept_42 : decode cX11_kept 42 = .ok (.invokevirtual 226, 3) := by decide +kernel
theorem dX11_kept_45 : decode cX11_kept 45 = .ok (.pop, 1) := by decide +kernel
theorem dX11_kept_46 : decode cX11_kept 46 = .ok (.iconst 0, 1) := by decide +kernel
theorem dX11_kept_47 : decode cX11_kept 47 = .ok (.istore_n 3, 1) := by decide +kernel
theorem dX11_kept_48 : decode cX11_kept 48 = .ok (.iload_n 3, 1) := by decide +kernel
theorem dX11_kept_49 : decode cX11_kept 49 = .ok (.aload_n 0, 1) := by decide +kernel
theorem dX11_kept_50 : decode cX11_kept 50 = .ok (.getfield 26, 3) := by decide +kernel
theorem dX11_kept_53 : decode cX11_kept 53 = .ok (.getfield 143, 3) := by decide +kernel
theorem dX11_kept_56 : decode cX11_kept 56 = .ok (.if_icmp .ge 56, 3) := by decide +kernel
theorem dX11_kept_59 : decode cX11_kept 59 = .ok (.aload_n 0, 1) := by decide +kernel
theorem dX11_kept_60 : decode cX11_kept 60 = .ok (.getfield 26, 3) := by decide +kernel
theorem dX11_kept_63 : decode cX11_kept 63 = .ok (.iload_n 3, 1) := by decide +kernel
theorem dX11_kept_64 : decode cX11_kept 64 = .ok (.iconst 0, 1) := by decide +kernel
theorem dX11_kept_65 : decode cX11_kept 65 = .ok (.iload_n 2, 1) := by decide +kernel
theorem dX11_kept_66 : decode cX11_kept 66 = .ok (.invokevirtual 190, 3) := by decide +kernel
theorem dX11_kept_69 : decode cX11_kept 69 = .ok (.ifCond .ne 43, 3) := by decide +kernel
theorem dX11_kept_72 : decode cX11_kept 72 = .ok (.aload_n 0, 1) := by decide +kernel
theorem dX11_kept_73 : decode cX11_kept 73 = .ok (.getfield 54, 3) := by decide +kernel
theorem dX11_kept_76 : decode cX11_kept 76 = .ok (.aload_n 0, 1) := by decide +kernel
theorem dX11_kept_77 : decode cX11_kept 77 = .ok (.getfield 54, 3) := by decide +kernel
theorem dX11_kept_80 : decode cX11_kept 80 = .ok (.iload_n 2, 1) := by decide +kernel
theorem dX11_kept_81 : decode cX11_kept 81 = .ok (.iload_n 3, 1) := by decide +kernel
theorem dX11_kept_82 : decode cX11_kept 82 = .ok (.invokevirtual 229, 3) := by decide +kernel
theorem dX11_kept_85 : decode cX11_kept 85 = .ok (.iconst 0, 1) := by decide +kernel
theorem dX11_kept_86 : decode cX11_kept 86 = .ok (.invokevirtual 218, 3) := by decide +kernel
theorem dX11_kept_89 : decode cX11_kept 89 = .ok (.istore 4, 2) := by decide +kernel
theorem dX11_kept_91 : decode cX11_kept 91 = .ok (.iload 4, 2) := by decide +kernel
theorem dX11_kept_93 : decode cX11_kept 93 = .ok (.iload_n 1, 1) := by decide +kernel
theorem dX11_kept_94 : decode cX11_kept 94 = .ok (.if_icmp .ne 5, 3) := by decide +kernel
theorem dX11_kept_97 : decode cX11_kept 97 = .ok (.iload_n 3, 1) := by decide +kernel
theorem dX11_kept_98 : decode cX11_kept 98 = .ok (.ireturn, 1) := by decide +kernel
theorem dX11_kept_99 : decode cX11_kept 99 = .ok (.iload_n 2, 1) := by decide +kernel
theorem dX11_kept_100 : decode cX11_kept 100 = .ok (.iload 4, 2) := by decide +kernel
theorem dX11_kept_102 : decode cX11_kept 102 = .ok (.invokestatic 232, 3) := by decide +kernel
theorem dX11_kept_105 : decode cX11_kept 105 = .ok (.istore_n 2, 1) := by decide +kernel
theorem dX11_kept_106 : decode cX11_kept 106 = .ok (.iinc 3 1, 3) := by decide +kernel
theorem dX11_kept_109 : decode cX11_kept 109 = .ok (.goto (-61), 3) := by decide +kernel
theorem dX11_kept_112 : decode cX11_kept 112 = .ok (.bipush (-2), 2) := by decide +kernel
theorem dX11_kept_114 : decode cX11_kept 114 = .ok (.ireturn, 1) := by decide +kernel
theorem dX11_theirs_0 : decode cX11_theirs 0 = .ok (.iload_n 1, 1) := by decide +kernel
theorem dX11_theirs_1 : decode cX11_theirs 1 = .ok (.iconst 0, 1) := by decide +kernel
theorem dX11_theirs_2 : decode cX11_theirs 2 = .ok (.iconst 1, 1) := by decide +kernel
theorem dX11_theirs_3 : decode cX11_theirs 3 = .ok (.invokestatic 94, 3) := by decide +kernel
theorem dX11_theirs_6 : decode cX11_theirs 6 = .ok (.ifCond .eq 5, 3) := by decide +kernel
theorem dX11_theirs_9 : decode cX11_theirs 9 = .ok (.iconst (-1), 1) := by decide +kernel
theorem dX11_theirs_10 : decode cX11_theirs 10 = .ok (.ireturn, 1) := by decide +kernel
theorem dX11_theirs_11 : decode cX11_theirs 11 = .ok (.aload_n 0, 1) := by decide +kernel
theorem dX11_theirs_12 : decode cX11_theirs 12 = .ok (.getfield 26, 3) := by decide +kernel
theorem dX11_theirs_15 : decode cX11_theirs 15 = .ok (.getfield 135, 3) := by decide +kernel
theorem dX11_theirs_18 : decode cX11_theirs 18 = .ok (.iconst 5, 1) := by decide +kernel
theorem dX11_theirs_19 : decode cX11_theirs 19 = .ok (.if_icmp .gt 15, 3) := by decide +kernel
theorem dX11_theirs_22 : decode cX11_theirs 22 = .ok (.aload_n 0, 1) := by decide +kernel
theorem dX11_theirs_23 : decode cX11_theirs 23 = .ok (.getfield 26, 3) := by decide +kernel
theorem dX11_theirs_26 : decode cX11_theirs 26 = .ok (.getfield 143, 3) := by decide +kernel
theorem dX11_theirs_29 : decode cX11_theirs 29 = .ok (.bipush 8, 2) := by decide +kernel
theorem dX11_theirs_31 : decode cX11_theirs 31 = .ok (.if_icmp .le 6, 3) := by decide +kernel
theorem dX11_theirs_34 : decode cX11_theirs 34 = .ok (.bipush (-4), 2) := by decide +kernel
theorem dX11_theirs_36 : decode cX11_theirs 36 = .ok (.ireturn, 1) := by decide +kernel
theorem dX11_theirs_37 : decode cX11_theirs 37 = .ok (.aload_n 0, 1) := by decide +kernel
theorem dX11_theirs_38 : decode cX11_theirs 38 = .ok (.iload_n 1, 1) := by decide +kernel
theorem dX11_theirs_39 : decode cX11_theirs 39 = .ok (.invokevirtual 235, 3) := by decide +kernel
theorem dX11_theirs_42 : decode cX11_theirs 42 = .ok (.ireturn, 1) := by decide +kernel
theorem dX11_learn_0 : decode cX11_learn 0 = .ok (.aload_n 0, 1) := by decide +kernel
theorem dX11_learn_1 : decode cX11_learn 1 = .ok (.iload_n 1, 1) := by decide +kernel
theorem dX11_learn_2 : decode cX11_learn 2 = .ok (.iconst 0, 1) := by decide +kernel
theorem dX11_learn_3 : decode cX11_learn 3 = .ok (.invokevirtual 106, 3) := by decide +kernel
theorem dX11_learn_6 : decode cX11_learn 6 = .ok (.istore_n 3, 1) := by decide +kernel
theorem dX11_learn_7 : decode cX11_learn 7 = .ok (.iload_n 3, 1) := by decide +kernel
theorem dX11_learn_8 : decode cX11_learn 8 = .ok (.ifCond .lt 25, 3) := by decide +kernel
theorem dX11_learn_11 : decode cX11_learn 11 = .ok (.iload_n 2, 1) := by decide +kernel
theorem dX11_learn_12 : decode cX11_learn 12 = .ok (.iconst 0, 1) := by decide +kernel
theorem dX11_learn_13 : decode cX11_learn 13 = .ok (.sipush 9999, 3) := by decide +kernel
theorem dX11_learn_16 : decode cX11_learn 16 = .ok (.invokestatic 94, 3) := by decide +kernel
theorem dX11_learn_19 : decode cX11_learn 19 = .ok (.ifCond .ne 14, 3) := by decide +kernel
theorem dX11_learn_22 : decode cX11_learn 22 = .ok (.iload_n 2, 1) := by decide +kernel
theorem dX11_learn_23 : decode cX11_learn 23 = .ok (.bipush 100, 2) := by decide +kernel
theorem dX11_learn_25 : decode cX11_learn 25 = .ok (.irem, 1) := by decide +kernel
theorem dX11_learn_26 : decode cX11_learn 26 = .ok (.iload_n 2, 1) := by decide +kernel
theorem dX11_learn_27 : decode cX11_learn 27 = .ok (.bipush 100, 2) := by decide +kernel
theorem dX11_learn_29 : decode cX11_learn 29 = .ok (.idiv, 1) := by decide +kernel
theorem dX11_learn_30 : decode cX11_learn 30 = .ok (.if_icmp .le 5, 3) := by decide +kernel
theorem dX11_learn_33 : decode cX11_learn 33 = .ok (.iconst (-1), 1) := by decide +kernel
theorem dX11_learn_34 : decode cX11_learn 34 = .ok (.ireturn, 1) := by decide +kernel
theorem dX11_learn_35 : decode cX11_learn 35 = .ok (.sipush 500, 3) := by decide +kernel
theorem dX11_learn_38 : decode cX11_learn 38 = .ok (.sipush 1000, 3) := by decide +kernel
theorem dX11_learn_41 : decode cX11_learn 41 = .ok (.iload_n 2, 1) := by decide +kernel
theorem dX11_learn_42 : decode cX11_learn 42 = .ok (.bipush 100, 2) := by decide +kernel
theorem dX11_learn_44 : decode cX11_learn 44 = .ok (.irem, 1) := by decide +kernel
theorem dX11_learn_45 : decode cX11_learn 45 = .ok (.iconst 1, 1) := by decide +kernel
theorem dX11_learn_46 : decode cX11_learn 46 = .ok (.iadd, 1) := by decide +kernel
theorem dX11_learn_47 : decode cX11_learn 47 = .ok (.imul, 1) := by decide +kernel
theorem dX11_learn_48 : decode cX11_learn 48 = .ok (.iload_n 2, 1) := by decide +kernel
theorem dX11_learn_49 : decode cX11_learn 49 = .ok (.bipush 100, 2) := by decide +kernel
theorem dX11_learn_51 : decode cX11_learn 51 = .ok (.idiv, 1) := by decide +kernel
theorem dX11_learn_52 : decode cX11_learn 52 = .ok (.iconst 2, 1) := by decide +kernel
theorem dX11_learn_53 : decode cX11_learn 53 = .ok (.iadd, 1) := by decide +kernel
theorem dX11_learn_54 : decode cX11_learn 54 = .ok (.idiv, 1) := by decide +kernel
theorem dX11_learn_55 : decode cX11_learn 55 = .ok (.invokestatic 238, 3) := by decide +kernel
theorem dX11_learn_58 : decode cX11_learn 58 = .ok (.istore 4, 2) := by decide +kernel
theorem dX11_learn_60 : decode cX11_learn 60 = .ok (.aload_n 0, 1) := by decide +kernel
theorem dX11_learn_61 : decode cX11_learn 61 = .ok (.getfield 10, 3) := by decide +kernel
theorem dX11_learn_64 : decode cX11_learn 64 = .ok (.iload_n 3, 1) := by decide +kernel
theorem dX11_learn_65 : decode cX11_learn 65 = .ok (.iload 4, 2) := by decide +kernel
theorem dX11_learn_67 : decode cX11_learn 67 = .ok (.invokevirtual 118, 3) := by decide +kernel
theorem dX11_learn_70 : decode cX11_learn 70 = .ok (.pop, 1) := by decide +kernel
theorem dX11_learn_71 : decode cX11_learn 71 = .ok (.iload 4, 2) := by decide +kernel
theorem dX11_learn_73 : decode cX11_learn 73 = .ok (.ireturn, 1) := by decide +kernel
theorem dX11_book_0 : decode cX11_book 0 = .ok (.aload_n 0, 1) := by decide +kernel
theorem dX11_book_1 : decode cX11_book 1 = .ok (.iload_n 1, 1) := by decide +kernel
theorem dX11_book_2 : decode cX11_book 2 = .ok (.invokevirtual 152, 3) := by decide +kernel
theorem dX11_book_5 : decode cX11_book 5 = .ok (.ifCond .ne 12, 3) := by decide +kernel
theorem dX11_book_8 : decode cX11_book 8 = .ok (.iload_n 2, 1) := by decide +kernel
theorem dX11_book_9 : decode cX11_book 9 = .ok (.iconst 0, 1) := by decide +kernel
theorem dX11_book_10 : decode cX11_book 10 = .ok (.iconst 1, 1) := by decide +kernel
theorem dX11_book_11 : decode cX11_book 11 = .ok (.invokestatic 94, 3) := by decide +kernel
theorem dX11_book_14 : decode cX11_book 14 = .ok (.ifCond .eq 5, 3) := by decide +kernel
theorem dX11_book_17 : decode cX11_book 17 = .ok (.iconst (-1), 1) := by decide +kernel
theorem dX11_book_18 : decode cX11_book 18 = .ok (.ireturn, 1) := by decide +kernel
theorem dX11_book_19 : decode cX11_book 19 = .ok (.aload_n 0, 1) := by decide +kernel
theorem dX11_book_20 : decode cX11_book 20 = .ok (.iload_n 1, 1) := by decide +kernel
theorem dX11_book_21 : decode cX11_book 21 = .ok (.invokevirtual 243, 3) := by decide +kernel
theorem dX11_book_24 : decode cX11_book 24 = .ok (.ifCond .ne 6, 3) := by decide +kernel
theorem dX11_book_27 : decode cX11_book 27 = .ok (.bipush (-5), 2) := by decide +kernel
theorem dX11_book_29 : decode cX11_book 29 = .ok (.ireturn, 1) := by decide +kernel
theorem dX11_book_30 : decode cX11_book 30 = .ok (.aload_n 0, 1) := by decide +kernel
theorem dX11_book_31 : decode cX11_book 31 = .ok (.getfield 77, 3) := by decide +kernel
theorem dX11_book_34 : decode cX11_book 34 = .ok (.getfield 134, 3) := by decide +kernel
theorem dX11_book_37 : decode cX11_book 37 = .ok (.bipush 12, 2) := by decide +kernel
theorem dX11_book_39 : decode cX11_book 39 = .ok (.if_icmp .lt 6, 3) := by decide +kernel
theorem dX11_book_42 : decode cX11_book 42 = .ok (.bipush (-3), 2) := by decide +kernel
theorem dX11_book_44 : decode cX11_book 44 = .ok (.ireturn, 1) := by decide +kernel
theorem dX11_book_45 : decode cX11_book 45 = .ok (.aload_n 0, 1) := by decide +kernel
theorem dX11_book_46 : decode cX11_book 46 = .ok (.getfield 77, 3) := by decide +kernel
theorem dX11_book_49 : decode cX11_book 49 = .ok (.iload_n 1, 1) := by decide +kernel
theorem dX11_book_50 : decode cX11_book 50 = .ok (.iload_n 2, 1) := by decide +kernel
theorem dX11_book_51 : decode cX11_book 51 = .ok (.invokevirtual 246, 3) := by decide +kernel
theorem dX11_book_54 : decode cX11_book 54 = .ok (.ireturn, 1) := by decide +kernel
theorem dX11_books_0 : decode cX11_books 0 = .ok (.iload_n 1, 1) := by decide +kernel
theorem dX11_books_1 : decode cX11_books 1 = .ok (.invokestatic 249, 3) := by decide +kernel
theorem dX11_books_4 : decode cX11_books 4 = .ok (.ifCond .eq 5, 3) := by decide +kernel
theorem dX11_books_7 : decode cX11_books 7 = .ok (.iconst (-1), 1) := by decide +kernel
theorem dX11_books_8 : decode cX11_books 8 = .ok (.ireturn, 1) := by decide +kernel
theorem dX11_books_9 : decode cX11_books 9 = .ok (.aload_n 0, 1) := by decide +kernel
theorem dX11_books_10 : decode cX11_books 10 = .ok (.getfield 86, 3) := by decide +kernel
theorem dX11_books_13 : decode cX11_books 13 = .ok (.iload_n 1, 1) := by decide +kernel
theorem dX11_books_14 : decode cX11_books 14 = .ok (.invokevirtual 252, 3) := by decide +kernel
theorem dX11_books_17 : decode cX11_books 17 = .ok (.ifCond .ne 17, 3) := by decide +kernel
theorem dX11_books_20 : decode cX11_books 20 = .ok (.aload_n 0, 1) := by decide +kernel
theorem dX11_books_21 : decode cX11_books 21 = .ok (.getfield 86, 3) := by decide +kernel
theorem dX11_books_24 : decode cX11_books 24 = .ok (.iload_n 1, 1) := by decide +kernel
theorem dX11_books_25 : decode cX11_books 25 = .ok (.invokevirtual 255, 3) := by decide +kernel
theorem dX11_books_28 : decode cX11_books 28 = .ok (.ifCond .eq 6, 3) := by decide +kernel
theorem dX11_books_31 : decode cX11_books 31 = .ok (.bipush (-12), 2) := by decide +kernel
theorem dX11_books_33 : decode cX11_books 33 = .ok (.ireturn, 1) := by decide +kernel
theorem dX11_books_34 : decode cX11_books 34 = .ok (.aload_n 0, 1) := by decide +kernel
theorem dX11_books_35 : decode cX11_books 35 = .ok (.getfield 77, 3) := by decide +kernel
theorem dX11_books_38 : decode cX11_books 38 = .ok (.iconst 0, 1) := by decide +kernel
theorem dX11_books_39 : decode cX11_books 39 = .ok (.putfield 134, 3) := by decide +kernel
theorem dX11_books_42 : decode cX11_books 42 = .ok (.aload_n 0, 1) := by decide +kernel
theorem dX11_books_43 : decode cX11_books 43 = .ok (.getfield 86, 3) := by decide +kernel
theorem dX11_books_46 : decode cX11_books 46 = .ok (.iload_n 1, 1) := by decide +kernel
theorem dX11_books_47 : decode cX11_books 47 = .ok (.invokevirtual 258, 3) := by decide +kernel
theorem dX11_books_50 : decode cX11_books 50 = .ok (.istore_n 3, 1) := by decide +kernel
theorem dX11_books_51 : decode cX11_books 51 = .ok (.iload_n 2, 1) := by decide +kernel
theorem dX11_books_52 : decode cX11_books 52 = .ok (.ifCond .lt 8, 3) := by decide +kernel
theorem dX11_books_55 : decode cX11_books 55 = .ok (.iload_n 2, 1) := by decide +kernel
theorem dX11_books_56 : decode cX11_books 56 = .ok (.iload_n 3, 1) := by decide +kernel
theorem dX11_books_57 : decode cX11_books 57 = .ok (.if_icmp .lt 5, 3) := by decide +kernel
theorem dX11_books_60 : decode cX11_books 60 = .ok (.iconst 0, 1) := by decide +kernel
theorem dX11_books_61 : decode cX11_books 61 = .ok (.ireturn, 1) := by decide +kernel
theorem dX11_books_62 : decode cX11_books 62 = .ok (.iload_n 2, 1) := by decide +kernel
theorem dX11_books_63 : decode cX11_books 63 = .ok (.istore 4, 2) := by decide +kernel
theorem dX11_books_65 : decode cX11_books 65 = .ok (.iload 4, 2) := by decide +kernel
theorem dX11_books_67 : decode cX11_books 67 = .ok (.iload_n 3, 1) := by decide +kernel
theorem dX11_books_68 : decode cX11_books 68 = .ok (.if_icmp .ge 93, 3) := by decide +kernel
theorem dX11_books_71 : decode cX11_books 71 = .ok (.aload_n 0, 1) := by decide +kernel
theorem dX11_books_72 : decode cX11_books 72 = .ok (.getfield 86, 3) := by decide +kernel
theorem dX11_books_75 : decode cX11_books 75 = .ok (.iload_n 1, 1) := by decide +kernel
theorem dX11_books_76 : decode cX11_books 76 = .ok (.iload 4, 2) := by decide +kernel
theorem dX11_books_78 : decode cX11_books 78 = .ok (.invokevirtual 261, 3) := by decide +kernel
theorem dX11_books_81 : decode cX11_books 81 = .ok (.l2i, 1) := by decide +kernel
theorem dX11_books_82 : decode cX11_books 82 = .ok (.istore 5, 2) := by decide +kernel
theorem dX11_books_84 : decode cX11_books 84 = .ok (.iload 5, 2) := by decide +kernel
theorem dX11_books_86 : decode cX11_books 86 = .ok (.iconst 0, 1) := by decide +kernel
theorem dX11_books_87 : decode cX11_books 87 = .ok (.bipush 19, 2) := by decide +kernel
theorem dX11_books_89 : decode cX11_books 89 = .ok (.invokestatic 94, 3) := by decide +kernel
theorem dX11_books_92 : decode cX11_books 92 = .ok (.ifCond .ne 69, 3) := by decide +kernel
theorem dX11_books_95 : decode cX11_books 95 = .ok (.aload_n 0, 1) := by decide +kernel
theorem dX11_books_96 : decode cX11_books 96 = .ok (.iload 5, 2) := by decide +kernel
theorem dX11_books_98 : decode cX11_books 98 = .ok (.bipush 10, 2) := by decide +kernel
theorem dX11_books_100 : decode cX11_books 100 = .ok (.irem, 1) := by decide +kernel
theorem dX11_books_101 : decode cX11_books 101 = .ok (.invokevirtual 152, 3) := by decide +kernel
theorem dX11_books_104 : decode cX11_books 104 = .ok (.ifCond .ne 57, 3) := by decide +kernel
theorem dX11_books_107 : decode cX11_books 107 = .ok (.aload_n 0, 1) := by decide +kernel
theorem dX11_books_108 : decode cX11_books 108 = .ok (.iload 5, 2) := by decide +kernel
theorem dX11_books_110 : decode cX11_books 110 = .ok (.bipush 10, 2) := by decide +kernel
theorem dX11_books_112 : decode cX11_books 112 = .ok (.irem, 1) := by decide +kernel
theorem dX11_books_113 : decode cX11_books 113 = .ok (.invokevirtual 243, 3) := by decide +kernel
theorem dX11_books_116 : decode cX11_books 116 = .ok (.ifCond .ne 6, 3) := by decide +kernel
theorem dX11_books_119 : decode cX11_books 119 = .ok (.goto 42, 3) := by decide +kernel
theorem dX11_books_122 : decode cX11_books 122 = .ok (.aload_n 0, 1) := by decide +kernel
theorem dX11_books_123 : decode cX11_books 123 = .ok (.getfield 77, 3) := by decide +kernel
theorem dX11_books_126 : decode cX11_books 126 = .ok (.getfield 134, 3) := by decide +kernel
theorem dX11_books_129 : decode cX11_books 129 = .ok (.bipush 12, 2) := by decide +kernel
theorem dX11_books_131 : decode cX11_books 131 = .ok (.if_icmp .lt 6, 3) := by decide +kernel
theorem dX11_books_134 : decode cX11_books 134 = .ok (.goto 27, 3) := by decide +kernel
theorem dX11_books_137 : decode cX11_books 137 = .ok (.aload_n 0, 1) := by decide +kernel
theorem dX11_books_138 : decode cX11_books 138 = .ok (.getfield 77, 3) := by decide +kernel
theorem dX11_books_141 : decode cX11_books 141 = .ok (.iload 5, 2) := by decide +kernel
theorem dX11_books_143 : decode cX11_books 143 = .ok (.bipush 10, 2) := by decide +kernel
theorem dX11_books_145 : decode cX11_books 145 = .ok (.irem, 1) := by decide +kernel
theorem dX11_books_146 : decode cX11_books 146 = .ok (.iload 5, 2) := by decide +kernel
theorem dX11_books_148 : decode cX11_books 148 = .ok (.bipush 10, 2) := by decide +kernel
theorem dX11_books_150 : decode cX11_books 150 = .ok (.idiv, 1) := by decide +kernel
theorem dX11_books_151 : decode cX11_books 151 = .ok (.invokevirtual 246, 3) := by decide +kernel
theorem dX11_books_154 : decode cX11_books 154 = .ok (.pop, 1) := by decide +kernel
theorem dX11_books_155 : decode cX11_books 155 = .ok (.iinc 4 1, 3) := by decide +kernel
theorem dX11_books_158 : decode cX11_books 158 = .ok (.goto (-93), 3) := by decide +kernel
theorem dX11_books_161 : decode cX11_books 161 = .ok (.aload_n 0, 1) := by decide +kernel
theorem dX11_books_162 : decode cX11_books 162 = .ok (.getfield 77, 3) := by decide +kernel
theorem dX11_books_165 : decode cX11_books 165 = .ok (.getfield 134, 3) := by decide +kernel
theorem dX11_books_168 : decode cX11_books 168 = .ok (.ireturn, 1) := by decide +kernel
theorem dX11_close_0 : decode cX11_close 0 = .ok (.aload_n 0, 1) := by decide +kernel
theorem dX11_close_1 : decode cX11_close 1 = .ok (.getfield 77, 3) := by decide +kernel
theorem dX11_close_4 : decode cX11_close 4 = .ok (.getfield 134, 3) := by decide +kernel
theorem dX11_close_7 : decode cX11_close 7 = .ok (.istore_n 1, 1) := by decide +kernel
theorem dX11_close_8 : decode cX11_close 8 = .ok (.aload_n 0, 1) := by decide +kernel
theorem dX11_close_9 : decode cX11_close 9 = .ok (.getfield 77, 3) := by decide +kernel
theorem dX11_close_12 : decode cX11_close 12 = .ok (.iconst 0, 1) := by decide +kernel
theorem dX11_close_13 : decode cX11_close 13 = .ok (.putfield 134, 3) := by decide +kernel
theorem dX11_close_16 : decode cX11_close 16 = .ok (.iload_n 1, 1) := by decide +kernel
theorem dX11_close_17 : decode cX11_close 17 = .ok (.ireturn, 1) := by decide +kernel
theorem dX11_cost_0 : decode cX11_cost 0 = .ok (.iload_n 1, 1) := by decide +kernel
theorem dX11_cost_1 : decode cX11_cost 1 = .ok (.iconst 0, 1) := by decide +kernel
theorem dX11_cost_2 : decode cX11_cost 2 = .ok (.aload_n 0, 1) := by decide +kernel
theorem dX11_cost_3 : decode cX11_cost 3 = .ok (.getfield 77, 3) := by decide +kernel
theorem dX11_cost_6 : decode cX11_cost 6 = .ok (.getfield 134, 3) := by decide +kernel
theorem dX11_cost_9 : decode cX11_cost 9 = .ok (.iconst 1, 1) := by decide +kernel
theorem dX11_cost_10 : decode cX11_cost 10 = .ok (.isub, 1) := by decide +kernel
theorem dX11_cost_11 : decode cX11_cost 11 = .ok (.invokestatic 94, 3) := by decide +kernel
theorem dX11_cost_14 : decode cX11_cost 14 = .ok (.ifCond .ne 17, 3) := by decide +kernel
theorem dX11_cost_17 : decode cX11_cost 17 = .ok (.aload_n 0, 1) := by decide +kernel
theorem dX11_cost_18 : decode cX11_cost 18 = .ok (.getfield 26, 3) := by decide +kernel
theorem dX11_cost_21 : decode cX11_cost 21 = .ok (.getfield 143, 3) := by decide +kernel
theorem dX11_cost_24 : decode cX11_cost 24 = .ok (.iload_n 1, 1) := by decide +kernel
theorem dX11_cost_25 : decode cX11_cost 25 = .ok (.isub, 1) := by decide +kernel
theorem dX11_cost_26 : decode cX11_cost 26 = .ok (.bipush 8, 2) := by decide +kernel
theorem dX11_cost_28 : decode cX11_cost 28 = .ok (.if_icmp .le 6, 3) := by decide +kernel
theorem dX11_cost_31 : decode cX11_cost 31 = .ok (.ldc 117, 2) := by decide +kernel
theorem dX11_cost_33 : decode cX11_cost 33 = .ok (.ireturn, 1) := by decide +kernel
theorem dX11_cost_34 : decode cX11_cost 34 = .ok (.aload_n 0, 1) := by decide +kernel
theorem dX11_cost_35 : decode cX11_cost 35 = .ok (.iload_n 1, 1) := by decide +kernel
theorem dX11_cost_36 : decode cX11_cost 36 = .ok (.invokevirtual 265, 3) := by decide +kernel
theorem dX11_cost_39 : decode cX11_cost 39 = .ok (.ireturn, 1) := by decide +kernel
theorem dX11_lost_0 : decode cX11_lost 0 = .ok (.iload_n 1, 1) := by decide +kernel
theorem dX11_lost_1 : decode cX11_lost 1 = .ok (.iconst 0, 1) := by decide +kernel
theorem dX11_lost_2 : decode cX11_lost 2 = .ok (.iconst 2, 1) := by decide +kernel
theorem dX11_lost_3 : decode cX11_lost 3 = .ok (.invokestatic 94, 3) := by decide +kernel
theorem dX11_lost_6 : decode cX11_lost 6 = .ok (.ifCond .ne 13, 3) := by decide +kernel
theorem dX11_lost_9 : decode cX11_lost 9 = .ok (.aload_n 0, 1) := by decide +kernel
theorem dX11_lost_10 : decode cX11_lost 10 = .ok (.getfield 77, 3) := by decide +kernel
theorem dX11_lost_13 : decode cX11_lost 13 = .ok (.getfield 134, 3) := by decide +kernel
theorem dX11_lost_16 : decode cX11_lost 16 = .ok (.ifCond .ne 5, 3) := by decide +kernel
theorem dX11_lost_19 : decode cX11_lost 19 = .ok (.iconst (-1), 1) := by decide +kernel
theorem dX11_lost_20 : decode cX11_lost 20 = .ok (.ireturn, 1) := by decide +kernel
theorem dX11_lost_21 : decode cX11_lost 21 = .ok (.aload_n 0, 1) := by decide +kernel
theorem dX11_lost_22 : decode cX11_lost 22 = .ok (.getfield 26, 3) := by decide +kernel
theorem dX11_lost_25 : decode cX11_lost 25 = .ok (.getfield 143, 3) := by decide +kernel
theorem dX11_lost_28 : decode cX11_lost 28 = .ok (.bipush 8, 2) := by decide +kernel
theorem dX11_lost_30 : decode cX11_lost 30 = .ok (.if_icmp .le 6, 3) := by decide +kernel
theorem dX11_lost_33 : decode cX11_lost 33 = .ok (.bipush (-4), 2) := by decide +kernel
theorem dX11_lost_35 : decode cX11_lost 35 = .ok (.ireturn, 1) := by decide +kernel
theorem dX11_lost_36 : decode cX11_lost 36 = .ok (.iconst 0, 1) := by decide +kernel
theorem dX11_lost_37 : decode cX11_lost 37 = .ok (.istore_n 2, 1) := by decide +kernel
theorem dX11_lost_38 : decode cX11_lost 38 = .ok (.iconst 0, 1) := by decide +kernel
theorem dX11_lost_39 : decode cX11_lost 39 = .ok (.istore_n 3, 1) := by decide +kernel
theorem dX11_lost_40 : decode cX11_lost 40 = .ok (.iconst 0, 1) := by decide +kernel
theorem dX11_lost_41 : decode cX11_lost 41 = .ok (.istore 4, 2) := by decide +kernel
theorem dX11_lost_43 : decode cX11_lost 43 = .ok (.iconst 0, 1) := by decide +kernel
theorem dX11_lost_44 : decode cX11_lost 44 = .ok (.istore 5, 2) := by decide +kernel
theorem dX11_lost_46 : decode cX11_lost 46 = .ok (.iload 5, 2) := by decide +kernel
theorem dX11_lost_48 : decode cX11_lost 48 = .ok (.aload_n 0, 1) := by decide +kernel
theorem dX11_lost_49 : decode cX11_lost 49 = .ok (.getfield 77, 3) := by decide +kernel
theorem dX11_lost_52 : decode cX11_lost 52 = .ok (.getfield 134, 3) := by decide +kernel
theorem dX11_lost_55 : decode cX11_lost 55 = .ok (.if_icmp .ge 41, 3) := by decide +kernel
theorem dX11_lost_58 : decode cX11_lost 58 = .ok (.aload_n 0, 1) := by decide +kernel
theorem dX11_lost_59 : decode cX11_lost 59 = .ok (.iload 5, 2) := by decide +kernel
theorem dX11_lost_61 : decode cX11_lost 61 = .ok (.invokevirtual 265, 3) := by decide +kernel
theorem dX11_lost_64 : decode cX11_lost 64 = .ok (.istore 6, 2) := by decide +kernel
theorem dX11_lost_66 : decode cX11_lost 66 = .ok (.iload 4, 2) := by decide +kernel
theorem dX11_lost_68 : decode cX11_lost 68 = .ok (.iload 6, 2) := by decide +kernel
theorem dX11_lost_70 : decode cX11_lost 70 = .ok (.iadd, 1) := by decide +kernel
theorem dX11_lost_71 : decode cX11_lost 71 = .ok (.istore 4, 2) := by decide +kernel
theorem dX11_lost_73 : decode cX11_lost 73 = .ok (.iload 5, 2) := by decide +kernel
theorem dX11_lost_75 : decode cX11_lost 75 = .ok (.ifCond .eq 9, 3) := by decide +kernel
theorem dX11_lost_78 : decode cX11_lost 78 = .ok (.iload 6, 2) := by decide +kernel
theorem dX11_lost_80 : decode cX11_lost 80 = .ok (.iload_n 3, 1) := by decide +kernel
theorem dX11_lost_81 : decode cX11_lost 81 = .ok (.if_icmp .le 9, 3) := by decide +kernel
theorem dX11_lost_84 : decode cX11_lost 84 = .ok (.iload 5, 2) := by decide +kernel
theorem dX11_lost_86 : decode cX11_lost 86 = .ok (.istore_n 2, 1) := by decide +kernel
theorem dX11_lost_87 : decode cX11_lost 87 = .ok (.iload 6, 2) := by decide +kernel
theorem dX11_lost_89 : decode cX11_lost 89 = .ok (.istore_n 3, 1) := by decide +kernel
theorem dX11_lost_90 : decode cX11_lost 90 = .ok (.iinc 5 1, 3) := by decide +kernel
theorem dX11_lost_93 : decode cX11_lost 93 = .ok (.goto (-47), 3) := by decide +kernel
theorem dX11_lost_96 : decode cX11_lost 96 = .ok (.iload_n 1, 1) := by decide +kernel
theorem dX11_lost_97 : decode cX11_lost 97 = .ok (.ifCond .ne 5, 3) := by decide +kernel
theorem dX11_lost_100 : decode cX11_lost 100 = .ok (.iload_n 2, 1) := by decide +kernel
theorem dX11_lost_101 : decode cX11_lost 101 = .ok (.ireturn, 1) := by decide +kernel
theorem dX11_lost_102 : decode cX11_lost 102 = .ok (.iload_n 1, 1) := by decide +kernel
theorem dX11_lost_103 : decode cX11_lost 103 = .ok (.iconst 1, 1) := by decide +kernel
theorem dX11_lost_104 : decode cX11_lost 104 = .ok (.if_icmp .ne 7, 3) := by decide +kernel
theorem dX11_lost_107 : decode cX11_lost 107 = .ok (.iload_n 3, 1) := by decide +kernel
theorem dX11_lost_108 : decode cX11_lost 108 = .ok (.goto 5, 3) := by decide +kernel
theorem dX11_lost_111 : decode cX11_lost 111 = .ok (.iload 4, 2) := by decide +kernel
theorem dX11_lost_113 : decode cX11_lost 113 = .ok (.ireturn, 1) := by decide +kernel
theorem dX11_game_0 : decode cX11_game 0 = .ok (.aload_n 0, 1) := by decide +kernel
theorem dX11_game_1 : decode cX11_game 1 = .ok (.iload_n 1, 1) := by decide +kernel
theorem dX11_game_2 : decode cX11_game 2 = .ok (.invokevirtual 177, 3) := by decide +kernel
theorem dX11_game_5 : decode cX11_game 5 = .ok (.ifCond .eq 5, 3) := by decide +kernel
theorem dX11_game_8 : decode cX11_game 8 = .ok (.iconst (-1), 1) := by decide +kernel
theorem dX11_game_9 : decode cX11_game 9 = .ok (.ireturn, 1) := by decide +kernel
theorem dX11_game_10 : decode cX11_game 10 = .ok (.aload_n 0, 1) := by decide +kernel
theorem dX11_game_11 : decode cX11_game 11 = .ok (.getfield 26, 3) := by decide +kernel
theorem dX11_game_14 : decode cX11_game 14 = .ok (.getfield 143, 3) := by decide +kernel
theorem dX11_game_17 : decode cX11_game 17 = .ok (.bipush 8, 2) := by decide +kernel
theorem dX11_game_19 : decode cX11_game 19 = .ok (.if_icmp .le 6, 3) := by decide +kernel
theorem dX11_game_22 : decode cX11_game 22 = .ok (.bipush (-4), 2) := by decide +kernel
theorem dX11_game_24 : decode cX11_game 24 = .ok (.ireturn, 1) := by decide +kernel
theorem dX11_game_25 : decode cX11_game 25 = .ok (.aload_n 0, 1) := by decide +kernel
theorem dX11_game_26 : decode cX11_game 26 = .ok (.iload_n 1, 1) := by decide +kernel
theorem dX11_game_27 : decode cX11_game 27 = .ok (.invokevirtual 201, 3) := by decide +kernel
theorem dX11_game_30 : decode cX11_game 30 = .ok (.aload_n 0, 1) := by decide +kernel
theorem dX11_game_31 : decode cX11_game 31 = .ok (.getfield 70, 3) := by decide +kernel
theorem dX11_game_34 : decode cX11_game 34 = .ok (.iload_n 1, 1) := by decide +kernel
theorem dX11_game_35 : decode cX11_game 35 = .ok (.iload_n 2, 1) := by decide +kernel
theorem dX11_game_36 : decode cX11_game 36 = .ok (.aload_n 0, 1) := by decide +kernel
theorem dX11_game_37 : decode cX11_game 37 = .ok (.getfield 10, 3) := by decide +kernel
theorem dX11_game_40 : decode cX11_game 40 = .ok (.invokevirtual 204, 3) := by decide +kernel
theorem dX11_game_43 : decode cX11_game 43 = .ok (.invokevirtual 268, 3) := by decide +kernel
theorem dX11_game_46 : decode cX11_game 46 = .ok (.ireturn, 1) := by decide +kernel
theorem dX11_led_0 : decode cX11_led 0 = .ok (.iload_n 1, 1) := by decide +kernel
theorem dX11_led_1 : decode cX11_led 1 = .ok (.iconst (-1), 1) := by decide +kernel
theorem dX11_led_2 : decode cX11_led 2 = .ok (.if_icmp .ne 15, 3) := by decide +kernel
theorem dX11_led_5 : decode cX11_led 5 = .ok (.iload_n 2, 1) := by decide +kernel
theorem dX11_led_6 : decode cX11_led 6 = .ok (.ifCond .ne 11, 3) := by decide +kernel
theorem dX11_led_9 : decode cX11_led 9 = .ok (.aload_n 0, 1) := by decide +kernel
theorem dX11_led_10 : decode cX11_led 10 = .ok (.getfield 70, 3) := by decide +kernel
theorem dX11_led_13 : decode cX11_led 13 = .ok (.getfield 271, 3) := by decide +kernel
theorem dX11_led_16 : decode cX11_led 16 = .ok (.ireturn, 1) := by decide +kernel
theorem dX11_led_17 : decode cX11_led 17 = .ok (.iload_n 1, 1) := by decide +kernel
theorem dX11_led_18 : decode cX11_led 18 = .ok (.iconst 0, 1) := by decide +kernel
theorem dX11_led_19 : decode cX11_led 19 = .ok (.aload_n 0, 1) := by decide +kernel
theorem dX11_led_20 : decode cX11_led 20 = .ok (.getfield 70, 3) := by decide +kernel
theorem dX11_led_23 : decode cX11_led 23 = .ok (.getfield 271, 3) := by decide +kernel
theorem dX11_led_26 : decode cX11_led 26 = .ok (.iconst 1, 1) := by decide +kernel
theorem dX11_led_27 : decode cX11_led 27 = .ok (.isub, 1) := by decide +kernel
theorem dX11_led_28 : decode cX11_led 28 = .ok (.invokestatic 94, 3) := by decide +kernel
theorem dX11_led_31 : decode cX11_led 31 = .ok (.ifCond .ne 12, 3) := by decide +kernel
theorem dX11_led_34 : decode cX11_led 34 = .ok (.iload_n 2, 1) := by decide +kernel
theorem dX11_led_35 : decode cX11_led 35 = .ok (.iconst 0, 1) := by decide +kernel
theorem dX11_led_36 : decode cX11_led 36 = .ok (.iconst 2, 1) := by decide +kernel
theorem dX11_led_37 : decode cX11_led 37 = .ok (.invokestatic 94, 3) := by decide +kernel
theorem dX11_led_40 : decode cX11_led 40 = .ok (.ifCond .eq 5, 3) := by decide +kernel
theorem dX11_led_43 : decode cX11_led 43 = .ok (.iconst (-1), 1) := by decide +kernel
theorem dX11_led_44 : decode cX11_led 44 = .ok (.ireturn, 1) := by decide +kernel
theorem dX11_led_45 : decode cX11_led 45 = .ok (.aload_n 0, 1) := by decide +kernel
theorem dX11_led_46 : decode cX11_led 46 = .ok (.getfield 70, 3) := by decide +kernel
theorem dX11_led_49 : decode cX11_led 49 = .ok (.iload_n 1, 1) := by decide +kernel
theorem dX11_led_50 : decode cX11_led 50 = .ok (.iload_n 2, 1) := by decide +kernel
theorem dX11_led_51 : decode cX11_led 51 = .ok (.invokevirtual 274, 3) := by decide +kernel
theorem dX11_led_54 : decode cX11_led 54 = .ok (.ireturn, 1) := by decide +kernel
theorem dX11_undo_0 : decode cX11_undo 0 = .ok (.aload_n 0, 1) := by decide +kernel
theorem dX11_undo_1 : decode cX11_undo 1 = .ok (.getfield 10, 3) := by decide +kernel
theorem dX11_undo_4 : decode cX11_undo 4 = .ok (.getfield 277, 3) := by decide +kernel
theorem dX11_undo_7 : decode cX11_undo 7 = .ok (.ifCond .ne 8, 3) := by decide +kernel
theorem dX11_undo_10 : decode cX11_undo 10 = .ok (.bipush (-5), 2) := by decide +kernel
theorem dX11_undo_12 : decode cX11_undo 12 = .ok (.goto 10, 3) := by decide +kernel
theorem dX11_undo_15 : decode cX11_undo 15 = .ok (.aload_n 0, 1) := by decide +kernel
theorem dX11_undo_16 : decode cX11_undo 16 = .ok (.getfield 10, 3) := by decide +kernel
theorem dX11_undo_19 : decode cX11_undo 19 = .ok (.invokevirtual 280, 3) := by decide +kernel
theorem dX11_undo_22 : decode cX11_undo 22 = .ok (.ireturn, 1) := by decide +kernel
theorem dX11_redo_0 : decode cX11_redo 0 = .ok (.aload_n 0, 1) := by decide +kernel
theorem dX11_redo_1 : decode cX11_redo 1 = .ok (.getfield 10, 3) := by decide +kernel
theorem dX11_redo_4 : decode cX11_redo 4 = .ok (.getfield 283, 3) := by decide +kernel
theorem dX11_redo_7 : decode cX11_redo 7 = .ok (.ifCond .ne 8, 3) := by decide +kernel
theorem dX11_redo_10 : decode cX11_redo 10 = .ok (.bipush (-5), 2) := by decide +kernel
theorem dX11_redo_12 : decode cX11_redo 12 = .ok (.goto 10, 3) := by decide +kernel
theorem dX11_redo_15 : decode cX11_redo 15 = .ok (.aload_n 0, 1) := by decide +kernel
theorem dX11_redo_16 : decode cX11_redo 16 = .ok (.getfield 10, 3) := by decide +kernel
theorem dX11_redo_19 : decode cX11_redo 19 = .ok (.invokevirtual 286, 3) := by decide +kernel
theorem dX11_redo_22 : decode cX11_redo 22 = .ok (.ireturn, 1) := by decide +kernel
theorem dX11_act_0 : decode cX11_act 0 = .ok (.aload_n 0, 1) := by decide +kernel
theorem dX11_act_1 : decode cX11_act 1 = .ok (.getfield 61, 3) := by decide +kernel
theorem dX11_act_4 : decode cX11_act 4 = .ok (.iconst 0, 1) := by decide +kernel
theorem dX11_act_5 : decode cX11_act 5 = .ok (.putfield 289, 3) := by decide +kernel
theorem dX11_act_8 : decode cX11_act 8 = .ok (.aload_n 0, 1) := by decide +kernel
theorem dX11_act_9 : decode cX11_act 9 = .ok (.iload_n 1, 1) := by decide +kernel
theorem dX11_act_10 : decode cX11_act 10 = .ok (.invokevirtual 177, 3) := by decide +kernel
theorem dX11_act_13 : decode cX11_act 13 = .ok (.ifCond .ne 12, 3) := by decide +kernel
theorem dX11_act_16 : decode cX11_act 16 = .ok (.iload_n 2, 1) := by decide +kernel
theorem dX11_act_17 : decode cX11_act 17 = .ok (.iconst 0, 1) := by decide +kernel
theorem dX11_act_18 : decode cX11_act 18 = .ok (.iconst 3, 1) := by decide +kernel
theorem dX11_act_19 : decode cX11_act 19 = .ok (.invokestatic 94, 3) := by decide +kernel
theorem dX11_act_22 : decode cX11_act 22 = .ok (.ifCond .eq 5, 3) := by decide +kernel
theorem dX11_act_25 : decode cX11_act 25 = .ok (.iconst 0, 1) := by decide +kernel
theorem dX11_act_26 : decode cX11_act 26 = .ok (.ireturn, 1) := by decide +kernel
theorem dX11_act_27 : decode cX11_act 27 = .ok (.aload_n 0, 1) := by decide +kernel
theorem dX11_act_28 : decode cX11_act 28 = .ok (.getfield 61, 3) := by decide +kernel
theorem dX11_act_31 : decode cX11_act 31 = .ok (.iload_n 1, 1) := by decide +kernel
theorem dX11_act_32 : decode cX11_act 32 = .ok (.aload_n 0, 1) := by decide +kernel
theorem dX11_act_33 : decode cX11_act 33 = .ok (.getfield 61, 3) := by decide +kernel
theorem dX11_act_36 : decode cX11_act 36 = .ok (.iload_n 1, 1) := by decide +kernel
theorem dX11_act_37 : decode cX11_act 37 = .ok (.invokevirtual 183, 3) := by decide +kernel
theorem dX11_act_40 : decode cX11_act 40 = .ok (.iload_n 2, 1) := by decide +kernel
theorem dX11_act_41 : decode cX11_act 41 = .ok (.iload_n 3, 1) := by decide +kernel
theorem dX11_act_42 : decode cX11_act 42 = .ok (.iconst 0, 1) := by decide +kernel
theorem dX11_act_43 : decode cX11_act 43 = .ok (.invokevirtual 292, 3) := by decide +kernel
theorem dX11_act_46 : decode cX11_act 46 = .ok (.ireturn, 1) := by decide +kernel
theorem dX11_trace_0 : decode cX11_trace 0 = .ok (.iload_n 1, 1) := by decide +kernel
theorem dX11_trace_1 : decode cX11_trace 1 = .ok (.iconst 0, 1) := by decide +kernel
theorem dX11_trace_2 : decode cX11_trace 2 = .ok (.aload_n 0, 1) := by decide +kernel
theorem dX11_trace_3 : decode cX11_trace 3 = .ok (.getfield 61, 3) := by decide +kernel
theorem dX11_trace_6 : decode cX11_trace 6 = .ok (.getfield 289, 3) := by decide +kernel
theorem dX11_trace_9 : decode cX11_trace 9 = .ok (.bipush 24, 2) := by decide +kernel
theorem dX11_trace_11 : decode cX11_trace 11 = .ok (.invokestatic 238, 3) := by decide +kernel
theorem dX11_trace_14 : decode cX11_trace 14 = .ok (.iconst 1, 1) := by decide +kernel
theorem dX11_trace_15 : decode cX11_trace 15 = .ok (.isub, 1) := by decide +kernel
theorem dX11_trace_16 : decode cX11_trace 16 = .ok (.invokestatic 94, 3) := by decide +kernel
theorem dX11_trace_19 : decode cX11_trace 19 = .ok (.ifCond .eq 5, 3) := by decide +kernel
theorem dX11_trace_22 : decode cX11_trace 22 = .ok (.iconst (-1), 1) := by decide +kernel
theorem dX11_trace_23 : decode cX11_trace 23 = .ok (.ireturn, 1) := by decide +kernel
theorem dX11_trace_24 : decode cX11_trace 24 = .ok (.aload_n 0, 1) := by decide +kernel
theorem dX11_trace_25 : decode cX11_trace 25 = .ok (.getfield 61, 3) := by decide +kernel
theorem dX11_trace_28 : decode cX11_trace 28 = .ok (.iload_n 1, 1) := by decide +kernel
theorem dX11_trace_29 : decode cX11_trace 29 = .ok (.invokevirtual 295, 3) := by decide +kernel
theorem dX11_trace_32 : decode cX11_trace 32 = .ok (.ireturn, 1) := by decide +kernel
theorem dX11_keep_0 : decode cX11_keep 0 = .ok (.iload_n 1, 1) := by decide +kernel
theorem dX11_keep_1 : decode cX11_keep 1 = .ok (.invokestatic 249, 3) := by decide +kernel
theorem dX11_keep_4 : decode cX11_keep 4 = .ok (.ifCond .ne 16, 3) := by decide +kernel
theorem dX11_keep_7 : decode cX11_keep 7 = .ok (.iload_n 2, 1) := by decide +kernel
theorem dX11_keep_8 : decode cX11_keep 8 = .ok (.iconst (-1), 1) := by decide +kernel
theorem dX11_keep_9 : decode cX11_keep 9 = .ok (.if_icmp .eq 13, 3) := by decide +kernel
theorem dX11_keep_12 : decode cX11_keep 12 = .ok (.aload_n 0, 1) := by decide +kernel
theorem dX11_keep_13 : decode cX11_keep 13 = .ok (.iload_n 2, 1) := by decide +kernel
theorem dX11_keep_14 : decode cX11_keep 14 = .ok (.invokevirtual 177, 3) := by decide +kernel
theorem dX11_keep_17 : decode cX11_keep 17 = .ok (.ifCond .eq 5, 3) := by decide +kernel
theorem dX11_keep_20 : decode cX11_keep 20 = .ok (.iconst (-1), 1) := by decide +kernel
theorem dX11_keep_21 : decode cX11_keep 21 = .ok (.ireturn, 1) := by decide +kernel
theorem dX11_keep_22 : decode cX11_keep 22 = .ok (.aload_n 0, 1) := by decide +kernel
theorem dX11_keep_23 : decode cX11_keep 23 = .ok (.getfield 86, 3) := by decide +kernel
theorem dX11_keep_26 : decode cX11_keep 26 = .ok (.iload_n 1, 1) := by decide +kernel
theorem dX11_keep_27 : decode cX11_keep 27 = .ok (.iload_n 2, 1) := by decide +kernel
theorem dX11_keep_28 : decode cX11_keep 28 = .ok (.invokevirtual 298, 3) := by decide +kernel
theorem dX11_keep_31 : decode cX11_keep 31 = .ok (.iconst 1, 1) := by decide +kernel
theorem dX11_keep_32 : decode cX11_keep 32 = .ok (.ireturn, 1) := by decide +kernel
theorem dX11_row_0 : decode cX11_row 0 = .ok (.iload_n 1, 1) := by decide +kernel
theorem dX11_row_1 : decode cX11_row 1 = .ok (.invokestatic 249, 3) := by decide +kernel
theorem dX11_row_4 : decode cX11_row 4 = .ok (.ifCond .ne 18, 3) := by decide +kernel
theorem dX11_row_7 : decode cX11_row 7 = .ok (.iload_n 2, 1) := by decide +kernel
theorem dX11_row_8 : decode cX11_row 8 = .ok (.iconst 0, 1) := by decide +kernel
theorem dX11_row_9 : decode cX11_row 9 = .ok (.iconst 4, 1) := by decide +kernel
theorem dX11_row_10 : decode cX11_row 10 = .ok (.invokestatic 94, 3) := by decide +kernel
theorem dX11_row_13 : decode cX11_row 13 = .ok (.ifCond .ne 9, 3) := by decide +kernel
theorem dX11_row_16 : decode cX11_row 16 = .ok (.iload_n 3, 1) := by decide +kernel
theorem dX11_row_17 : decode cX11_row 17 = .ok (.bipush 60, 2) := by decide +kernel
theorem dX11_row_19 : decode cX11_row 19 = .ok (.if_icmp .le 5, 3) := by decide +kernel
theorem dX11_row_22 : decode cX11_row 22 = .ok (.iconst (-1), 1) := by decide +kernel
theorem dX11_row_23 : decode cX11_row 23 = .ok (.ireturn, 1) := by decide +kernel
theorem dX11_row_24 : decode cX11_row 24 = .ok (.iload_n 3, 1) := by decide +kernel
theorem dX11_row_25 : decode cX11_row 25 = .ok (.ifCond .ge 6, 3) := by decide +kernel
theorem dX11_row_28 : decode cX11_row 28 = .ok (.bipush (-14), 2) := by decide +kernel
theorem dX11_row_30 : decode cX11_row 30 = .ok (.ireturn, 1) := by decide +kernel
theorem dX11_row_31 : decode cX11_row 31 = .ok (.aload_n 0, 1) := by decide +kernel
theorem dX11_row_32 : decode cX11_row 32 = .ok (.getfield 86, 3) := by decide +kernel
theorem dX11_row_35 : decode cX11_row 35 = .ok (.iload_n 1, 1) := by decide +kernel
theorem dX11_row_36 : decode cX11_row 36 = .ok (.iload_n 2, 1) := by decide +kernel
theorem dX11_row_37 : decode cX11_row 37 = .ok (.iload_n 3, 1) := by decide +kernel
theorem dX11_row_38 : decode cX11_row 38 = .ok (.invokevirtual 302, 3) := by decide +kernel
theorem dX11_row_41 : decode cX11_row 41 = .ok (.iconst 1, 1) := by decide +kernel
theorem dX11_row_42 : decode cX11_row 42 = .ok (.ireturn, 1) := by decide +kernel
theorem dX11_put_0 : decode cX11_put 0 = .ok (.iload_n 1, 1) := by decide +kernel
theorem dX11_put_1 : decode cX11_put 1 = .ok (.invokestatic 249, 3) := by decide +kernel
theorem dX11_put_4 : decode cX11_put 4 = .ok (.ifCond .eq 5, 3) := by decide +kernel
theorem dX11_put_7 : decode cX11_put 7 = .ok (.iconst (-1), 1) := by decide +kernel
theorem dX11_put_8 : decode cX11_put 8 = .ok (.ireturn, 1) := by decide +kernel
theorem dX11_put_9 : decode cX11_put 9 = .ok (.aload_n 0, 1) := by decide +kernel
theorem dX11_put_10 : decode cX11_put 10 = .ok (.getfield 86, 3) := by decide +kernel
theorem dX11_put_13 : decode cX11_put 13 = .ok (.iload_n 1, 1) := by decide +kernel
theorem dX11_put_14 : decode cX11_put 14 = .ok (.iload_n 2, 1) := by decide +kernel
theorem dX11_put_15 : decode cX11_put 15 = .ok (.invokevirtual 304, 3) := by decide +kernel
theorem dX11_put_18 : decode cX11_put 18 = .ok (.istore 5, 2) := by decide +kernel
theorem dX11_put_20 : decode cX11_put 20 = .ok (.iload 5, 2) := by decide +kernel
theorem dX11_put_22 : decode cX11_put 22 = .ok (.ifCond .ge 6, 3) := by decide +kernel
theorem dX11_put_25 : decode cX11_put 25 = .ok (.iload 5, 2) := by decide +kernel
theorem dX11_put_27 : decode cX11_put 27 = .ok (.ireturn, 1) := by decide +kernel
theorem dX11_put_28 : decode cX11_put 28 = .ok (.aload_n 0, 1) := by decide +kernel
theorem dX11_put_29 : decode cX11_put 29 = .ok (.getfield 86, 3) := by decide +kernel
theorem dX11_put_32 : decode cX11_put 32 = .ok (.iload_n 1, 1) := by decide +kernel
theorem dX11_put_33 : decode cX11_put 33 = .ok (.iload_n 2, 1) := by decide +kernel
theorem dX11_put_34 : decode cX11_put 34 = .ok (.lload_n 3, 1) := by decide +kernel
theorem dX11_put_35 : decode cX11_put 35 = .ok (.invokevirtual 307, 3) := by decide +kernel
theorem dX11_put_38 : decode cX11_put 38 = .ok (.iconst 1, 1) := by decide +kernel
theorem dX11_put_39 : decode cX11_put 39 = .ok (.ireturn, 1) := by decide +kernel
theorem dX11_element_0 : decode cX11_element 0 = .ok (.iload_n 1, 1) := by decide +kernel
theorem dX11_element_1 : decode cX11_element 1 = .ok (.invokestatic 249, 3) := by decide +kernel
theorem dX11_element_4 : decode cX11_element 4 = .ok (.ifCond .ne 15, 3) := by decide +kernel
theorem dX11_element_7 : decode cX11_element 7 = .ok (.aload_n 0, 1) := by decide +kernel
theorem dX11_element_8 : decode cX11_element 8 = .ok (.getfield 86, 3) := by decide +kernel
theorem dX11_element_11 : decode cX11_element 11 = .ok (.iload_n 1, 1) := by decide +kernel
theorem dX11_element_12 : decode cX11_element 12 = .ok (.iload_n 2, 1) := by decide +kernel
theorem dX11_element_13 : decode cX11_element 13 = .ok (.invokevirtual 304, 3) := by decide +kernel
theorem dX11_element_16 : decode cX11_element 16 = .ok (.ifCond .ge 7, 3) := by decide +kernel
theorem dX11_element_19 : decode cX11_element 19 = .ok (.ldc2_w 312, 3) := by decide +kernel
theorem dX11_element_22 : decode cX11_element 22 = .ok (.lreturn, 1) := by decide +kernel
theorem dX11_element_23 : decode cX11_element 23 = .ok (.aload_n 0, 1) := by decide +kernel
theorem dX11_element_24 : decode cX11_element 24 = .ok (.getfield 86, 3) := by decide +kernel
theorem dX11_element_27 : decode cX11_element 27 = .ok (.iload_n 1, 1) := by decide +kernel
theorem dX11_element_28 : decode cX11_element 28 = .ok (.iload_n 2, 1) := by decide +kernel
theorem dX11_element_29 : decode cX11_element 29 = .ok (.invokevirtual 261, 3) := by decide +kernel
theorem dX11_element_32 : decode cX11_element 32 = .ok (.lreturn, 1) := by decide +kernel
theorem dX11_shift_0 : decode cX11_shift 0 = .ok (.iload_n 1, 1) := by decide +kernel
theorem dX11_shift_1 : decode cX11_shift 1 = .ok (.invokestatic 249, 3) := by decide +kernel
theorem dX11_shift_4 : decode cX11_shift 4 = .ok (.ifCond .ne 10, 3) := by decide +kernel
theorem dX11_shift_7 : decode cX11_shift 7 = .ok (.iload_n 3, 1) := by decide +kernel
theorem dX11_shift_8 : decode cX11_shift 8 = .ok (.invokestatic 249, 3) := by decide +kernel
theorem dX11_shift_11 : decode cX11_shift 11 = .ok (.ifCond .eq 5, 3) := by decide +kernel
theorem dX11_shift_14 : decode cX11_shift 14 = .ok (.iconst (-1), 1) := by decide +kernel
theorem dX11_shift_15 : decode cX11_shift 15 = .ok (.ireturn, 1) := by decide +kernel
theorem dX11_shift_16 : decode cX11_shift 16 = .ok (.aload_n 0, 1) := by decide +kernel
theorem dX11_shift_17 : decode cX11_shift 17 = .ok (.getfield 86, 3) := by decide +kernel
theorem dX11_shift_20 : decode cX11_shift 20 = .ok (.iload_n 1, 1) := by decide +kernel
theorem dX11_shift_21 : decode cX11_shift 21 = .ok (.invokevirtual 252, 3) := by decide +kernel
theorem dX11_shift_24 : decode cX11_shift 24 = .ok (.ifCond .ne 14, 3) := by decide +kernel
theorem dX11_shift_27 : decode cX11_shift 27 = .ok (.aload_n 0, 1) := by decide +kernel
theorem dX11_shift_28 : decode cX11_shift 28 = .ok (.getfield 86, 3) := by decide +kernel
theorem dX11_shift_31 : decode cX11_shift 31 = .ok (.iload_n 3, 1) := by decide +kernel
theorem dX11_shift_32 : decode cX11_shift 32 = .ok (.invokevirtual 252, 3) := by decide +kernel
theorem dX11_shift_35 : decode cX11_shift 35 = .ok (.ifCond .eq 6, 3) := by decide +kernel
theorem dX11_shift_38 : decode cX11_shift 38 = .ok (.bipush (-11), 2) := by decide +kernel
theorem dX11_shift_40 : decode cX11_shift 40 = .ok (.ireturn, 1) := by decide +kernel
theorem dX11_shift_41 : decode cX11_shift 41 = .ok (.aload_n 0, 1) := by decide +kernel
theorem dX11_shift_42 : decode cX11_shift 42 = .ok (.getfield 86, 3) := by decide +kernel
theorem dX11_shift_45 : decode cX11_shift 45 = .ok (.iload_n 1, 1) := by decide +kernel
theorem dX11_shift_46 : decode cX11_shift 46 = .ok (.invokevirtual 255, 3) := by decide +kernel
theorem dX11_shift_49 : decode cX11_shift 49 = .ok (.istore 6, 2) := by decide +kernel
theorem dX11_shift_51 : decode cX11_shift 51 = .ok (.iload 6, 2) := by decide +kernel
theorem dX11_shift_53 : decode cX11_shift 53 = .ok (.iconst (-1), 1) := by decide +kernel
theorem dX11_shift_54 : decode cX11_shift 54 = .ok (.if_icmp .eq 16, 3) := by decide +kernel
theorem dX11_shift_57 : decode cX11_shift 57 = .ok (.iload 6, 2) := by decide +kernel
theorem dX11_shift_59 : decode cX11_shift 59 = .ok (.aload_n 0, 1) := by decide +kernel
theorem dX11_shift_60 : decode cX11_shift 60 = .ok (.getfield 86, 3) := by decide +kernel
theorem dX11_shift_63 : decode cX11_shift 63 = .ok (.iload_n 3, 1) := by decide +kernel
theorem dX11_shift_64 : decode cX11_shift 64 = .ok (.invokevirtual 255, 3) := by decide +kernel
theorem dX11_shift_67 : decode cX11_shift 67 = .ok (.if_icmp .eq 6, 3) := by decide +kernel
theorem dX11_shift_70 : decode cX11_shift 70 = .ok (.bipush (-12), 2) := by decide +kernel
theorem dX11_shift_72 : decode cX11_shift 72 = .ok (.ireturn, 1) := by decide +kernel
theorem dX11_shift_73 : decode cX11_shift 73 = .ok (.iload 5, 2) := by decide +kernel
theorem dX11_shift_75 : decode cX11_shift 75 = .ok (.ifCond .lt 12, 3) := by decide +kernel
theorem dX11_shift_78 : decode cX11_shift 78 = .ok (.iload_n 2, 1) := by decide +kernel
theorem dX11_shift_79 : decode cX11_shift 79 = .ok (.ifCond .lt 8, 3) := by decide +kernel
theorem dX11_shift_82 : decode cX11_shift 82 = .ok (.iload 4, 2) := by decide +kernel
theorem dX11_shift_84 : decode cX11_shift 84 = .ok (.ifCond .ge 6, 3) := by decide +kernel
theorem dX11_shift_87 : decode cX11_shift 87 = .ok (.bipush (-13), 2) := by decide +kernel
theorem dX11_shift_89 : decode cX11_shift 89 = .ok (.ireturn, 1) := by decide +kernel
theorem dX11_shift_90 : decode cX11_shift 90 = .ok (.iload 5, 2) := by decide +kernel
theorem dX11_shift_92 : decode cX11_shift 92 = .ok (.aload_n 0, 1) := by decide +kernel
theorem dX11_shift_93 : decode cX11_shift 93 = .ok (.getfield 86, 3) := by decide +kernel
theorem dX11_shift_96 : decode cX11_shift 96 = .ok (.iload_n 1, 1) := by decide +kernel
theorem dX11_shift_97 : decode cX11_shift 97 = .ok (.invokevirtual 258, 3) := by decide +kernel
theorem dX11_shift_100 : decode cX11_shift 100 = .ok (.iload_n 2, 1) := by decide +kernel
theorem dX11_shift_101 : decode cX11_shift 101 = .ok (.isub, 1) := by decide +kernel
theorem dX11_shift_102 : decode cX11_shift 102 = .ok (.if_icmp .gt 19, 3) := by decide +kernel
theorem dX11_shift_105 : decode cX11_shift 105 = .ok (.iload 5, 2) := by decide +kernel
theorem dX11_shift_107 : decode cX11_shift 107 = .ok (.aload_n 0, 1) := by decide +kernel
theorem dX11_shift_108 : decode cX11_shift 108 = .ok (.getfield 86, 3) := by decide +kernel
theorem dX11_shift_111 : decode cX11_shift 111 = .ok (.iload_n 3, 1) := by decide +kernel
theorem dX11_shift_112 : decode cX11_shift 112 = .ok (.invokevirtual 258, 3) := by decide +kernel
theorem dX11_shift_115 : decode cX11_shift 115 = .ok (.iload 4, 2) := by decide +kernel
theorem dX11_shift_117 : decode cX11_shift 117 = .ok (.isub, 1) := by decide +kernel
theorem dX11_shift_118 : decode cX11_shift 118 = .ok (.if_icmp .le 6, 3) := by decide +kernel
theorem dX11_shift_121 : decode cX11_shift 121 = .ok (.bipush (-13), 2) := by decide +kernel
theorem dX11_shift_123 : decode cX11_shift 123 = .ok (.ireturn, 1) := by decide +kernel
theorem dX11_shift_124 : decode cX11_shift 124 = .ok (.aload_n 0, 1) := by decide +kernel
theorem dX11_shift_125 : decode cX11_shift 125 = .ok (.getfield 86, 3) := by decide +kernel
theorem dX11_shift_128 : decode cX11_shift 128 = .ok (.iload_n 1, 1) := by decide +kernel
theorem dX11_shift_129 : decode cX11_shift 129 = .ok (.iload_n 2, 1) := by decide +kernel
theorem dX11_shift_130 : decode cX11_shift 130 = .ok (.iload_n 3, 1) := by decide +kernel
theorem dX11_shift_131 : decode cX11_shift 131 = .ok (.iload 4, 2) := by decide +kernel
theorem dX11_shift_133 : decode cX11_shift 133 = .ok (.iload 5, 2) := by decide +kernel
theorem dX11_shift_135 : decode cX11_shift 135 = .ok (.invokevirtual 314, 3) := by decide +kernel
theorem dX11_shift_138 : decode cX11_shift 138 = .ok (.iload 5, 2) := by decide +kernel
theorem dX11_shift_140 : decode cX11_shift 140 = .ok (.ireturn, 1) := by decide +kernel
theorem dX11_taken_0 : decode cX11_taken 0 = .ok (.iload_n 1, 1) := by decide +kernel
theorem dX11_taken_1 : decode cX11_taken 1 = .ok (.invokestatic 249, 3) := by decide +kernel
theorem dX11_taken_4 : decode cX11_taken 4 = .ok (.ifCond .ne 13, 3) := by decide +kernel
theorem dX11_taken_7 : decode cX11_taken 7 = .ok (.iload_n 2, 1) := by decide +kernel
theorem dX11_taken_8 : decode cX11_taken 8 = .ok (.iconst 0, 1) := by decide +kernel
theorem dX11_taken_9 : decode cX11_taken 9 = .ok (.bipush 6, 2) := by decide +kernel
theorem dX11_taken_11 : decode cX11_taken 11 = .ok (.invokestatic 94, 3) := by decide +kernel
theorem dX11_taken_14 : decode cX11_taken 14 = .ok (.ifCond .eq 5, 3) := by decide +kernel
theorem dX11_taken_17 : decode cX11_taken 17 = .ok (.iconst (-1), 1) := by decide +kernel
theorem dX11_taken_18 : decode cX11_taken 18 = .ok (.ireturn, 1) := by decide +kernel
theorem dX11_taken_19 : decode cX11_taken 19 = .ok (.aload_n 0, 1) := by decide +kernel
theorem dX11_taken_20 : decode cX11_taken 20 = .ok (.getfield 86, 3) := by decide +kernel
theorem dX11_taken_23 : decode cX11_taken 23 = .ok (.iload_n 1, 1) := by decide +kernel
theorem dX11_taken_24 : decode cX11_taken 24 = .ok (.invokevirtual 252, 3) := by decide +kernel
theorem dX11_taken_27 : decode cX11_taken 27 = .ok (.ifCond .eq 6, 3) := by decide +kernel
theorem dX11_taken_30 : decode cX11_taken 30 = .ok (.bipush (-11), 2) := by decide +kernel
theorem dX11_taken_32 : decode cX11_taken 32 = .ok (.ireturn, 1) := by decide +kernel
theorem dX11_taken_33 : decode cX11_taken 33 = .ok (.aload_n 0, 1) := by decide +kernel
theorem dX11_taken_34 : decode cX11_taken 34 = .ok (.getfield 86, 3) := by decide +kernel
theorem dX11_taken_37 : decode cX11_taken 37 = .ok (.iload_n 1, 1) := by decide +kernel
theorem dX11_taken_38 : decode cX11_taken 38 = .ok (.invokevirtual 318, 3) := by decide +kernel
theorem dX11_taken_41 : decode cX11_taken 41 = .ok (.istore_n 3, 1) := by decide +kernel
theorem dX11_taken_42 : decode cX11_taken 42 = .ok (.iload_n 3, 1) := by decide +kernel
theorem dX11_taken_43 : decode cX11_taken 43 = .ok (.ifCond .lt 18, 3) := by decide +kernel
theorem dX11_taken_46 : decode cX11_taken 46 = .ok (.aload_n 0, 1) := by decide +kernel
theorem dX11_taken_47 : decode cX11_taken 47 = .ok (.getfield 61, 3) := by decide +kernel
theorem dX11_taken_50 : decode cX11_taken 50 = .ok (.iload_n 3, 1) := by decide +kernel
theorem dX11_taken_51 : decode cX11_taken 51 = .ok (.invokevirtual 183, 3) := by decide +kernel
theorem dX11_taken_54 : decode cX11_taken 54 = .ok (.iload_n 2, 1) := by decide +kernel
theorem dX11_taken_55 : decode cX11_taken 55 = .ok (.invokestatic 321, 3) := by decide +kernel
theorem dX11_taken_58 : decode cX11_taken 58 = .ok (.ifCond .ne 6, 3) := by decide +kernel
theorem dX11_taken_61 : decode cX11_taken 61 = .ok (.bipush (-12), 2) := by decide +kernel
theorem dX11_taken_63 : decode cX11_taken 63 = .ok (.ireturn, 1) := by decide +kernel
theorem dX11_taken_64 : decode cX11_taken 64 = .ok (.aload_n 0, 1) := by decide +kernel
theorem dX11_taken_65 : decode cX11_taken 65 = .ok (.getfield 61, 3) := by decide +kernel
theorem dX11_taken_68 : decode cX11_taken 68 = .ok (.iload_n 3, 1) := by decide +kernel
theorem dX11_taken_69 : decode cX11_taken 69 = .ok (.invokevirtual 183, 3) := by decide +kernel
theorem dX11_taken_72 : decode cX11_taken 72 = .ok (.ireturn, 1) := by decide +kernel
theorem dX11_count_0 : decode cX11_count 0 = .ok (.iload_n 1, 1) := by decide +kernel
theorem dX11_count_1 : decode cX11_count 1 = .ok (.tableswitch 87 0 5 #[39, 47, 55, 63, 71, 79], 39) := by decide +kernel
theorem dX11_count_40 : decode cX11_count 40 = .ok (.aload_n 0, 1) := by decide +kernel
theorem dX11_count_41 : decode cX11_count 41 = .ok (.getfield 10, 3) := by decide +kernel
theorem dX11_count_44 : decode cX11_count 44 = .ok (.getfield 98, 3) := by decide +kernel
theorem dX11_count_47 : decode cX11_count 47 = .ok (.ireturn, 1) := by decide +kernel
theorem dX11_count_48 : decode cX11_count 48 = .ok (.aload_n 0, 1) := by decide +kernel
theorem dX11_count_49 : decode cX11_count 49 = .ok (.getfield 61, 3) := by decide +kernel
theorem dX11_count_52 : decode cX11_count 52 = .ok (.getfield 173, 3) := by decide +kernel
theorem dX11_count_55 : decode cX11_count 55 = .ok (.ireturn, 1) := by decide +kernel
theorem dX11_count_56 : decode cX11_count 56 = .ok (.aload_n 0, 1) := by decide +kernel
theorem dX11_count_57 : decode cX11_count 57 = .ok (.getfield 19, 3) := by decide +kernel
theorem dX11_count_60 : decode cX11_count 60 = .ok (.getfield 124, 3) := by decide +kernel
theorem dX11_count_63 : decode cX11_count 63 = .ok (.ireturn, 1) := by decide +kernel
theorem dX11_count_64 : decode cX11_count 64 = .ok (.aload_n 0, 1) := by decide +kernel
theorem dX11_count_65 : decode cX11_count 65 = .ok (.getfield 77, 3) := by decide +kernel
theorem dX11_count_68 : decode cX11_count 68 = .ok (.getfield 134, 3) := by decide +kernel
theorem dX11_count_71 : decode cX11_count 71 = .ok (.ireturn, 1) := by decide +kernel
theorem dX11_count_72 : decode cX11_count 72 = .ok (.aload_n 0, 1) := by decide +kernel
theorem dX11_count_73 : decode cX11_count 73 = .ok (.getfield 10, 3) := by decide +kernel
theorem dX11_count_76 : decode cX11_count 76 = .ok (.getfield 277, 3) := by decide +kernel
theorem dX11_count_79 : decode cX11_count 79 = .ok (.ireturn, 1) := by decide +kernel
theorem dX11_count_80 : decode cX11_count 80 = .ok (.aload_n 0, 1) := by decide +kernel
theorem dX11_count_81 : decode cX11_count 81 = .ok (.getfield 61, 3) := by decide +kernel
theorem dX11_count_84 : decode cX11_count 84 = .ok (.getfield 289, 3) := by decide +kernel
theorem dX11_count_87 : decode cX11_count 87 = .ok (.ireturn, 1) := by decide +kernel
theorem dX11_count_88 : decode cX11_count 88 = .ok (.iconst (-1), 1) := by decide +kernel
theorem dX11_count_89 : decode cX11_count 89 = .ok (.ireturn, 1) := by decide +kernel
theorem dX11_outside_0 : decode cX11_outside 0 = .ok (.iload_n 0, 1) := by decide +kernel
theorem dX11_outside_1 : decode cX11_outside 1 = .ok (.iload_n 1, 1) := by decide +kernel
theorem dX11_outside_2 : decode cX11_outside 2 = .ok (.if_icmp .lt 8, 3) := by decide +kernel
theorem dX11_outside_5 : decode cX11_outside 5 = .ok (.iload_n 0, 1) := by decide +kernel
theorem dX11_outside_6 : decode cX11_outside 6 = .ok (.iload_n 2, 1) := by decide +kernel
theorem dX11_outside_7 : decode cX11_outside 7 = .ok (.if_icmp .le 7, 3) := by decide +kernel
theorem dX11_outside_10 : decode cX11_outside 10 = .ok (.iconst 1, 1) := by decide +kernel
theorem dX11_outside_11 : decode cX11_outside 11 = .ok (.goto 4, 3) := by decide +kernel
theorem dX11_outside_14 : decode cX11_outside 14 = .ok (.iconst 0, 1) := by decide +kernel
theorem dX11_outside_15 : decode cX11_outside 15 = .ok (.ireturn, 1) := by decide +kernel
theorem dX11_noBowler_0 : decode cX11_noBowler 0 = .ok (.iload_n 1, 1) := by decide +kernel
theorem dX11_noBowler_1 : decode cX11_noBowler 1 = .ok (.iconst 0, 1) := by decide +kernel
theorem dX11_noBowler_2 : decode cX11_noBowler 2 = .ok (.aload_n 0, 1) := by decide +kernel
theorem dX11_noBowler_3 : decode cX11_noBowler 3 = .ok (.getfield 10, 3) := by decide +kernel
theorem dX11_noBowler_6 : decode cX11_noBowler 6 = .ok (.getfield 98, 3) := by decide +kernel
theorem dX11_noBowler_9 : decode cX11_noBowler 9 = .ok (.iconst 1, 1) := by decide +kernel
theorem dX11_noBowler_10 : decode cX11_noBowler 10 = .ok (.isub, 1) := by decide +kernel
theorem dX11_noBowler_11 : decode cX11_noBowler 11 = .ok (.invokestatic 94, 3) := by decide +kernel
theorem dX11_noBowler_14 : decode cX11_noBowler 14 = .ok (.ireturn, 1) := by decide +kernel
theorem dX11_noRule_0 : decode cX11_noRule 0 = .ok (.iload_n 1, 1) := by decide +kernel
theorem dX11_noRule_1 : decode cX11_noRule 1 = .ok (.iconst 0, 1) := by decide +kernel
theorem dX11_noRule_2 : decode cX11_noRule 2 = .ok (.aload_n 0, 1) := by decide +kernel
theorem dX11_noRule_3 : decode cX11_noRule 3 = .ok (.getfield 61, 3) := by decide +kernel
theorem dX11_noRule_6 : decode cX11_noRule 6 = .ok (.getfield 173, 3) := by decide +kernel
theorem dX11_noRule_9 : decode cX11_noRule 9 = .ok (.iconst 1, 1) := by decide +kernel
theorem dX11_noRule_10 : decode cX11_noRule 10 = .ok (.isub, 1) := by decide +kernel
theorem dX11_noRule_11 : decode cX11_noRule 11 = .ok (.invokestatic 94, 3) := by decide +kernel
theorem dX11_noRule_14 : decode cX11_noRule 14 = .ok (.ireturn, 1) := by decide +kernel
theorem dX11_noShelf_0 : decode cX11_noShelf 0 = .ok (.iload_n 0, 1) := by decide +kernel
theorem dX11_noShelf_1 : decode cX11_noShelf 1 = .ok (.iconst 0, 1) := by decide +kernel
theorem dX11_noShelf_2 : decode cX11_noShelf 2 = .ok (.iconst 5, 1) := by decide +kernel
theorem dX11_noShelf_3 : decode cX11_noShelf 3 = .ok (.invokestatic 94, 3) := by decide +kernel
theorem dX11_noShelf_6 : decode cX11_noShelf 6 = .ok (.ireturn, 1) := by decide +kernel
theorem dX11_edgePlace_0 : decode cX11_edgePlace 0 = .ok (.iload_n 1, 1) := by decide +kernel
theorem dX11_edgePlace_1 : decode cX11_edgePlace 1 = .ok (.ifCond .lt 14, 3) := by decide +kernel
theorem dX11_edgePlace_4 : decode cX11_edgePlace 4 = .ok (.aload_n 0, 1) := by decide +kernel
theorem dX11_edgePlace_5 : decode cX11_edgePlace 5 = .ok (.iload_n 1, 1) := by decide +kernel
theorem dX11_edgePlace_6 : decode cX11_edgePlace 6 = .ok (.bipush 10, 2) := by decide +kernel
theorem dX11_edgePlace_8 : decode cX11_edgePlace 8 = .ok (.idiv, 1) := by decide +kernel
theorem dX11_edgePlace_9 : decode cX11_edgePlace 9 = .ok (.invokevirtual 152, 3) := by decide +kernel
theorem dX11_edgePlace_12 : decode cX11_edgePlace 12 = .ok (.ifCond .eq 5, 3) := by decide +kernel
theorem dX11_edgePlace_15 : decode cX11_edgePlace 15 = .ok (.iconst (-1), 1) := by decide +kernel
theorem dX11_edgePlace_16 : decode cX11_edgePlace 16 = .ok (.ireturn, 1) := by decide +kernel
theorem dX11_edgePlace_17 : decode cX11_edgePlace 17 = .ok (.iload_n 2, 1) := by decide +kernel
theorem dX11_edgePlace_18 : decode cX11_edgePlace 18 = .ok (.iconst 2, 1) := by decide +kernel
theorem dX11_edgePlace_19 : decode cX11_edgePlace 19 = .ok (.if_icmp .ne 11, 3) := by decide +kernel
theorem dX11_edgePlace_22 : decode cX11_edgePlace 22 = .ok (.bipush 32, 2) := by decide +kernel
theorem dX11_edgePlace_24 : decode cX11_edgePlace 24 = .ok (.iload_n 1, 1) := by decide +kernel
theorem dX11_edgePlace_25 : decode cX11_edgePlace 25 = .ok (.bipush 10, 2) := by decide +kernel
theorem dX11_edgePlace_27 : decode cX11_edgePlace 27 = .ok (.idiv, 1) := by decide +kernel
theorem dX11_edgePlace_28 : decode cX11_edgePlace 28 = .ok (.iadd, 1) := by decide +kernel
theorem dX11_edgePlace_29 : decode cX11_edgePlace 29 = .ok (.ireturn, 1) := by decide +kernel
theorem dX11_edgePlace_30 : decode cX11_edgePlace 30 = .ok (.iload_n 2, 1) := by decide +kernel
theorem dX11_edgePlace_31 : decode cX11_edgePlace 31 = .ok (.iconst 0, 1) := by decide +kernel
theorem dX11_edgePlace_32 : decode cX11_edgePlace 32 = .ok (.iconst 1, 1) := by decide +kernel
theorem dX11_edgePlace_33 : decode cX11_edgePlace 33 = .ok (.invokestatic 94, 3) := by decide +kernel
theorem dX11_edgePlace_36 : decode cX11_edgePlace 36 = .ok (.ifCond .ne 15, 3) := by decide +kernel
theorem dX11_edgePlace_39 : decode cX11_edgePlace 39 = .ok (.iload_n 1, 1) := by decide +kernel
theorem dX11_edgePlace_40 : decode cX11_edgePlace 40 = .ok (.bipush 10, 2) := by decide +kernel
theorem dX11_edgePlace_42 : decode cX11_edgePlace 42 = .ok (.irem, 1) := by decide +kernel
theorem dX11_edgePlace_43 : decode cX11_edgePlace 43 = .ok (.iconst 0, 1) := by decide +kernel
theorem dX11_edgePlace_44 : decode cX11_edgePlace 44 = .ok (.iconst 3, 1) := by decide +kernel
theorem dX11_edgePlace_45 : decode cX11_edgePlace 45 = .ok (.invokestatic 94, 3) := by decide +kernel
theorem dX11_edgePlace_48 : decode cX11_edgePlace 48 = .ok (.ifCond .eq 5, 3) := by decide +kernel
theorem dX11_edgePlace_51 : decode cX11_edgePlace 51 = .ok (.iconst (-1), 1) := by decide +kernel
theorem dX11_edgePlace_52 : decode cX11_edgePlace 52 = .ok (.ireturn, 1) := by decide +kernel
theorem dX11_edgePlace_53 : decode cX11_edgePlace 53 = .ok (.iload_n 2, 1) := by decide +kernel
theorem dX11_edgePlace_54 : decode cX11_edgePlace 54 = .ok (.ifCond .ne 7, 3) := by decide +kernel
theorem dX11_edgePlace_57 : decode cX11_edgePlace 57 = .ok (.iconst 0, 1) := by decide +kernel
theorem dX11_edgePlace_58 : decode cX11_edgePlace 58 = .ok (.goto 5, 3) := by decide +kernel
theorem dX11_edgePlace_61 : decode cX11_edgePlace 61 = .ok (.bipush 16, 2) := by decide +kernel
theorem dX11_edgePlace_63 : decode cX11_edgePlace 63 = .ok (.iload_n 1, 1) := by decide +kernel
theorem dX11_edgePlace_64 : decode cX11_edgePlace 64 = .ok (.bipush 10, 2) := by decide +kernel
theorem dX11_edgePlace_66 : decode cX11_edgePlace 66 = .ok (.idiv, 1) := by decide +kernel
theorem dX11_edgePlace_67 : decode cX11_edgePlace 67 = .ok (.iconst 4, 1) := by decide +kernel
theorem dX11_edgePlace_68 : decode cX11_edgePlace 68 = .ok (.imul, 1) := by decide +kernel
theorem dX11_edgePlace_69 : decode cX11_edgePlace 69 = .ok (.iadd, 1) := by decide +kernel
theorem dX11_edgePlace_70 : decode cX11_edgePlace 70 = .ok (.iload_n 1, 1) := by decide +kernel
theorem dX11_edgePlace_71 : decode cX11_edgePlace 71 = .ok (.bipush 10, 2) := by decide +kernel
theorem dX11_edgePlace_73 : decode cX11_edgePlace 73 = .ok (.irem, 1) := by decide +kernel
theorem dX11_edgePlace_74 : decode cX11_edgePlace 74 = .ok (.iadd, 1) := by decide +kernel
theorem dX11_edgePlace_75 : decode cX11_edgePlace 75 = .ok (.ireturn, 1) := by decide +kernel
theorem dX11_mayBeBooked_0 : decode cX11_mayBeBooked 0 = .ok (.aload_n 0, 1) := by decide +kernel
theorem dX11_mayBeBooked_1 : decode cX11_mayBeBooked 1 = .ok (.getfield 77, 3) := by decide +kernel
theorem dX11_mayBeBooked_4 : decode cX11_mayBeBooked 4 = .ok (.getfield 134, 3) := by decide +kernel
theorem dX11_mayBeBooked_7 : decode cX11_mayBeBooked 7 = .ok (.istore_n 2, 1) := by decide +kernel
theorem dX11_mayBeBooked_8 : decode cX11_mayBeBooked 8 = .ok (.aload_n 0, 1) := by decide +kernel
theorem dX11_mayBeBooked_9 : decode cX11_mayBeBooked 9 = .ok (.getfield 77, 3) := by decide +kernel
theorem dX11_mayBeBooked_12 : decode cX11_mayBeBooked 12 = .ok (.iload_n 2, 1) := by decide +kernel
theorem dX11_mayBeBooked_13 : decode cX11_mayBeBooked 13 = .ok (.aload_n 0, 1) := by decide +kernel
theorem dX11_mayBeBooked_14 : decode cX11_mayBeBooked 14 = .ok (.getfield 10, 3) := by decide +kernel
theorem dX11_mayBeBooked_17 : decode cX11_mayBeBooked 17 = .ok (.invokevirtual 186, 3) := by decide +kernel
theorem dX11_mayBeBooked_20 : decode cX11_mayBeBooked 20 = .ok (.istore_n 3, 1) := by decide +kernel
theorem dX11_mayBeBooked_21 : decode cX11_mayBeBooked 21 = .ok (.aload_n 0, 1) := by decide +kernel
theorem dX11_mayBeBooked_22 : decode cX11_mayBeBooked 22 = .ok (.getfield 26, 3) := by decide +kernel
theorem dX11_mayBeBooked_25 : decode cX11_mayBeBooked 25 = .ok (.iload_n 2, 1) := by decide +kernel
theorem dX11_mayBeBooked_26 : decode cX11_mayBeBooked 26 = .ok (.aload_n 0, 1) := by decide +kernel
theorem dX11_mayBeBooked_27 : decode cX11_mayBeBooked 27 = .ok (.getfield 77, 3) := by decide +kernel
theorem dX11_mayBeBooked_30 : decode cX11_mayBeBooked 30 = .ok (.iload_n 2, 1) := by decide +kernel
theorem dX11_mayBeBooked_31 : decode cX11_mayBeBooked 31 = .ok (.invokevirtual 180, 3) := by decide +kernel
theorem dX11_mayBeBooked_34 : decode cX11_mayBeBooked 34 = .ok (.iload_n 3, 1) := by decide +kernel
theorem dX11_mayBeBooked_35 : decode cX11_mayBeBooked 35 = .ok (.invokevirtual 190, 3) := by decide +kernel
theorem dX11_mayBeBooked_38 : decode cX11_mayBeBooked 38 = .ok (.ifCond .ne 15, 3) := by decide +kernel
theorem dX11_mayBeBooked_41 : decode cX11_mayBeBooked 41 = .ok (.iload_n 3, 1) := by decide +kernel
theorem dX11_mayBeBooked_42 : decode cX11_mayBeBooked 42 = .ok (.iload_n 1, 1) := by decide +kernel
theorem dX11_mayBeBooked_43 : decode cX11_mayBeBooked 43 = .ok (.invokestatic 325, 3) := by decide +kernel
theorem dX11_mayBeBooked_46 : decode cX11_mayBeBooked 46 = .ok (.ifCond .eq 7, 3) := by decide +kernel
theorem dX11_mayBeBooked_49 : decode cX11_mayBeBooked 49 = .ok (.iconst 1, 1) := by decide +kernel
theorem dX11_mayBeBooked_50 : decode cX11_mayBeBooked 50 = .ok (.goto 4, 3) := by decide +kernel
theorem dX11_mayBeBooked_53 : decode cX11_mayBeBooked 53 = .ok (.iconst 0, 1) := by decide +kernel
theorem dX11_mayBeBooked_54 : decode cX11_mayBeBooked 54 = .ok (.ireturn, 1) := by decide +kernel
theorem dX11_makeReady_0 : decode cX11_makeReady 0 = .ok (.aload_n 0, 1) := by decide +kernel
theorem dX11_makeReady_1 : decode cX11_makeReady 1 = .ok (.getfield 45, 3) := by decide +kernel
theorem dX11_makeReady_4 : decode cX11_makeReady 4 = .ok (.aload_n 0, 1) := by decide +kernel
theorem dX11_makeReady_5 : decode cX11_makeReady 5 = .ok (.getfield 10, 3) := by decide +kernel
theorem dX11_makeReady_8 : decode cX11_makeReady 8 = .ok (.getfield 121, 3) := by decide +kernel
theorem dX11_makeReady_11 : decode cX11_makeReady 11 = .ok (.invokevirtual 156, 3) := by decide +kernel
theorem dX11_makeReady_14 : decode cX11_makeReady 14 = .ok (.aload_n 0, 1) := by decide +kernel
theorem dX11_makeReady_15 : decode cX11_makeReady 15 = .ok (.getfield 61, 3) := by decide +kernel
theorem dX11_makeReady_18 : decode cX11_makeReady 18 = .ok (.iload_n 1, 1) := by decide +kernel
theorem dX11_makeReady_19 : decode cX11_makeReady 19 = .ok (.invokevirtual 183, 3) := by decide +kernel
theorem dX11_makeReady_22 : decode cX11_makeReady 22 = .ok (.iconst 2, 1) := by decide +kernel
theorem dX11_makeReady_23 : decode cX11_makeReady 23 = .ok (.if_icmp .ne 19, 3) := by decide +kernel
theorem dX11_makeReady_26 : decode cX11_makeReady 26 = .ok (.aload_n 0, 1) := by decide +kernel
theorem dX11_makeReady_27 : decode cX11_makeReady 27 = .ok (.getfield 54, 3) := by decide +kernel
theorem dX11_makeReady_30 : decode cX11_makeReady 30 = .ok (.aload_n 0, 1) := by decide +kernel
theorem dX11_makeReady_31 : decode cX11_makeReady 31 = .ok (.getfield 10, 3) := by decide +kernel
theorem dX11_makeReady_34 : decode cX11_makeReady 34 = .ok (.invokevirtual 204, 3) := by decide +kernel
theorem dX11_makeReady_37 : decode cX11_makeReady 37 = .ok (.iconst 0, 1) := by decide +kernel
theorem dX11_makeReady_38 : decode cX11_makeReady 38 = .ok (.iconst 0, 1) := by decide +kernel
theorem dX11_makeReady_39 : decode cX11_makeReady 39 = .ok (.invokevirtual 193, 3) := by decide +kernel
theorem dX11_makeReady_42 : decode cX11_makeReady 42 = .ok (.return_, 1) := by decide +kernel
theorem dX11_bestOf_0 : decode cX11_bestOf 0 = .ok (.aload_n 0, 1) := by decide +kernel
theorem dX11_bestOf_1 : decode cX11_bestOf 1 = .ok (.getfield 45, 3) := by decide +kernel
theorem dX11_bestOf_4 : decode cX11_bestOf 4 = .ok (.iload_n 2, 1) := by decide +kernel
theorem dX11_bestOf_5 : decode cX11_bestOf 5 = .ok (.invokevirtual 156, 3) := by decide +kernel
theorem dX11_bestOf_8 : decode cX11_bestOf 8 = .ok (.aload_n 0, 1) := by decide +kernel
theorem dX11_bestOf_9 : decode cX11_bestOf 9 = .ok (.getfield 54, 3) := by decide +kernel
theorem dX11_bestOf_12 : decode cX11_bestOf 12 = .ok (.iload_n 1, 1) := by decide +kernel
theorem dX11_bestOf_13 : decode cX11_bestOf 13 = .ok (.iconst 0, 1) := by decide +kernel
theorem dX11_bestOf_14 : decode cX11_bestOf 14 = .ok (.iconst 0, 1) := by decide +kernel
theorem dX11_bestOf_15 : decode cX11_bestOf 15 = .ok (.invokevirtual 193, 3) := by decide +kernel
theorem dX11_bestOf_18 : decode cX11_bestOf 18 = .ok (.aload_n 0, 1) := by decide +kernel
theorem dX11_bestOf_19 : decode cX11_bestOf 19 = .ok (.getfield 54, 3) := by decide +kernel
theorem dX11_bestOf_22 : decode cX11_bestOf 22 = .ok (.iconst 0, 1) := by decide +kernel
theorem dX11_bestOf_23 : decode cX11_bestOf 23 = .ok (.iconst 0, 1) := by decide +kernel
theorem dX11_bestOf_24 : decode cX11_bestOf 24 = .ok (.invokevirtual 215, 3) := by decide +kernel
theorem dX11_bestOf_27 : decode cX11_bestOf 27 = .ok (.ireturn, 1) := by decide +kernel
theorem dX11_turnOrder_0 : decode cX11_turnOrder 0 = .ok (.aload_n 0, 1) := by decide +kernel
theorem dX11_turnOrder_1 : decode cX11_turnOrder 1 = .ok (.getfield 10, 3) := by decide +kernel
theorem dX11_turnOrder_4 : decode cX11_turnOrder 4 = .ok (.invokevirtual 204, 3) := by decide +kernel
theorem dX11_turnOrder_7 : decode cX11_turnOrder 7 = .ok (.istore_n 2, 1) := by decide +kernel
theorem dX11_turnOrder_8 : decode cX11_turnOrder 8 = .ok (.iconst 0, 1) := by decide +kernel
theorem dX11_turnOrder_9 : decode cX11_turnOrder 9 = .ok (.istore_n 3, 1) := by decide +kernel
theorem dX11_turnOrder_10 : decode cX11_turnOrder 10 = .ok (.iconst (-1), 1) := by decide +kernel
theorem dX11_turnOrder_11 : decode cX11_turnOrder 11 = .ok (.istore 4, 2) := by decide +kernel
theorem dX11_turnOrder_13 : decode cX11_turnOrder 13 = .ok (.aload_n 0, 1) := by decide +kernel
theorem dX11_turnOrder_14 : decode cX11_turnOrder 14 = .ok (.getfield 26, 3) := by decide +kernel
theorem dX11_turnOrder_17 : decode cX11_turnOrder 17 = .ok (.getfield 135, 3) := by decide +kernel
theorem dX11_turnOrder_20 : decode cX11_turnOrder 20 = .ok (.iconst 1, 1) := by decide +kernel
theorem dX11_turnOrder_21 : decode cX11_turnOrder 21 = .ok (.isub, 1) := by decide +kernel
theorem dX11_turnOrder_22 : decode cX11_turnOrder 22 = .ok (.istore 5, 2) := by decide +kernel
theorem dX11_turnOrder_24 : decode cX11_turnOrder 24 = .ok (.aload_n 0, 1) := by decide +kernel
theorem dX11_turnOrder_25 : decode cX11_turnOrder 25 = .ok (.getfield 45, 3) := by decide +kernel
theorem dX11_turnOrder_28 : decode cX11_turnOrder 28 = .ok (.aload_n 0, 1) := by decide +kernel
theorem dX11_turnOrder_29 : decode cX11_turnOrder 29 = .ok (.getfield 10, 3) := by decide +kernel
theorem dX11_turnOrder_32 : decode cX11_turnOrder 32 = .ok (.getfield 121, 3) := by decide +kernel
theorem dX11_turnOrder_35 : decode cX11_turnOrder 35 = .ok (.invokevirtual 156, 3) := by decide +kernel
theorem dX11_turnOrder_38 : decode cX11_turnOrder 38 = .ok (.aload_n 0, 1) := by decide +kernel
theorem dX11_turnOrder_39 : decode cX11_turnOrder 39 = .ok (.getfield 26, 3) := by decide +kernel
theorem dX11_turnOrder_42 : decode cX11_turnOrder 42 = .ok (.aload_n 0, 1) := by decide +kernel
theorem dX11_turnOrder_43 : decode cX11_turnOrder 43 = .ok (.getfield 90, 3) := by decide +kernel
theorem dX11_turnOrder_46 : decode cX11_turnOrder 46 = .ok (.invokevirtual 328, 3) := by decide +kernel
theorem dX11_turnOrder_49 : decode cX11_turnOrder 49 = .ok (.iconst 0, 1) := by decide +kernel
theorem dX11_turnOrder_50 : decode cX11_turnOrder 50 = .ok (.istore 6, 2) := by decide +kernel
theorem dX11_turnOrder_52 : decode cX11_turnOrder 52 = .ok (.iload 6, 2) := by decide +kernel
theorem dX11_turnOrder_54 : decode cX11_turnOrder 54 = .ok (.bipush 120, 2) := by decide +kernel
theorem dX11_turnOrder_56 : decode cX11_turnOrder 56 = .ok (.if_icmp .ge 100, 3) := by decide +kernel
theorem dX11_turnOrder_59 : decode cX11_turnOrder 59 = .ok (.iload 5, 2) := by decide +kernel
theorem dX11_turnOrder_61 : decode cX11_turnOrder 61 = .ok (.ifCond .lt 95, 3) := by decide +kernel
theorem dX11_turnOrder_64 : decode cX11_turnOrder 64 = .ok (.aload_n 0, 1) := by decide +kernel
theorem dX11_turnOrder_65 : decode cX11_turnOrder 65 = .ok (.getfield 54, 3) := by decide +kernel
theorem dX11_turnOrder_68 : decode cX11_turnOrder 68 = .ok (.aload_n 0, 1) := by decide +kernel
theorem dX11_turnOrder_69 : decode cX11_turnOrder 69 = .ok (.getfield 90, 3) := by decide +kernel
theorem dX11_turnOrder_72 : decode cX11_turnOrder 72 = .ok (.iload_n 2, 1) := by decide +kernel
theorem dX11_turnOrder_73 : decode cX11_turnOrder 73 = .ok (.iconst 0, 1) := by decide +kernel
theorem dX11_turnOrder_74 : decode cX11_turnOrder 74 = .ok (.iconst 0, 1) := by decide +kernel
theorem dX11_turnOrder_75 : decode cX11_turnOrder 75 = .ok (.iload 5, 2) := by decide +kernel
theorem dX11_turnOrder_77 : decode cX11_turnOrder 77 = .ok (.invokevirtual 332, 3) := by decide +kernel
theorem dX11_turnOrder_80 : decode cX11_turnOrder 80 = .ok (.aload_n 0, 1) := by decide +kernel
theorem dX11_turnOrder_81 : decode cX11_turnOrder 81 = .ok (.getfield 54, 3) := by decide +kernel
theorem dX11_turnOrder_84 : decode cX11_turnOrder 84 = .ok (.iconst 0, 1) := by decide +kernel
theorem dX11_turnOrder_85 : decode cX11_turnOrder 85 = .ok (.iconst 0, 1) := by decide +kernel
theorem dX11_turnOrder_86 : decode cX11_turnOrder 86 = .ok (.invokevirtual 215, 3) := by decide +kernel
theorem dX11_turnOrder_89 : decode cX11_turnOrder 89 = .ok (.istore 7, 2) := by decide +kernel
theorem dX11_turnOrder_91 : decode cX11_turnOrder 91 = .ok (.aload_n 0, 1) := by decide +kernel
theorem dX11_turnOrder_92 : decode cX11_turnOrder 92 = .ok (.getfield 90, 3) := by decide +kernel
theorem dX11_turnOrder_95 : decode cX11_turnOrder 95 = .ok (.aload_n 0, 1) := by decide +kernel
theorem dX11_turnOrder_96 : decode cX11_turnOrder 96 = .ok (.getfield 26, 3) := by decide +kernel
theorem dX11_turnOrder_99 : decode cX11_turnOrder 99 = .ok (.getfield 135, 3) := by decide +kernel
theorem dX11_turnOrder_102 : decode cX11_turnOrder 102 = .ok (.invokestatic 336, 3) := by decide +kernel
theorem dX11_turnOrder_105 : decode cX11_turnOrder 105 = .ok (.istore 8, 2) := by decide +kernel
theorem dX11_turnOrder_107 : decode cX11_turnOrder 107 = .ok (.iload 7, 2) := by decide +kernel
theorem dX11_turnOrder_109 : decode cX11_turnOrder 109 = .ok (.iload 4, 2) := by decide +kernel
theorem dX11_turnOrder_111 : decode cX11_turnOrder 111 = .ok (.if_icmp .gt 16, 3) := by decide +kernel
theorem dX11_turnOrder_114 : decode cX11_turnOrder 114 = .ok (.iload 7, 2) := by decide +kernel
theorem dX11_turnOrder_116 : decode cX11_turnOrder 116 = .ok (.iload 4, 2) := by decide +kernel
theorem dX11_turnOrder_118 : decode cX11_turnOrder 118 = .ok (.if_icmp .ne 16, 3) := by decide +kernel
theorem dX11_turnOrder_121 : decode cX11_turnOrder 121 = .ok (.iload 8, 2) := by decide +kernel
theorem dX11_turnOrder_123 : decode cX11_turnOrder 123 = .ok (.iload_n 3, 1) := by decide +kernel
theorem dX11_turnOrder_124 : decode cX11_turnOrder 124 = .ok (.if_icmp .ge 10, 3) := by decide +kernel
theorem dX11_turnOrder_127 : decode cX11_turnOrder 127 = .ok (.iload 7, 2) := by decide +kernel
theorem dX11_turnOrder_129 : decode cX11_turnOrder 129 = .ok (.istore 4, 2) := by decide +kernel
theorem dX11_turnOrder_131 : decode cX11_turnOrder 131 = .ok (.iload 8, 2) := by decide +kernel
theorem dX11_turnOrder_133 : decode cX11_turnOrder 133 = .ok (.istore_n 3, 1) := by decide +kernel
theorem dX11_turnOrder_134 : decode cX11_turnOrder 134 = .ok (.aload_n 0, 1) := by decide +kernel
theorem dX11_turnOrder_135 : decode cX11_turnOrder 135 = .ok (.getfield 90, 3) := by decide +kernel
theorem dX11_turnOrder_138 : decode cX11_turnOrder 138 = .ok (.aload_n 0, 1) := by decide +kernel
theorem dX11_turnOrder_139 : decode cX11_turnOrder 139 = .ok (.getfield 26, 3) := by decide +kernel
theorem dX11_turnOrder_142 : decode cX11_turnOrder 142 = .ok (.getfield 135, 3) := by decide +kernel
theorem dX11_turnOrder_145 : decode cX11_turnOrder 145 = .ok (.invokestatic 340, 3) := by decide +kernel
theorem dX11_turnOrder_148 : decode cX11_turnOrder 148 = .ok (.istore 5, 2) := by decide +kernel
theorem dX11_turnOrder_150 : decode cX11_turnOrder 150 = .ok (.iinc 6 1, 3) := by decide +kernel
theorem dX11_turnOrder_153 : decode cX11_turnOrder 153 = .ok (.goto (-101), 3) := by decide +kernel
theorem dX11_turnOrder_156 : decode cX11_turnOrder 156 = .ok (.iload_n 1, 1) := by decide +kernel
theorem dX11_turnOrder_157 : decode cX11_turnOrder 157 = .ok (.ifCond .ne 7, 3) := by decide +kernel
theorem dX11_turnOrder_160 : decode cX11_turnOrder 160 = .ok (.iload_n 3, 1) := by decide +kernel
theorem dX11_turnOrder_161 : decode cX11_turnOrder 161 = .ok (.goto 5, 3) := by decide +kernel
theorem dX11_turnOrder_164 : decode cX11_turnOrder 164 = .ok (.iload 4, 2) := by decide +kernel
theorem dX11_turnOrder_166 : decode cX11_turnOrder 166 = .ok (.ireturn, 1) := by decide +kernel
theorem dX11_costOf_0 : decode cX11_costOf 0 = .ok (.aload_n 0, 1) := by decide +kernel
theorem dX11_costOf_1 : decode cX11_costOf 1 = .ok (.getfield 77, 3) := by decide +kernel
theorem dX11_costOf_4 : decode cX11_costOf 4 = .ok (.iload_n 1, 1) := by decide +kernel
theorem dX11_costOf_5 : decode cX11_costOf 5 = .ok (.invokevirtual 180, 3) := by decide +kernel
theorem dX11_costOf_8 : decode cX11_costOf 8 = .ok (.istore_n 2, 1) := by decide +kernel
theorem dX11_costOf_9 : decode cX11_costOf 9 = .ok (.aload_n 0, 1) := by decide +kernel
theorem dX11_costOf_10 : decode cX11_costOf 10 = .ok (.getfield 77, 3) := by decide +kernel
theorem dX11_costOf_13 : decode cX11_costOf 13 = .ok (.iload_n 1, 1) := by decide +kernel
theorem dX11_costOf_14 : decode cX11_costOf 14 = .ok (.aload_n 0, 1) := by decide +kernel
theorem dX11_costOf_15 : decode cX11_costOf 15 = .ok (.getfield 10, 3) := by decide +kernel
theorem dX11_costOf_18 : decode cX11_costOf 18 = .ok (.invokevirtual 186, 3) := by decide +kernel
theorem dX11_costOf_21 : decode cX11_costOf 21 = .ok (.istore_n 3, 1) := by decide +kernel
theorem dX11_costOf_22 : decode cX11_costOf 22 = .ok (.aload_n 0, 1) := by decide +kernel
theorem dX11_costOf_23 : decode cX11_costOf 23 = .ok (.getfield 77, 3) := by decide +kernel
theorem dX11_costOf_26 : decode cX11_costOf 26 = .ok (.iload_n 1, 1) := by decide +kernel
theorem dX11_costOf_27 : decode cX11_costOf 27 = .ok (.invokevirtual 343, 3) := by decide +kernel
theorem dX11_costOf_30 : decode cX11_costOf 30 = .ok (.istore 4, 2) := by decide +kernel
theorem dX11_costOf_32 : decode cX11_costOf 32 = .ok (.aload_n 0, 1) := by decide +kernel
theorem dX11_costOf_33 : decode cX11_costOf 33 = .ok (.getfield 26, 3) := by decide +kernel
theorem dX11_costOf_36 : decode cX11_costOf 36 = .ok (.iload_n 1, 1) := by decide +kernel
theorem dX11_costOf_37 : decode cX11_costOf 37 = .ok (.iload_n 2, 1) := by decide +kernel
theorem dX11_costOf_38 : decode cX11_costOf 38 = .ok (.iload_n 3, 1) := by decide +kernel
theorem dX11_costOf_39 : decode cX11_costOf 39 = .ok (.invokevirtual 190, 3) := by decide +kernel
theorem dX11_costOf_42 : decode cX11_costOf 42 = .ok (.ifCond .eq 5, 3) := by decide +kernel
theorem dX11_costOf_45 : decode cX11_costOf 45 = .ok (.iconst 0, 1) := by decide +kernel
theorem dX11_costOf_46 : decode cX11_costOf 46 = .ok (.ireturn, 1) := by decide +kernel
theorem dX11_costOf_47 : decode cX11_costOf 47 = .ok (.aload_n 0, 1) := by decide +kernel
theorem dX11_costOf_48 : decode cX11_costOf 48 = .ok (.getfield 45, 3) := by decide +kernel
theorem dX11_costOf_51 : decode cX11_costOf 51 = .ok (.aload_n 0, 1) := by decide +kernel
theorem dX11_costOf_52 : decode cX11_costOf 52 = .ok (.getfield 10, 3) := by decide +kernel
theorem dX11_costOf_55 : decode cX11_costOf 55 = .ok (.getfield 121, 3) := by decide +kernel
theorem dX11_costOf_58 : decode cX11_costOf 58 = .ok (.invokevirtual 156, 3) := by decide +kernel
theorem dX11_costOf_61 : decode cX11_costOf 61 = .ok (.aload_n 0, 1) := by decide +kernel
theorem dX11_costOf_62 : decode cX11_costOf 62 = .ok (.getfield 54, 3) := by decide +kernel
theorem dX11_costOf_65 : decode cX11_costOf 65 = .ok (.iload_n 3, 1) := by decide +kernel
theorem dX11_costOf_66 : decode cX11_costOf 66 = .ok (.iload_n 1, 1) := by decide +kernel
theorem dX11_costOf_67 : decode cX11_costOf 67 = .ok (.iload_n 2, 1) := by decide +kernel
theorem dX11_costOf_68 : decode cX11_costOf 68 = .ok (.invokevirtual 193, 3) := by decide +kernel
theorem dX11_costOf_71 : decode cX11_costOf 71 = .ok (.aload_n 0, 1) := by decide +kernel
theorem dX11_costOf_72 : decode cX11_costOf 72 = .ok (.getfield 54, 3) := by decide +kernel
theorem dX11_costOf_75 : decode cX11_costOf 75 = .ok (.iconst 0, 1) := by decide +kernel
theorem dX11_costOf_76 : decode cX11_costOf 76 = .ok (.iload_n 2, 1) := by decide +kernel
theorem dX11_costOf_77 : decode cX11_costOf 77 = .ok (.invokevirtual 215, 3) := by decide +kernel
theorem dX11_costOf_80 : decode cX11_costOf 80 = .ok (.istore 5, 2) := by decide +kernel
theorem dX11_costOf_82 : decode cX11_costOf 82 = .ok (.iconst 0, 1) := by decide +kernel
theorem dX11_costOf_83 : decode cX11_costOf 83 = .ok (.istore 6, 2) := by decide +kernel
theorem dX11_costOf_85 : decode cX11_costOf 85 = .ok (.iconst 0, 1) := by decide +kernel
theorem dX11_costOf_86 : decode cX11_costOf 86 = .ok (.istore 7, 2) := by decide +kernel
theorem dX11_costOf_88 : decode cX11_costOf 88 = .ok (.iload_n 3, 1) := by decide +kernel
theorem dX11_costOf_89 : decode cX11_costOf 89 = .ok (.iload 4, 2) := by decide +kernel
theorem dX11_costOf_91 : decode cX11_costOf 91 = .ok (.invokestatic 232, 3) := by decide +kernel
theorem dX11_costOf_94 : decode cX11_costOf 94 = .ok (.istore 8, 2) := by decide +kernel
theorem dX11_costOf_96 : decode cX11_costOf 96 = .ok (.iload_n 1, 1) := by decide +kernel
theorem dX11_costOf_97 : decode cX11_costOf 97 = .ok (.iconst 1, 1) := by decide +kernel
theorem dX11_costOf_98 : decode cX11_costOf 98 = .ok (.iadd, 1) := by decide +kernel
theorem dX11_costOf_99 : decode cX11_costOf 99 = .ok (.aload_n 0, 1) := by decide +kernel
theorem dX11_costOf_100 : decode cX11_costOf 100 = .ok (.getfield 26, 3) := by decide +kernel
theorem dX11_costOf_103 : decode cX11_costOf 103 = .ok (.getfield 143, 3) := by decide +kernel
theorem dX11_costOf_106 : decode cX11_costOf 106 = .ok (.if_icmp .ge 40, 3) := by decide +kernel
theorem dX11_costOf_109 : decode cX11_costOf 109 = .ok (.aload_n 0, 1) := by decide +kernel
theorem dX11_costOf_110 : decode cX11_costOf 110 = .ok (.getfield 54, 3) := by decide +kernel
theorem dX11_costOf_113 : decode cX11_costOf 113 = .ok (.iload 8, 2) := by decide +kernel
theorem dX11_costOf_115 : decode cX11_costOf 115 = .ok (.iload_n 1, 1) := by decide +kernel
theorem dX11_costOf_116 : decode cX11_costOf 116 = .ok (.iconst 1, 1) := by decide +kernel
theorem dX11_costOf_117 : decode cX11_costOf 117 = .ok (.iadd, 1) := by decide +kernel
theorem dX11_costOf_118 : decode cX11_costOf 118 = .ok (.iload_n 2, 1) := by decide +kernel
theorem dX11_costOf_119 : decode cX11_costOf 119 = .ok (.invokevirtual 193, 3) := by decide +kernel
theorem dX11_costOf_122 : decode cX11_costOf 122 = .ok (.aload_n 0, 1) := by decide +kernel
theorem dX11_costOf_123 : decode cX11_costOf 123 = .ok (.getfield 54, 3) := by decide +kernel
theorem dX11_costOf_126 : decode cX11_costOf 126 = .ok (.iconst 0, 1) := by decide +kernel
theorem dX11_costOf_127 : decode cX11_costOf 127 = .ok (.iload_n 2, 1) := by decide +kernel
theorem dX11_costOf_128 : decode cX11_costOf 128 = .ok (.iconst 1, 1) := by decide +kernel
theorem dX11_costOf_129 : decode cX11_costOf 129 = .ok (.iadd, 1) := by decide +kernel
theorem dX11_costOf_130 : decode cX11_costOf 130 = .ok (.invokevirtual 215, 3) := by decide +kernel
theorem dX11_costOf_133 : decode cX11_costOf 133 = .ok (.istore 6, 2) := by decide +kernel
theorem dX11_costOf_135 : decode cX11_costOf 135 = .ok (.aload_n 0, 1) := by decide +kernel
theorem dX11_costOf_136 : decode cX11_costOf 136 = .ok (.getfield 54, 3) := by decide +kernel
theorem dX11_costOf_139 : decode cX11_costOf 139 = .ok (.iconst 0, 1) := by decide +kernel
theorem dX11_costOf_140 : decode cX11_costOf 140 = .ok (.iload_n 2, 1) := by decide +kernel
theorem dX11_costOf_141 : decode cX11_costOf 141 = .ok (.invokevirtual 215, 3) := by decide +kernel
theorem dX11_costOf_144 : decode cX11_costOf 144 = .ok (.istore 7, 2) := by decide +kernel
theorem dX11_costOf_146 : decode cX11_costOf 146 = .ok (.aload_n 0, 1) := by decide +kernel
theorem dX11_costOf_147 : decode cX11_costOf 147 = .ok (.getfield 26, 3) := by decide +kernel
theorem dX11_costOf_150 : decode cX11_costOf 150 = .ok (.iload_n 2, 1) := by decide +kernel
theorem dX11_costOf_151 : decode cX11_costOf 151 = .ok (.invokevirtual 149, 3) := by decide +kernel
theorem dX11_costOf_154 : decode cX11_costOf 154 = .ok (.istore 9, 2) := by decide +kernel
theorem dX11_costOf_156 : decode cX11_costOf 156 = .ok (.iload_n 3, 1) := by decide +kernel
theorem dX11_costOf_157 : decode cX11_costOf 157 = .ok (.iload 4, 2) := by decide +kernel
theorem dX11_costOf_159 : decode cX11_costOf 159 = .ok (.invokestatic 346, 3) := by decide +kernel
theorem dX11_costOf_162 : decode cX11_costOf 162 = .ok (.istore 10, 2) := by decide +kernel
theorem dX11_costOf_164 : decode cX11_costOf 164 = .ok (.aload_n 0, 1) := by decide +kernel
theorem dX11_costOf_165 : decode cX11_costOf 165 = .ok (.getfield 45, 3) := by decide +kernel
theorem dX11_costOf_168 : decode cX11_costOf 168 = .ok (.iload 4, 2) := by decide +kernel
theorem dX11_costOf_170 : decode cX11_costOf 170 = .ok (.iload 9, 2) := by decide +kernel
theorem dX11_costOf_172 : decode cX11_costOf 172 = .ok (.iload 10, 2) := by decide +kernel
theorem dX11_costOf_174 : decode cX11_costOf 174 = .ok (.aload_n 0, 1) := by decide +kernel
theorem dX11_costOf_175 : decode cX11_costOf 175 = .ok (.getfield 77, 3) := by decide +kernel
theorem dX11_costOf_178 : decode cX11_costOf 178 = .ok (.iload_n 1, 1) := by decide +kernel
theorem dX11_costOf_179 : decode cX11_costOf 179 = .ok (.iload 4, 2) := by decide +kernel
theorem dX11_costOf_181 : decode cX11_costOf 181 = .ok (.aload_n 0, 1) := by decide +kernel
theorem dX11_costOf_182 : decode cX11_costOf 182 = .ok (.getfield 10, 3) := by decide +kernel
theorem dX11_costOf_185 : decode cX11_costOf 185 = .ok (.invokevirtual 349, 3) := by decide +kernel
theorem dX11_costOf_188 : decode cX11_costOf 188 = .ok (.iload_n 1, 1) := by decide +kernel
theorem dX11_costOf_189 : decode cX11_costOf 189 = .ok (.iload_n 2, 1) := by decide +kernel
theorem dX11_costOf_190 : decode cX11_costOf 190 = .ok (.invokevirtual 166, 3) := by decide +kernel
theorem dX11_costOf_193 : decode cX11_costOf 193 = .ok (.istore 11, 2) := by decide +kernel
theorem dX11_costOf_195 : decode cX11_costOf 195 = .ok (.aload_n 0, 1) := by decide +kernel
theorem dX11_costOf_196 : decode cX11_costOf 196 = .ok (.getfield 26, 3) := by decide +kernel
theorem dX11_costOf_199 : decode cX11_costOf 199 = .ok (.aload_n 0, 1) := by decide +kernel
theorem dX11_costOf_200 : decode cX11_costOf 200 = .ok (.getfield 45, 3) := by decide +kernel
theorem dX11_costOf_203 : decode cX11_costOf 203 = .ok (.iload 4, 2) := by decide +kernel
theorem dX11_costOf_205 : decode cX11_costOf 205 = .ok (.iload 9, 2) := by decide +kernel
theorem dX11_costOf_207 : decode cX11_costOf 207 = .ok (.iload 10, 2) := by decide +kernel
theorem dX11_costOf_209 : decode cX11_costOf 209 = .ok (.invokevirtual 160, 3) := by decide +kernel
theorem dX11_costOf_212 : decode cX11_costOf 212 = .ok (.iload 11, 2) := by decide +kernel
theorem dX11_costOf_214 : decode cX11_costOf 214 = .ok (.iload 6, 2) := by decide +kernel
theorem dX11_costOf_216 : decode cX11_costOf 216 = .ok (.iload 7, 2) := by decide +kernel
theorem dX11_costOf_218 : decode cX11_costOf 218 = .ok (.invokevirtual 353, 3) := by decide +kernel
theorem dX11_costOf_221 : decode cX11_costOf 221 = .ok (.iload 5, 2) := by decide +kernel
theorem dX11_costOf_223 : decode cX11_costOf 223 = .ok (.isub, 1) := by decide +kernel
theorem dX11_costOf_224 : decode cX11_costOf 224 = .ok (.ireturn, 1) := by decide +kernel
theorem dJ9_max_7cf53_0 : decode cJ9_max_7cf53 0 = .ok (.iload_n 0, 1) := by decide +kernel
theorem dJ9_max_7cf53_1 : decode cJ9_max_7cf53 1 = .ok (.iload_n 1, 1) := by decide +kernel
theorem dJ9_max_7cf53_2 : decode cJ9_max_7cf53 2 = .ok (.if_icmp .lt 7, 3) := by decide +kernel
theorem dJ9_max_7cf53_5 : decode cJ9_max_7cf53 5 = .ok (.iload_n 0, 1) := by decide +kernel
theorem dJ9_max_7cf53_6 : decode cJ9_max_7cf53 6 = .ok (.goto 4, 3) := by decide +kernel
theorem dJ9_max_7cf53_9 : decode cJ9_max_7cf53 9 = .ok (.iload_n 1, 1) := by decide +kernel
theorem dJ9_max_7cf53_10 : decode cJ9_max_7cf53 10 = .ok (.ireturn, 1) := by decide +kernel
theorem dJ9_min_7cf53_0 : decode cJ9_min_7cf53 0 = .ok (.iload_n 0, 1) := by decide +kernel
theorem dJ9_min_7cf53_1 : decode cJ9_min_7cf53 1 = .ok (.iload_n 1, 1) := by decide +kernel
theorem dJ9_min_7cf53_2 : decode cJ9_min_7cf53 2 = .ok (.if_icmp .gt 7, 3) := by decide +kernel
theorem dJ9_min_7cf53_5 : decode cJ9_min_7cf53 5 = .ok (.iload_n 0, 1) := by decide +kernel
theorem dJ9_min_7cf53_6 : decode cJ9_min_7cf53 6 = .ok (.goto 4, 3) := by decide +kernel
theorem dJ9_min_7cf53_9 : decode cJ9_min_7cf53 9 = .ok (.iload_n 1, 1) := by decide +kernel
theorem dJ9_min_7cf53_10 : decode cJ9_min_7cf53 10 = .ok (.ireturn, 1) := by decide +kernel
