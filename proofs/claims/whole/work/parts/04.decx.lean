/-! OWN DECODE ROWS, by program (wip/whole/gen/names.py) -/
theorem d_X_init_0 : decode b_X_init 0 = .ok (.aload_n 0, 1) := by decide +kernel
theorem d_X_init_1 : decode b_X_init 1 = .ok (.invokespecial 1, 3) := by decide +kernel
theorem d_X_init_4 : decode b_X_init 4 = .ok (.aload_n 0, 1) := by decide +kernel
theorem d_X_init_5 : decode b_X_init 5 = .ok (.new 7, 3) := by decide +kernel
theorem d_X_init_8 : decode b_X_init 8 = .ok (.dup, 1) := by decide +kernel
theorem d_X_init_9 : decode b_X_init 9 = .ok (.invokespecial 9, 3) := by decide +kernel
theorem d_X_init_12 : decode b_X_init 12 = .ok (.putfield 10, 3) := by decide +kernel
theorem d_X_init_15 : decode b_X_init 15 = .ok (.aload_n 0, 1) := by decide +kernel
theorem d_X_init_16 : decode b_X_init 16 = .ok (.new 16, 3) := by decide +kernel
theorem d_X_init_19 : decode b_X_init 19 = .ok (.dup, 1) := by decide +kernel
theorem d_X_init_20 : decode b_X_init 20 = .ok (.invokespecial 18, 3) := by decide +kernel
theorem d_X_init_23 : decode b_X_init 23 = .ok (.putfield 19, 3) := by decide +kernel
theorem d_X_init_26 : decode b_X_init 26 = .ok (.aload_n 0, 1) := by decide +kernel
theorem d_X_init_27 : decode b_X_init 27 = .ok (.iload_n 1, 1) := by decide +kernel
theorem d_X_init_28 : decode b_X_init 28 = .ok (.iconst 2, 1) := by decide +kernel
theorem d_X_init_29 : decode b_X_init 29 = .ok (.bipush 16, 2) := by decide +kernel
theorem d_X_init_31 : decode b_X_init 31 = .ok (.invokestatic 23, 3) := by decide +kernel
theorem d_X_init_34 : decode b_X_init 34 = .ok (.putfield 27, 3) := by decide +kernel
theorem d_X_init_37 : decode b_X_init 37 = .ok (.iconst 1, 1) := by decide +kernel
theorem d_X_init_38 : decode b_X_init 38 = .ok (.aload_n 0, 1) := by decide +kernel
theorem d_X_init_39 : decode b_X_init 39 = .ok (.getfield 27, 3) := by decide +kernel
theorem d_X_init_42 : decode b_X_init 42 = .ok (.ishl, 1) := by decide +kernel
theorem d_X_init_43 : decode b_X_init 43 = .ok (.iconst 1, 1) := by decide +kernel
theorem d_X_init_44 : decode b_X_init 44 = .ok (.isub, 1) := by decide +kernel
theorem d_X_init_45 : decode b_X_init 45 = .ok (.istore 4, 2) := by decide +kernel
theorem d_X_init_47 : decode b_X_init 47 = .ok (.aload_n 0, 1) := by decide +kernel
theorem d_X_init_48 : decode b_X_init 48 = .ok (.iload_n 2, 1) := by decide +kernel
theorem d_X_init_49 : decode b_X_init 49 = .ok (.iconst 0, 1) := by decide +kernel
theorem d_X_init_50 : decode b_X_init 50 = .ok (.sipush 255, 3) := by decide +kernel
theorem d_X_init_53 : decode b_X_init 53 = .ok (.iload 4, 2) := by decide +kernel
theorem d_X_init_55 : decode b_X_init 55 = .ok (.iconst 2, 1) := by decide +kernel
theorem d_X_init_56 : decode b_X_init 56 = .ok (.idiv, 1) := by decide +kernel
theorem d_X_init_57 : decode b_X_init 57 = .ok (.invokestatic 31, 3) := by decide +kernel
theorem d_X_init_60 : decode b_X_init 60 = .ok (.invokestatic 23, 3) := by decide +kernel
theorem d_X_init_63 : decode b_X_init 63 = .ok (.putfield 37, 3) := by decide +kernel
theorem d_X_init_66 : decode b_X_init 66 = .ok (.aload_n 0, 1) := by decide +kernel
theorem d_X_init_67 : decode b_X_init 67 = .ok (.iload 4, 2) := by decide +kernel
theorem d_X_init_69 : decode b_X_init 69 = .ok (.iconst 2, 1) := by decide +kernel
theorem d_X_init_70 : decode b_X_init 70 = .ok (.aload_n 0, 1) := by decide +kernel
theorem d_X_init_71 : decode b_X_init 71 = .ok (.getfield 37, 3) := by decide +kernel
theorem d_X_init_74 : decode b_X_init 74 = .ok (.imul, 1) := by decide +kernel
theorem d_X_init_75 : decode b_X_init 75 = .ok (.iadd, 1) := by decide +kernel
theorem d_X_init_76 : decode b_X_init 76 = .ok (.iconst 2, 1) := by decide +kernel
theorem d_X_init_77 : decode b_X_init 77 = .ok (.aload_n 0, 1) := by decide +kernel
theorem d_X_init_78 : decode b_X_init 78 = .ok (.getfield 37, 3) := by decide +kernel
theorem d_X_init_81 : decode b_X_init 81 = .ok (.imul, 1) := by decide +kernel
theorem d_X_init_82 : decode b_X_init 82 = .ok (.iconst 1, 1) := by decide +kernel
theorem d_X_init_83 : decode b_X_init 83 = .ok (.iadd, 1) := by decide +kernel
theorem d_X_init_84 : decode b_X_init 84 = .ok (.idiv, 1) := by decide +kernel
theorem d_X_init_85 : decode b_X_init 85 = .ok (.iconst 1, 1) := by decide +kernel
theorem d_X_init_86 : decode b_X_init 86 = .ok (.iadd, 1) := by decide +kernel
theorem d_X_init_87 : decode b_X_init 87 = .ok (.putfield 40, 3) := by decide +kernel
theorem d_X_init_90 : decode b_X_init 90 = .ok (.aload_n 0, 1) := by decide +kernel
theorem d_X_init_91 : decode b_X_init 91 = .ok (.aload_n 0, 1) := by decide +kernel
theorem d_X_init_92 : decode b_X_init 92 = .ok (.getfield 40, 3) := by decide +kernel
theorem d_X_init_95 : decode b_X_init 95 = .ok (.invokestatic 43, 3) := by decide +kernel
theorem d_X_init_98 : decode b_X_init 98 = .ok (.putfield 47, 3) := by decide +kernel
theorem d_X_init_101 : decode b_X_init 101 = .ok (.aload_n 0, 1) := by decide +kernel
theorem d_X_init_102 : decode b_X_init 102 = .ok (.iload_n 3, 1) := by decide +kernel
theorem d_X_init_103 : decode b_X_init 103 = .ok (.aload_n 0, 1) := by decide +kernel
theorem d_X_init_104 : decode b_X_init 104 = .ok (.getfield 47, 3) := by decide +kernel
theorem d_X_init_107 : decode b_X_init 107 = .ok (.bipush 18, 2) := by decide +kernel
theorem d_X_init_109 : decode b_X_init 109 = .ok (.iadd, 1) := by decide +kernel
theorem d_X_init_110 : decode b_X_init 110 = .ok (.sipush 200, 3) := by decide +kernel
theorem d_X_init_113 : decode b_X_init 113 = .ok (.invokestatic 23, 3) := by decide +kernel
theorem d_X_init_116 : decode b_X_init 116 = .ok (.putfield 50, 3) := by decide +kernel
theorem d_X_init_119 : decode b_X_init 119 = .ok (.iconst 2, 1) := by decide +kernel
theorem d_X_init_120 : decode b_X_init 120 = .ok (.aload_n 0, 1) := by decide +kernel
theorem d_X_init_121 : decode b_X_init 121 = .ok (.getfield 40, 3) := by decide +kernel
theorem d_X_init_124 : decode b_X_init 124 = .ok (.bipush 32, 2) := by decide +kernel
theorem d_X_init_126 : decode b_X_init 126 = .ok (.iadd, 1) := by decide +kernel
theorem d_X_init_127 : decode b_X_init 127 = .ok (.bipush 64, 2) := by decide +kernel
theorem d_X_init_129 : decode b_X_init 129 = .ok (.idiv, 1) := by decide +kernel
theorem d_X_init_130 : decode b_X_init 130 = .ok (.invokestatic 53, 3) := by decide +kernel
theorem d_X_init_133 : decode b_X_init 133 = .ok (.istore 5, 2) := by decide +kernel
theorem d_X_init_135 : decode b_X_init 135 = .ok (.aload_n 0, 1) := by decide +kernel
theorem d_X_init_136 : decode b_X_init 136 = .ok (.new 56, 3) := by decide +kernel
theorem d_X_init_139 : decode b_X_init 139 = .ok (.dup, 1) := by decide +kernel
theorem d_X_init_140 : decode b_X_init 140 = .ok (.iload 5, 2) := by decide +kernel
theorem d_X_init_142 : decode b_X_init 142 = .ok (.invokespecial 58, 3) := by decide +kernel
theorem d_X_init_145 : decode b_X_init 145 = .ok (.putfield 61, 3) := by decide +kernel
theorem d_X_init_148 : decode b_X_init 148 = .ok (.aload_n 0, 1) := by decide +kernel
theorem d_X_init_149 : decode b_X_init 149 = .ok (.new 56, 3) := by decide +kernel
theorem d_X_init_152 : decode b_X_init 152 = .ok (.dup, 1) := by decide +kernel
theorem d_X_init_153 : decode b_X_init 153 = .ok (.iload 5, 2) := by decide +kernel
theorem d_X_init_155 : decode b_X_init 155 = .ok (.invokespecial 58, 3) := by decide +kernel
theorem d_X_init_158 : decode b_X_init 158 = .ok (.putfield 65, 3) := by decide +kernel
theorem d_X_init_161 : decode b_X_init 161 = .ok (.return_, 1) := by decide +kernel
theorem d_X_nearest_0 : decode b_X_nearest 0 = .ok (.iload_n 1, 1) := by decide +kernel
theorem d_X_nearest_1 : decode b_X_nearest 1 = .ok (.iload_n 2, 1) := by decide +kernel
theorem d_X_nearest_2 : decode b_X_nearest 2 = .ok (.iload_n 0, 1) := by decide +kernel
theorem d_X_nearest_3 : decode b_X_nearest 3 = .ok (.invokestatic 31, 3) := by decide +kernel
theorem d_X_nearest_6 : decode b_X_nearest 6 = .ok (.invokestatic 53, 3) := by decide +kernel
theorem d_X_nearest_9 : decode b_X_nearest 9 = .ok (.ireturn, 1) := by decide +kernel
theorem d_X_bitsFor_0 : decode b_X_bitsFor 0 = .ok (.iconst 0, 1) := by decide +kernel
theorem d_X_bitsFor_1 : decode b_X_bitsFor 1 = .ok (.istore_n 1, 1) := by decide +kernel
theorem d_X_bitsFor_2 : decode b_X_bitsFor 2 = .ok (.iload_n 1, 1) := by decide +kernel
theorem d_X_bitsFor_3 : decode b_X_bitsFor 3 = .ok (.bipush 30, 2) := by decide +kernel
theorem d_X_bitsFor_5 : decode b_X_bitsFor 5 = .ok (.if_icmp .ge 16, 3) := by decide +kernel
theorem d_X_bitsFor_8 : decode b_X_bitsFor 8 = .ok (.iconst 1, 1) := by decide +kernel
theorem d_X_bitsFor_9 : decode b_X_bitsFor 9 = .ok (.iload_n 1, 1) := by decide +kernel
theorem d_X_bitsFor_10 : decode b_X_bitsFor 10 = .ok (.ishl, 1) := by decide +kernel
theorem d_X_bitsFor_11 : decode b_X_bitsFor 11 = .ok (.iload_n 0, 1) := by decide +kernel
theorem d_X_bitsFor_12 : decode b_X_bitsFor 12 = .ok (.if_icmp .ge 9, 3) := by decide +kernel
theorem d_X_bitsFor_15 : decode b_X_bitsFor 15 = .ok (.iinc 1 1, 3) := by decide +kernel
theorem d_X_bitsFor_18 : decode b_X_bitsFor 18 = .ok (.goto (-16), 3) := by decide +kernel
theorem d_X_bitsFor_21 : decode b_X_bitsFor 21 = .ok (.iload_n 1, 1) := by decide +kernel
theorem d_X_bitsFor_22 : decode b_X_bitsFor 22 = .ok (.ireturn, 1) := by decide +kernel
theorem d_X_size_0 : decode b_X_size 0 = .ok (.aload_n 0, 1) := by decide +kernel
theorem d_X_size_1 : decode b_X_size 1 = .ok (.getfield 10, 3) := by decide +kernel
theorem d_X_size_4 : decode b_X_size 4 = .ok (.getfield 153, 3) := by decide +kernel
theorem d_X_size_7 : decode b_X_size 7 = .ok (.ireturn, 1) := by decide +kernel
theorem d_X_wasEnded_0 : decode b_X_wasEnded 0 = .ok (.aload_n 0, 1) := by decide +kernel
theorem d_X_wasEnded_1 : decode b_X_wasEnded 1 = .ok (.getfield 196, 3) := by decide +kernel
theorem d_X_wasEnded_4 : decode b_X_wasEnded 4 = .ok (.ireturn, 1) := by decide +kernel
theorem d_X_waiting_0 : decode b_X_waiting 0 = .ok (.aload_n 0, 1) := by decide +kernel
theorem d_X_waiting_1 : decode b_X_waiting 1 = .ok (.getfield 19, 3) := by decide +kernel
theorem d_X_waiting_4 : decode b_X_waiting 4 = .ok (.getfield 176, 3) := by decide +kernel
theorem d_X_waiting_7 : decode b_X_waiting 7 = .ok (.ireturn, 1) := by decide +kernel
theorem d_X_step_0 : decode b_X_step 0 = .ok (.aload_n 0, 1) := by decide +kernel
theorem d_X_step_1 : decode b_X_step 1 = .ok (.iload_n 1, 1) := by decide +kernel
theorem d_X_step_2 : decode b_X_step 2 = .ok (.invokevirtual 206, 3) := by decide +kernel
theorem d_X_step_5 : decode b_X_step 5 = .ok (.getfield 99, 3) := by decide +kernel
theorem d_X_step_8 : decode b_X_step 8 = .ok (.ireturn, 1) := by decide +kernel
theorem d_X_sideOf_0 : decode b_X_sideOf 0 = .ok (.iload_n 1, 1) := by decide +kernel
theorem d_X_sideOf_1 : decode b_X_sideOf 1 = .ok (.ifCond .eq 10, 3) := by decide +kernel
theorem d_X_sideOf_4 : decode b_X_sideOf 4 = .ok (.aload_n 0, 1) := by decide +kernel
theorem d_X_sideOf_5 : decode b_X_sideOf 5 = .ok (.getfield 65, 3) := by decide +kernel
theorem d_X_sideOf_8 : decode b_X_sideOf 8 = .ok (.goto 7, 3) := by decide +kernel
theorem d_X_sideOf_11 : decode b_X_sideOf 11 = .ok (.aload_n 0, 1) := by decide +kernel
theorem d_X_sideOf_12 : decode b_X_sideOf 12 = .ok (.getfield 61, 3) := by decide +kernel
theorem d_X_sideOf_15 : decode b_X_sideOf 15 = .ok (.areturn, 1) := by decide +kernel
theorem d_X_told_0 : decode b_X_told 0 = .ok (.iload_n 1, 1) := by decide +kernel
theorem d_X_told_1 : decode b_X_told 1 = .ok (.tableswitch 60 0 4 #[35, 40, 45, 50, 55], 35) := by decide +kernel
theorem d_X_told_36 : decode b_X_told 36 = .ok (.aload_n 0, 1) := by decide +kernel
theorem d_X_told_37 : decode b_X_told 37 = .ok (.getfield 27, 3) := by decide +kernel
theorem d_X_told_40 : decode b_X_told 40 = .ok (.ireturn, 1) := by decide +kernel
theorem d_X_told_41 : decode b_X_told 41 = .ok (.aload_n 0, 1) := by decide +kernel
theorem d_X_told_42 : decode b_X_told 42 = .ok (.getfield 37, 3) := by decide +kernel
theorem d_X_told_45 : decode b_X_told 45 = .ok (.ireturn, 1) := by decide +kernel
theorem d_X_told_46 : decode b_X_told 46 = .ok (.aload_n 0, 1) := by decide +kernel
theorem d_X_told_47 : decode b_X_told 47 = .ok (.getfield 50, 3) := by decide +kernel
theorem d_X_told_50 : decode b_X_told 50 = .ok (.ireturn, 1) := by decide +kernel
theorem d_X_told_51 : decode b_X_told 51 = .ok (.aload_n 0, 1) := by decide +kernel
theorem d_X_told_52 : decode b_X_told 52 = .ok (.getfield 40, 3) := by decide +kernel
theorem d_X_told_55 : decode b_X_told 55 = .ok (.ireturn, 1) := by decide +kernel
theorem d_X_told_56 : decode b_X_told 56 = .ok (.aload_n 0, 1) := by decide +kernel
theorem d_X_told_57 : decode b_X_told 57 = .ok (.getfield 47, 3) := by decide +kernel
theorem d_X_told_60 : decode b_X_told 60 = .ok (.ireturn, 1) := by decide +kernel
theorem d_X_told_61 : decode b_X_told 61 = .ok (.bipush (-2), 2) := by decide +kernel
theorem d_X_told_63 : decode b_X_told 63 = .ok (.ireturn, 1) := by decide +kernel
theorem d_X_clear_0 : decode b_X_clear 0 = .ok (.aload_n 0, 1) := by decide +kernel
theorem d_X_clear_1 : decode b_X_clear 1 = .ok (.getfield 10, 3) := by decide +kernel
theorem d_X_clear_4 : decode b_X_clear 4 = .ok (.iconst 0, 1) := by decide +kernel
theorem d_X_clear_5 : decode b_X_clear 5 = .ok (.putfield 153, 3) := by decide +kernel
theorem d_X_clear_8 : decode b_X_clear 8 = .ok (.aload_n 0, 1) := by decide +kernel
theorem d_X_clear_9 : decode b_X_clear 9 = .ok (.getfield 19, 3) := by decide +kernel
theorem d_X_clear_12 : decode b_X_clear 12 = .ok (.aload_n 0, 1) := by decide +kernel
theorem d_X_clear_13 : decode b_X_clear 13 = .ok (.getfield 19, 3) := by decide +kernel
theorem d_X_clear_16 : decode b_X_clear 16 = .ok (.getfield 176, 3) := by decide +kernel
theorem d_X_clear_19 : decode b_X_clear 19 = .ok (.invokevirtual 186, 3) := by decide +kernel
theorem d_X_clear_22 : decode b_X_clear 22 = .ok (.aload_n 0, 1) := by decide +kernel
theorem d_X_clear_23 : decode b_X_clear 23 = .ok (.getfield 61, 3) := by decide +kernel
theorem d_X_clear_26 : decode b_X_clear 26 = .ok (.invokevirtual 221, 3) := by decide +kernel
theorem d_X_clear_29 : decode b_X_clear 29 = .ok (.aload_n 0, 1) := by decide +kernel
theorem d_X_clear_30 : decode b_X_clear 30 = .ok (.getfield 65, 3) := by decide +kernel
theorem d_X_clear_33 : decode b_X_clear 33 = .ok (.invokevirtual 221, 3) := by decide +kernel
theorem d_X_clear_36 : decode b_X_clear 36 = .ok (.aload_n 0, 1) := by decide +kernel
theorem d_X_clear_37 : decode b_X_clear 37 = .ok (.iconst 0, 1) := by decide +kernel
theorem d_X_clear_38 : decode b_X_clear 38 = .ok (.putfield 196, 3) := by decide +kernel
theorem d_X_clear_41 : decode b_X_clear 41 = .ok (.return_, 1) := by decide +kernel
theorem d_X_code_0 : decode b_X_code 0 = .ok (.iload_n 1, 1) := by decide +kernel
theorem d_X_code_1 : decode b_X_code 1 = .ok (.ifCond .lt 11, 3) := by decide +kernel
theorem d_X_code_4 : decode b_X_code 4 = .ok (.iload_n 1, 1) := by decide +kernel
theorem d_X_code_5 : decode b_X_code 5 = .ok (.aload_n 0, 1) := by decide +kernel
theorem d_X_code_6 : decode b_X_code 6 = .ok (.getfield 47, 3) := by decide +kernel
theorem d_X_code_9 : decode b_X_code 9 = .ok (.if_icmp .le 13, 3) := by decide +kernel
theorem d_X_code_12 : decode b_X_code 12 = .ok (.new 68, 3) := by decide +kernel
theorem d_X_code_15 : decode b_X_code 15 = .ok (.dup, 1) := by decide +kernel
theorem d_X_code_16 : decode b_X_code 16 = .ok (.ldc 70, 2) := by decide +kernel
theorem d_X_code_18 : decode b_X_code 18 = .ok (.invokespecial 72, 3) := by decide +kernel
theorem d_X_code_21 : decode b_X_code 21 = .ok (.athrow, 1) := by decide +kernel
theorem d_X_code_22 : decode b_X_code 22 = .ok (.iload_n 2, 1) := by decide +kernel
theorem d_X_code_23 : decode b_X_code 23 = .ok (.ifCond .lt 13, 3) := by decide +kernel
theorem d_X_code_26 : decode b_X_code 26 = .ok (.iload_n 2, 1) := by decide +kernel
theorem d_X_code_27 : decode b_X_code 27 = .ok (.iconst 1, 1) := by decide +kernel
theorem d_X_code_28 : decode b_X_code 28 = .ok (.aload_n 0, 1) := by decide +kernel
theorem d_X_code_29 : decode b_X_code 29 = .ok (.getfield 47, 3) := by decide +kernel
theorem d_X_code_32 : decode b_X_code 32 = .ok (.ishl, 1) := by decide +kernel
theorem d_X_code_33 : decode b_X_code 33 = .ok (.if_icmp .le 13, 3) := by decide +kernel
theorem d_X_code_36 : decode b_X_code 36 = .ok (.new 68, 3) := by decide +kernel
theorem d_X_code_39 : decode b_X_code 39 = .ok (.dup, 1) := by decide +kernel
theorem d_X_code_40 : decode b_X_code 40 = .ok (.ldc 75, 2) := by decide +kernel
theorem d_X_code_42 : decode b_X_code 42 = .ok (.invokespecial 72, 3) := by decide +kernel
theorem d_X_code_45 : decode b_X_code 45 = .ok (.athrow, 1) := by decide +kernel
theorem d_X_code_46 : decode b_X_code 46 = .ok (.aload_n 0, 1) := by decide +kernel
theorem d_X_code_47 : decode b_X_code 47 = .ok (.aload_n 0, 1) := by decide +kernel
theorem d_X_code_48 : decode b_X_code 48 = .ok (.getfield 50, 3) := by decide +kernel
theorem d_X_code_51 : decode b_X_code 51 = .ok (.invokevirtual 77, 3) := by decide +kernel
theorem d_X_code_54 : decode b_X_code 54 = .ok (.istore_n 3, 1) := by decide +kernel
theorem d_X_code_55 : decode b_X_code 55 = .ok (.aload_n 0, 1) := by decide +kernel
theorem d_X_code_56 : decode b_X_code 56 = .ok (.iload_n 1, 1) := by decide +kernel
theorem d_X_code_57 : decode b_X_code 57 = .ok (.iload_n 2, 1) := by decide +kernel
theorem d_X_code_58 : decode b_X_code 58 = .ok (.iload_n 3, 1) := by decide +kernel
theorem d_X_code_59 : decode b_X_code 59 = .ok (.invokevirtual 80, 3) := by decide +kernel
theorem d_X_code_62 : decode b_X_code 62 = .ok (.istore 4, 2) := by decide +kernel
theorem d_X_code_64 : decode b_X_code 64 = .ok (.aload_n 0, 1) := by decide +kernel
theorem d_X_code_65 : decode b_X_code 65 = .ok (.getfield 10, 3) := by decide +kernel
theorem d_X_code_68 : decode b_X_code 68 = .ok (.iload 4, 2) := by decide +kernel
theorem d_X_code_70 : decode b_X_code 70 = .ok (.invokevirtual 83, 3) := by decide +kernel
theorem d_X_code_73 : decode b_X_code 73 = .ok (.ifCond .ne 13, 3) := by decide +kernel
theorem d_X_code_76 : decode b_X_code 76 = .ok (.new 87, 3) := by decide +kernel
theorem d_X_code_79 : decode b_X_code 79 = .ok (.dup, 1) := by decide +kernel
theorem d_X_code_80 : decode b_X_code 80 = .ok (.ldc 89, 2) := by decide +kernel
theorem d_X_code_82 : decode b_X_code 82 = .ok (.invokespecial 91, 3) := by decide +kernel
theorem d_X_code_85 : decode b_X_code 85 = .ok (.athrow, 1) := by decide +kernel
theorem d_X_code_86 : decode b_X_code 86 = .ok (.aload_n 0, 1) := by decide +kernel
theorem d_X_code_87 : decode b_X_code 87 = .ok (.iload_n 1, 1) := by decide +kernel
theorem d_X_code_88 : decode b_X_code 88 = .ok (.iload_n 2, 1) := by decide +kernel
theorem d_X_code_89 : decode b_X_code 89 = .ok (.iload_n 3, 1) := by decide +kernel
theorem d_X_code_90 : decode b_X_code 90 = .ok (.invokevirtual 92, 3) := by decide +kernel
theorem d_X_code_93 : decode b_X_code 93 = .ok (.iload 4, 2) := by decide +kernel
theorem d_X_code_95 : decode b_X_code 95 = .ok (.ireturn, 1) := by decide +kernel
theorem d_X_mostZeros_0 : decode b_X_mostZeros 0 = .ok (.iload_n 1, 1) := by decide +kernel
theorem d_X_mostZeros_1 : decode b_X_mostZeros 1 = .ok (.aload_n 0, 1) := by decide +kernel
theorem d_X_mostZeros_2 : decode b_X_mostZeros 2 = .ok (.getfield 47, 3) := by decide +kernel
theorem d_X_mostZeros_5 : decode b_X_mostZeros 5 = .ok (.isub, 1) := by decide +kernel
theorem d_X_mostZeros_6 : decode b_X_mostZeros 6 = .ok (.iconst 1, 1) := by decide +kernel
theorem d_X_mostZeros_7 : decode b_X_mostZeros 7 = .ok (.isub, 1) := by decide +kernel
theorem d_X_mostZeros_8 : decode b_X_mostZeros 8 = .ok (.ireturn, 1) := by decide +kernel
theorem d_X_numberLength_0 : decode b_X_numberLength 0 = .ok (.iload_n 2, 1) := by decide +kernel
theorem d_X_numberLength_1 : decode b_X_numberLength 1 = .ok (.iload_n 1, 1) := by decide +kernel
theorem d_X_numberLength_2 : decode b_X_numberLength 2 = .ok (.ishr, 1) := by decide +kernel
theorem d_X_numberLength_3 : decode b_X_numberLength 3 = .ok (.istore 4, 2) := by decide +kernel
theorem d_X_numberLength_5 : decode b_X_numberLength 5 = .ok (.iload 4, 2) := by decide +kernel
theorem d_X_numberLength_7 : decode b_X_numberLength 7 = .ok (.iload_n 3, 1) := by decide +kernel
theorem d_X_numberLength_8 : decode b_X_numberLength 8 = .ok (.if_icmp .ge 12, 3) := by decide +kernel
theorem d_X_numberLength_11 : decode b_X_numberLength 11 = .ok (.iload 4, 2) := by decide +kernel
theorem d_X_numberLength_13 : decode b_X_numberLength 13 = .ok (.iconst 1, 1) := by decide +kernel
theorem d_X_numberLength_14 : decode b_X_numberLength 14 = .ok (.iadd, 1) := by decide +kernel
theorem d_X_numberLength_15 : decode b_X_numberLength 15 = .ok (.iload_n 1, 1) := by decide +kernel
theorem d_X_numberLength_16 : decode b_X_numberLength 16 = .ok (.iadd, 1) := by decide +kernel
theorem d_X_numberLength_17 : decode b_X_numberLength 17 = .ok (.goto 11, 3) := by decide +kernel
theorem d_X_numberLength_20 : decode b_X_numberLength 20 = .ok (.iload_n 3, 1) := by decide +kernel
theorem d_X_numberLength_21 : decode b_X_numberLength 21 = .ok (.iconst 1, 1) := by decide +kernel
theorem d_X_numberLength_22 : decode b_X_numberLength 22 = .ok (.iadd, 1) := by decide +kernel
theorem d_X_numberLength_23 : decode b_X_numberLength 23 = .ok (.aload_n 0, 1) := by decide +kernel
theorem d_X_numberLength_24 : decode b_X_numberLength 24 = .ok (.getfield 47, 3) := by decide +kernel
theorem d_X_numberLength_27 : decode b_X_numberLength 27 = .ok (.iadd, 1) := by decide +kernel
theorem d_X_numberLength_28 : decode b_X_numberLength 28 = .ok (.ireturn, 1) := by decide +kernel
theorem d_X_writeNumber_0 : decode b_X_writeNumber 0 = .ok (.iload_n 2, 1) := by decide +kernel
theorem d_X_writeNumber_1 : decode b_X_writeNumber 1 = .ok (.iload_n 1, 1) := by decide +kernel
theorem d_X_writeNumber_2 : decode b_X_writeNumber 2 = .ok (.ishr, 1) := by decide +kernel
theorem d_X_writeNumber_3 : decode b_X_writeNumber 3 = .ok (.istore 4, 2) := by decide +kernel
theorem d_X_writeNumber_5 : decode b_X_writeNumber 5 = .ok (.aload_n 0, 1) := by decide +kernel
theorem d_X_writeNumber_6 : decode b_X_writeNumber 6 = .ok (.getfield 10, 3) := by decide +kernel
theorem d_X_writeNumber_9 : decode b_X_writeNumber 9 = .ok (.iconst 0, 1) := by decide +kernel
theorem d_X_writeNumber_10 : decode b_X_writeNumber 10 = .ok (.iload 4, 2) := by decide +kernel
theorem d_X_writeNumber_12 : decode b_X_writeNumber 12 = .ok (.iload_n 3, 1) := by decide +kernel
theorem d_X_writeNumber_13 : decode b_X_writeNumber 13 = .ok (.invokestatic 31, 3) := by decide +kernel
theorem d_X_writeNumber_16 : decode b_X_writeNumber 16 = .ok (.invokevirtual 108, 3) := by decide +kernel
theorem d_X_writeNumber_19 : decode b_X_writeNumber 19 = .ok (.aload_n 0, 1) := by decide +kernel
theorem d_X_writeNumber_20 : decode b_X_writeNumber 20 = .ok (.getfield 10, 3) := by decide +kernel
theorem d_X_writeNumber_23 : decode b_X_writeNumber 23 = .ok (.iconst 1, 1) := by decide +kernel
theorem d_X_writeNumber_24 : decode b_X_writeNumber 24 = .ok (.iconst 1, 1) := by decide +kernel
theorem d_X_writeNumber_25 : decode b_X_writeNumber 25 = .ok (.invokevirtual 108, 3) := by decide +kernel
theorem d_X_writeNumber_28 : decode b_X_writeNumber 28 = .ok (.iload 4, 2) := by decide +kernel
theorem d_X_writeNumber_30 : decode b_X_writeNumber 30 = .ok (.iload_n 3, 1) := by decide +kernel
theorem d_X_writeNumber_31 : decode b_X_writeNumber 31 = .ok (.if_icmp .ge 15, 3) := by decide +kernel
theorem d_X_writeNumber_34 : decode b_X_writeNumber 34 = .ok (.aload_n 0, 1) := by decide +kernel
theorem d_X_writeNumber_35 : decode b_X_writeNumber 35 = .ok (.getfield 10, 3) := by decide +kernel
theorem d_X_writeNumber_38 : decode b_X_writeNumber 38 = .ok (.iload_n 2, 1) := by decide +kernel
theorem d_X_writeNumber_39 : decode b_X_writeNumber 39 = .ok (.iload_n 1, 1) := by decide +kernel
theorem d_X_writeNumber_40 : decode b_X_writeNumber 40 = .ok (.invokevirtual 112, 3) := by decide +kernel
theorem d_X_writeNumber_43 : decode b_X_writeNumber 43 = .ok (.goto 17, 3) := by decide +kernel
theorem d_X_writeNumber_46 : decode b_X_writeNumber 46 = .ok (.aload_n 0, 1) := by decide +kernel
theorem d_X_writeNumber_47 : decode b_X_writeNumber 47 = .ok (.getfield 10, 3) := by decide +kernel
theorem d_X_writeNumber_50 : decode b_X_writeNumber 50 = .ok (.iload_n 2, 1) := by decide +kernel
theorem d_X_writeNumber_51 : decode b_X_writeNumber 51 = .ok (.iconst 1, 1) := by decide +kernel
theorem d_X_writeNumber_52 : decode b_X_writeNumber 52 = .ok (.isub, 1) := by decide +kernel
theorem d_X_writeNumber_53 : decode b_X_writeNumber 53 = .ok (.aload_n 0, 1) := by decide +kernel
theorem d_X_writeNumber_54 : decode b_X_writeNumber 54 = .ok (.getfield 47, 3) := by decide +kernel
theorem d_X_writeNumber_57 : decode b_X_writeNumber 57 = .ok (.invokevirtual 112, 3) := by decide +kernel
theorem d_X_writeNumber_60 : decode b_X_writeNumber 60 = .ok (.return_, 1) := by decide +kernel
theorem d_X_run_0 : decode b_X_run 0 = .ok (.iload_n 1, 1) := by decide +kernel
theorem d_X_run_1 : decode b_X_run 1 = .ok (.ifCond .lt 9, 3) := by decide +kernel
theorem d_X_run_4 : decode b_X_run 4 = .ok (.iload_n 1, 1) := by decide +kernel
theorem d_X_run_5 : decode b_X_run 5 = .ok (.ldc 96, 2) := by decide +kernel
theorem d_X_run_7 : decode b_X_run 7 = .ok (.if_icmp .le 13, 3) := by decide +kernel
theorem d_X_run_10 : decode b_X_run 10 = .ok (.new 68, 3) := by decide +kernel
theorem d_X_run_13 : decode b_X_run 13 = .ok (.dup, 1) := by decide +kernel
theorem d_X_run_14 : decode b_X_run 14 = .ok (.ldc 97, 2) := by decide +kernel
theorem d_X_run_16 : decode b_X_run 16 = .ok (.invokespecial 72, 3) := by decide +kernel
theorem d_X_run_19 : decode b_X_run 19 = .ok (.athrow, 1) := by decide +kernel
theorem d_X_run_20 : decode b_X_run 20 = .ok (.iload_n 1, 1) := by decide +kernel
theorem d_X_run_21 : decode b_X_run 21 = .ok (.istore_n 3, 1) := by decide +kernel
theorem d_X_run_22 : decode b_X_run 22 = .ok (.aload_n 0, 1) := by decide +kernel
theorem d_X_run_23 : decode b_X_run 23 = .ok (.getfield 61, 3) := by decide +kernel
theorem d_X_run_26 : decode b_X_run 26 = .ok (.getfield 99, 3) := by decide +kernel
theorem d_X_run_29 : decode b_X_run 29 = .ok (.istore 4, 2) := by decide +kernel
theorem d_X_run_31 : decode b_X_run 31 = .ok (.iconst 0, 1) := by decide +kernel
theorem d_X_run_32 : decode b_X_run 32 = .ok (.istore 5, 2) := by decide +kernel
theorem d_X_run_34 : decode b_X_run 34 = .ok (.iload 5, 2) := by decide +kernel
theorem d_X_run_36 : decode b_X_run 36 = .ok (.ldc 96, 2) := by decide +kernel
theorem d_X_run_38 : decode b_X_run 38 = .ok (.if_icmp .ge 37, 3) := by decide +kernel
theorem d_X_run_41 : decode b_X_run 41 = .ok (.iload_n 3, 1) := by decide +kernel
theorem d_X_run_42 : decode b_X_run 42 = .ok (.iconst 1, 1) := by decide +kernel
theorem d_X_run_43 : decode b_X_run 43 = .ok (.iload 4, 2) := by decide +kernel
theorem d_X_run_45 : decode b_X_run 45 = .ok (.invokestatic 102, 3) := by decide +kernel
theorem d_X_run_48 : decode b_X_run 48 = .ok (.ishl, 1) := by decide +kernel
theorem d_X_run_49 : decode b_X_run 49 = .ok (.if_icmp .lt 26, 3) := by decide +kernel
theorem d_X_run_52 : decode b_X_run 52 = .ok (.iload_n 3, 1) := by decide +kernel
theorem d_X_run_53 : decode b_X_run 53 = .ok (.iconst 1, 1) := by decide +kernel
theorem d_X_run_54 : decode b_X_run 54 = .ok (.iload 4, 2) := by decide +kernel
theorem d_X_run_56 : decode b_X_run 56 = .ok (.invokestatic 102, 3) := by decide +kernel
theorem d_X_run_59 : decode b_X_run 59 = .ok (.ishl, 1) := by decide +kernel
theorem d_X_run_60 : decode b_X_run 60 = .ok (.isub, 1) := by decide +kernel
theorem d_X_run_61 : decode b_X_run 61 = .ok (.istore_n 3, 1) := by decide +kernel
theorem d_X_run_62 : decode b_X_run 62 = .ok (.iload 4, 2) := by decide +kernel
theorem d_X_run_64 : decode b_X_run 64 = .ok (.invokestatic 105, 3) := by decide +kernel
theorem d_X_run_67 : decode b_X_run 67 = .ok (.istore 4, 2) := by decide +kernel
theorem d_X_run_69 : decode b_X_run 69 = .ok (.iinc 5 1, 3) := by decide +kernel
theorem d_X_run_72 : decode b_X_run 72 = .ok (.goto (-38), 3) := by decide +kernel
theorem d_X_run_75 : decode b_X_run 75 = .ok (.iload 4, 2) := by decide +kernel
theorem d_X_run_77 : decode b_X_run 77 = .ok (.invokestatic 102, 3) := by decide +kernel
theorem d_X_run_80 : decode b_X_run 80 = .ok (.istore 6, 2) := by decide +kernel
theorem d_X_run_82 : decode b_X_run 82 = .ok (.iload_n 2, 1) := by decide +kernel
theorem d_X_run_83 : decode b_X_run 83 = .ok (.ifCond .eq 10, 3) := by decide +kernel
theorem d_X_run_86 : decode b_X_run 86 = .ok (.iload_n 3, 1) := by decide +kernel
theorem d_X_run_87 : decode b_X_run 87 = .ok (.ifCond .le 6, 3) := by decide +kernel
theorem d_X_run_90 : decode b_X_run 90 = .ok (.iinc 5 1, 3) := by decide +kernel
theorem d_X_run_93 : decode b_X_run 93 = .ok (.iload_n 2, 1) := by decide +kernel
theorem d_X_run_94 : decode b_X_run 94 = .ok (.ifCond .eq 8, 3) := by decide +kernel
theorem d_X_run_97 : decode b_X_run 97 = .ok (.iload 5, 2) := by decide +kernel
theorem d_X_run_99 : decode b_X_run 99 = .ok (.goto 10, 3) := by decide +kernel
theorem d_X_run_102 : decode b_X_run 102 = .ok (.iload 5, 2) := by decide +kernel
theorem d_X_run_104 : decode b_X_run 104 = .ok (.iconst 1, 1) := by decide +kernel
theorem d_X_run_105 : decode b_X_run 105 = .ok (.iadd, 1) := by decide +kernel
theorem d_X_run_106 : decode b_X_run 106 = .ok (.iload 6, 2) := by decide +kernel
theorem d_X_run_108 : decode b_X_run 108 = .ok (.iadd, 1) := by decide +kernel
theorem d_X_run_109 : decode b_X_run 109 = .ok (.istore 7, 2) := by decide +kernel
theorem d_X_run_111 : decode b_X_run 111 = .ok (.aload_n 0, 1) := by decide +kernel
theorem d_X_run_112 : decode b_X_run 112 = .ok (.getfield 10, 3) := by decide +kernel
theorem d_X_run_115 : decode b_X_run 115 = .ok (.iload 7, 2) := by decide +kernel
theorem d_X_run_117 : decode b_X_run 117 = .ok (.invokevirtual 83, 3) := by decide +kernel
theorem d_X_run_120 : decode b_X_run 120 = .ok (.ifCond .ne 13, 3) := by decide +kernel
theorem d_X_run_123 : decode b_X_run 123 = .ok (.new 87, 3) := by decide +kernel
theorem d_X_run_126 : decode b_X_run 126 = .ok (.dup, 1) := by decide +kernel
theorem d_X_run_127 : decode b_X_run 127 = .ok (.ldc 89, 2) := by decide +kernel
theorem d_X_run_129 : decode b_X_run 129 = .ok (.invokespecial 91, 3) := by decide +kernel
theorem d_X_run_132 : decode b_X_run 132 = .ok (.athrow, 1) := by decide +kernel
theorem d_X_run_133 : decode b_X_run 133 = .ok (.aload_n 0, 1) := by decide +kernel
theorem d_X_run_134 : decode b_X_run 134 = .ok (.getfield 10, 3) := by decide +kernel
theorem d_X_run_137 : decode b_X_run 137 = .ok (.iconst 1, 1) := by decide +kernel
theorem d_X_run_138 : decode b_X_run 138 = .ok (.iload 5, 2) := by decide +kernel
theorem d_X_run_140 : decode b_X_run 140 = .ok (.invokevirtual 108, 3) := by decide +kernel
theorem d_X_run_143 : decode b_X_run 143 = .ok (.iload_n 2, 1) := by decide +kernel
theorem d_X_run_144 : decode b_X_run 144 = .ok (.ifCond .ne 22, 3) := by decide +kernel
theorem d_X_run_147 : decode b_X_run 147 = .ok (.aload_n 0, 1) := by decide +kernel
theorem d_X_run_148 : decode b_X_run 148 = .ok (.getfield 10, 3) := by decide +kernel
theorem d_X_run_151 : decode b_X_run 151 = .ok (.iconst 0, 1) := by decide +kernel
theorem d_X_run_152 : decode b_X_run 152 = .ok (.iconst 1, 1) := by decide +kernel
theorem d_X_run_153 : decode b_X_run 153 = .ok (.invokevirtual 108, 3) := by decide +kernel
theorem d_X_run_156 : decode b_X_run 156 = .ok (.aload_n 0, 1) := by decide +kernel
theorem d_X_run_157 : decode b_X_run 157 = .ok (.getfield 10, 3) := by decide +kernel
theorem d_X_run_160 : decode b_X_run 160 = .ok (.iload_n 3, 1) := by decide +kernel
theorem d_X_run_161 : decode b_X_run 161 = .ok (.iload 6, 2) := by decide +kernel
theorem d_X_run_163 : decode b_X_run 163 = .ok (.invokevirtual 112, 3) := by decide +kernel
theorem d_X_run_166 : decode b_X_run 166 = .ok (.aload_n 0, 1) := by decide +kernel
theorem d_X_run_167 : decode b_X_run 167 = .ok (.getfield 61, 3) := by decide +kernel
theorem d_X_run_170 : decode b_X_run 170 = .ok (.iload 4, 2) := by decide +kernel
theorem d_X_run_172 : decode b_X_run 172 = .ok (.iload_n 2, 1) := by decide +kernel
theorem d_X_run_173 : decode b_X_run 173 = .ok (.ifCond .ne 7, 3) := by decide +kernel
theorem d_X_run_176 : decode b_X_run 176 = .ok (.iconst 1, 1) := by decide +kernel
theorem d_X_run_177 : decode b_X_run 177 = .ok (.goto 4, 3) := by decide +kernel
theorem d_X_run_180 : decode b_X_run 180 = .ok (.iconst 0, 1) := by decide +kernel
theorem d_X_run_181 : decode b_X_run 181 = .ok (.invokevirtual 115, 3) := by decide +kernel
theorem d_X_run_184 : decode b_X_run 184 = .ok (.iload 7, 2) := by decide +kernel
theorem d_X_run_186 : decode b_X_run 186 = .ok (.ireturn, 1) := by decide +kernel
theorem d_X_widthOf_0 : decode b_X_widthOf 0 = .ok (.iload_n 0, 1) := by decide +kernel
theorem d_X_widthOf_1 : decode b_X_widthOf 1 = .ok (.ifCond .lt 11, 3) := by decide +kernel
theorem d_X_widthOf_4 : decode b_X_widthOf 4 = .ok (.iload_n 0, 1) := by decide +kernel
theorem d_X_widthOf_5 : decode b_X_widthOf 5 = .ok (.getstatic 224, 3) := by decide +kernel
theorem d_X_widthOf_8 : decode b_X_widthOf 8 = .ok (.arraylength, 1) := by decide +kernel
theorem d_X_widthOf_9 : decode b_X_widthOf 9 = .ok (.if_icmp .lt 7, 3) := by decide +kernel
theorem d_X_widthOf_12 : decode b_X_widthOf 12 = .ok (.iconst 0, 1) := by decide +kernel
theorem d_X_widthOf_13 : decode b_X_widthOf 13 = .ok (.goto 8, 3) := by decide +kernel
theorem d_X_widthOf_16 : decode b_X_widthOf 16 = .ok (.getstatic 224, 3) := by decide +kernel
theorem d_X_widthOf_19 : decode b_X_widthOf 19 = .ok (.iload_n 0, 1) := by decide +kernel
theorem d_X_widthOf_20 : decode b_X_widthOf 20 = .ok (.iaload, 1) := by decide +kernel
theorem d_X_widthOf_21 : decode b_X_widthOf 21 = .ok (.ireturn, 1) := by decide +kernel
theorem d_X_stepAbove_0 : decode b_X_stepAbove 0 = .ok (.iload_n 0, 1) := by decide +kernel
theorem d_X_stepAbove_1 : decode b_X_stepAbove 1 = .ok (.iconst 1, 1) := by decide +kernel
theorem d_X_stepAbove_2 : decode b_X_stepAbove 2 = .ok (.iadd, 1) := by decide +kernel
theorem d_X_stepAbove_3 : decode b_X_stepAbove 3 = .ok (.getstatic 224, 3) := by decide +kernel
theorem d_X_stepAbove_6 : decode b_X_stepAbove 6 = .ok (.arraylength, 1) := by decide +kernel
theorem d_X_stepAbove_7 : decode b_X_stepAbove 7 = .ok (.iconst 1, 1) := by decide +kernel
theorem d_X_stepAbove_8 : decode b_X_stepAbove 8 = .ok (.isub, 1) := by decide +kernel
theorem d_X_stepAbove_9 : decode b_X_stepAbove 9 = .ok (.invokestatic 31, 3) := by decide +kernel
theorem d_X_stepAbove_12 : decode b_X_stepAbove 12 = .ok (.ireturn, 1) := by decide +kernel
theorem d_X_stepBelow_0 : decode b_X_stepBelow 0 = .ok (.iload_n 0, 1) := by decide +kernel
theorem d_X_stepBelow_1 : decode b_X_stepBelow 1 = .ok (.iconst 1, 1) := by decide +kernel
theorem d_X_stepBelow_2 : decode b_X_stepBelow 2 = .ok (.isub, 1) := by decide +kernel
theorem d_X_stepBelow_3 : decode b_X_stepBelow 3 = .ok (.iconst 0, 1) := by decide +kernel
theorem d_X_stepBelow_4 : decode b_X_stepBelow 4 = .ok (.invokestatic 53, 3) := by decide +kernel
theorem d_X_stepBelow_7 : decode b_X_stepBelow 7 = .ok (.ireturn, 1) := by decide +kernel
theorem d_X_interrupt_0 : decode b_X_interrupt 0 = .ok (.iload_n 1, 1) := by decide +kernel
theorem d_X_interrupt_1 : decode b_X_interrupt 1 = .ok (.invokestatic 119, 3) := by decide +kernel
theorem d_X_interrupt_4 : decode b_X_interrupt 4 = .ok (.ifCond .ne 13, 3) := by decide +kernel
theorem d_X_interrupt_7 : decode b_X_interrupt 7 = .ok (.new 122, 3) := by decide +kernel
theorem d_X_interrupt_10 : decode b_X_interrupt 10 = .ok (.dup, 1) := by decide +kernel
theorem d_X_interrupt_11 : decode b_X_interrupt 11 = .ok (.ldc 124, 2) := by decide +kernel
theorem d_X_interrupt_13 : decode b_X_interrupt 13 = .ok (.invokespecial 126, 3) := by decide +kernel
theorem d_X_interrupt_16 : decode b_X_interrupt 16 = .ok (.athrow, 1) := by decide +kernel
theorem d_X_interrupt_17 : decode b_X_interrupt 17 = .ok (.aload_n 0, 1) := by decide +kernel
theorem d_X_interrupt_18 : decode b_X_interrupt 18 = .ok (.iload_n 1, 1) := by decide +kernel
theorem d_X_interrupt_19 : decode b_X_interrupt 19 = .ok (.iload_n 2, 1) := by decide +kernel
theorem d_X_interrupt_20 : decode b_X_interrupt 20 = .ok (.invokevirtual 127, 3) := by decide +kernel
theorem d_X_interrupt_23 : decode b_X_interrupt 23 = .ok (.ifCond .ne 13, 3) := by decide +kernel
theorem d_X_interrupt_26 : decode b_X_interrupt 26 = .ok (.new 68, 3) := by decide +kernel
theorem d_X_interrupt_29 : decode b_X_interrupt 29 = .ok (.dup, 1) := by decide +kernel
theorem d_X_interrupt_30 : decode b_X_interrupt 30 = .ok (.ldc 131, 2) := by decide +kernel
theorem d_X_interrupt_32 : decode b_X_interrupt 32 = .ok (.invokespecial 72, 3) := by decide +kernel
theorem d_X_interrupt_35 : decode b_X_interrupt 35 = .ok (.athrow, 1) := by decide +kernel
theorem d_X_interrupt_36 : decode b_X_interrupt 36 = .ok (.aload_n 0, 1) := by decide +kernel
theorem d_X_interrupt_37 : decode b_X_interrupt 37 = .ok (.getfield 61, 3) := by decide +kernel
theorem d_X_interrupt_40 : decode b_X_interrupt 40 = .ok (.iload_n 1, 1) := by decide +kernel
theorem d_X_interrupt_41 : decode b_X_interrupt 41 = .ok (.invokevirtual 133, 3) := by decide +kernel
theorem d_X_interrupt_44 : decode b_X_interrupt 44 = .ok (.astore_n 3, 1) := by decide +kernel
theorem d_X_interrupt_45 : decode b_X_interrupt 45 = .ok (.aload_n 3, 1) := by decide +kernel
theorem d_X_interrupt_46 : decode b_X_interrupt 46 = .ok (.invokevirtual 137, 3) := by decide +kernel
theorem d_X_interrupt_49 : decode b_X_interrupt 49 = .ok (.istore 4, 2) := by decide +kernel
theorem d_X_interrupt_51 : decode b_X_interrupt 51 = .ok (.aload_n 3, 1) := by decide +kernel
theorem d_X_interrupt_52 : decode b_X_interrupt 52 = .ok (.iload_n 2, 1) := by decide +kernel
theorem d_X_interrupt_53 : decode b_X_interrupt 53 = .ok (.iload 4, 2) := by decide +kernel
theorem d_X_interrupt_55 : decode b_X_interrupt 55 = .ok (.invokevirtual 143, 3) := by decide +kernel
theorem d_X_interrupt_58 : decode b_X_interrupt 58 = .ok (.istore 5, 2) := by decide +kernel
theorem d_X_interrupt_60 : decode b_X_interrupt 60 = .ok (.aload_n 0, 1) := by decide +kernel
theorem d_X_interrupt_61 : decode b_X_interrupt 61 = .ok (.aload_n 0, 1) := by decide +kernel
theorem d_X_interrupt_62 : decode b_X_interrupt 62 = .ok (.aload_n 0, 1) := by decide +kernel
theorem d_X_interrupt_63 : decode b_X_interrupt 63 = .ok (.getfield 61, 3) := by decide +kernel
theorem d_X_interrupt_66 : decode b_X_interrupt 66 = .ok (.invokevirtual 146, 3) := by decide +kernel
theorem d_X_interrupt_69 : decode b_X_interrupt 69 = .ok (.invokevirtual 77, 3) := by decide +kernel
theorem d_X_interrupt_72 : decode b_X_interrupt 72 = .ok (.istore 6, 2) := by decide +kernel
theorem d_X_interrupt_74 : decode b_X_interrupt 74 = .ok (.aload_n 0, 1) := by decide +kernel
theorem d_X_interrupt_75 : decode b_X_interrupt 75 = .ok (.iload 4, 2) := by decide +kernel
theorem d_X_interrupt_77 : decode b_X_interrupt 77 = .ok (.iload 5, 2) := by decide +kernel
theorem d_X_interrupt_79 : decode b_X_interrupt 79 = .ok (.iload 6, 2) := by decide +kernel
theorem d_X_interrupt_81 : decode b_X_interrupt 81 = .ok (.invokevirtual 80, 3) := by decide +kernel
theorem d_X_interrupt_84 : decode b_X_interrupt 84 = .ok (.istore 7, 2) := by decide +kernel
theorem d_X_interrupt_86 : decode b_X_interrupt 86 = .ok (.aload_n 0, 1) := by decide +kernel
theorem d_X_interrupt_87 : decode b_X_interrupt 87 = .ok (.getfield 10, 3) := by decide +kernel
theorem d_X_interrupt_90 : decode b_X_interrupt 90 = .ok (.iload 7, 2) := by decide +kernel
theorem d_X_interrupt_92 : decode b_X_interrupt 92 = .ok (.invokevirtual 83, 3) := by decide +kernel
theorem d_X_interrupt_95 : decode b_X_interrupt 95 = .ok (.ifCond .ne 13, 3) := by decide +kernel
theorem d_X_interrupt_98 : decode b_X_interrupt 98 = .ok (.new 87, 3) := by decide +kernel
theorem d_X_interrupt_101 : decode b_X_interrupt 101 = .ok (.dup, 1) := by decide +kernel
theorem d_X_interrupt_102 : decode b_X_interrupt 102 = .ok (.ldc 89, 2) := by decide +kernel
theorem d_X_interrupt_104 : decode b_X_interrupt 104 = .ok (.invokespecial 91, 3) := by decide +kernel
theorem d_X_interrupt_107 : decode b_X_interrupt 107 = .ok (.athrow, 1) := by decide +kernel
theorem d_X_interrupt_108 : decode b_X_interrupt 108 = .ok (.aload_n 0, 1) := by decide +kernel
theorem d_X_interrupt_109 : decode b_X_interrupt 109 = .ok (.iload 4, 2) := by decide +kernel
theorem d_X_interrupt_111 : decode b_X_interrupt 111 = .ok (.iload 5, 2) := by decide +kernel
theorem d_X_interrupt_113 : decode b_X_interrupt 113 = .ok (.iload 6, 2) := by decide +kernel
theorem d_X_interrupt_115 : decode b_X_interrupt 115 = .ok (.invokevirtual 92, 3) := by decide +kernel
theorem d_X_interrupt_118 : decode b_X_interrupt 118 = .ok (.aload_n 3, 1) := by decide +kernel
theorem d_X_interrupt_119 : decode b_X_interrupt 119 = .ok (.iload_n 2, 1) := by decide +kernel
theorem d_X_interrupt_120 : decode b_X_interrupt 120 = .ok (.iload 5, 2) := by decide +kernel
theorem d_X_interrupt_122 : decode b_X_interrupt 122 = .ok (.invokevirtual 150, 3) := by decide +kernel
theorem d_X_interrupt_125 : decode b_X_interrupt 125 = .ok (.iload 7, 2) := by decide +kernel
theorem d_X_interrupt_127 : decode b_X_interrupt 127 = .ok (.ireturn, 1) := by decide +kernel
theorem d_X_isKind_0 : decode b_X_isKind 0 = .ok (.iload_n 0, 1) := by decide +kernel
theorem d_X_isKind_1 : decode b_X_isKind 1 = .ok (.ifCond .eq 8, 3) := by decide +kernel
theorem d_X_isKind_4 : decode b_X_isKind 4 = .ok (.iload_n 0, 1) := by decide +kernel
theorem d_X_isKind_5 : decode b_X_isKind 5 = .ok (.iconst 1, 1) := by decide +kernel
theorem d_X_isKind_6 : decode b_X_isKind 6 = .ok (.if_icmp .ne 7, 3) := by decide +kernel
theorem d_X_isKind_9 : decode b_X_isKind 9 = .ok (.iconst 1, 1) := by decide +kernel
theorem d_X_isKind_10 : decode b_X_isKind 10 = .ok (.goto 4, 3) := by decide +kernel
theorem d_X_isKind_13 : decode b_X_isKind 13 = .ok (.iconst 0, 1) := by decide +kernel
theorem d_X_isKind_14 : decode b_X_isKind 14 = .ok (.ireturn, 1) := by decide +kernel
theorem d_X_isError_0 : decode b_X_isError 0 = .ok (.aload_n 0, 1) := by decide +kernel
theorem d_X_isError_1 : decode b_X_isError 1 = .ok (.getfield 40, 3) := by decide +kernel
theorem d_X_isError_4 : decode b_X_isError 4 = .ok (.iconst 2, 1) := by decide +kernel
theorem d_X_isError_5 : decode b_X_isError 5 = .ok (.idiv, 1) := by decide +kernel
theorem d_X_isError_6 : decode b_X_isError 6 = .ok (.istore_n 3, 1) := by decide +kernel
theorem d_X_isError_7 : decode b_X_isError 7 = .ok (.iload_n 2, 1) := by decide +kernel
theorem d_X_isError_8 : decode b_X_isError 8 = .ok (.iload_n 3, 1) := by decide +kernel
theorem d_X_isError_9 : decode b_X_isError 9 = .ok (.ineg, 1) := by decide +kernel
theorem d_X_isError_10 : decode b_X_isError 10 = .ok (.if_icmp .lt 20, 3) := by decide +kernel
theorem d_X_isError_13 : decode b_X_isError 13 = .ok (.iload_n 2, 1) := by decide +kernel
theorem d_X_isError_14 : decode b_X_isError 14 = .ok (.iload_n 3, 1) := by decide +kernel
theorem d_X_isError_15 : decode b_X_isError 15 = .ok (.if_icmp .gt 15, 3) := by decide +kernel
theorem d_X_isError_18 : decode b_X_isError 18 = .ok (.iload_n 2, 1) := by decide +kernel
theorem d_X_isError_19 : decode b_X_isError 19 = .ok (.ifCond .ne 7, 3) := by decide +kernel
theorem d_X_isError_22 : decode b_X_isError 22 = .ok (.iload_n 1, 1) := by decide +kernel
theorem d_X_isError_23 : decode b_X_isError 23 = .ok (.ifCond .ne 7, 3) := by decide +kernel
theorem d_X_isError_26 : decode b_X_isError 26 = .ok (.iconst 1, 1) := by decide +kernel
theorem d_X_isError_27 : decode b_X_isError 27 = .ok (.goto 4, 3) := by decide +kernel
theorem d_X_isError_30 : decode b_X_isError 30 = .ok (.iconst 0, 1) := by decide +kernel
theorem d_X_isError_31 : decode b_X_isError 31 = .ok (.ireturn, 1) := by decide +kernel
theorem d_X_endLimit_0 : decode b_X_endLimit 0 = .ok (.aload_n 0, 1) := by decide +kernel
theorem d_X_endLimit_1 : decode b_X_endLimit 1 = .ok (.getfield 50, 3) := by decide +kernel
theorem d_X_endLimit_4 : decode b_X_endLimit 4 = .ok (.iconst 1, 1) := by decide +kernel
theorem d_X_endLimit_5 : decode b_X_endLimit 5 = .ok (.isub, 1) := by decide +kernel
theorem d_X_endLimit_6 : decode b_X_endLimit 6 = .ok (.aload_n 1, 1) := by decide +kernel
theorem d_X_endLimit_7 : decode b_X_endLimit 7 = .ok (.getfield 228, 3) := by decide +kernel
theorem d_X_endLimit_10 : decode b_X_endLimit 10 = .ok (.isub, 1) := by decide +kernel
theorem d_X_endLimit_11 : decode b_X_endLimit 11 = .ok (.ireturn, 1) := by decide +kernel
theorem d_X_bitAt_0 : decode b_X_bitAt 0 = .ok (.iload_n 1, 1) := by decide +kernel
theorem d_X_bitAt_1 : decode b_X_bitAt 1 = .ok (.ifCond .lt 14, 3) := by decide +kernel
theorem d_X_bitAt_4 : decode b_X_bitAt 4 = .ok (.iload_n 1, 1) := by decide +kernel
theorem d_X_bitAt_5 : decode b_X_bitAt 5 = .ok (.aload_n 0, 1) := by decide +kernel
theorem d_X_bitAt_6 : decode b_X_bitAt 6 = .ok (.getfield 10, 3) := by decide +kernel
theorem d_X_bitAt_9 : decode b_X_bitAt 9 = .ok (.getfield 153, 3) := by decide +kernel
theorem d_X_bitAt_12 : decode b_X_bitAt 12 = .ok (.if_icmp .lt 13, 3) := by decide +kernel
theorem d_X_bitAt_15 : decode b_X_bitAt 15 = .ok (.new 122, 3) := by decide +kernel
theorem d_X_bitAt_18 : decode b_X_bitAt 18 = .ok (.dup, 1) := by decide +kernel
theorem d_X_bitAt_19 : decode b_X_bitAt 19 = .ok (.ldc 156, 2) := by decide +kernel
theorem d_X_bitAt_21 : decode b_X_bitAt 21 = .ok (.invokespecial 126, 3) := by decide +kernel
theorem d_X_bitAt_24 : decode b_X_bitAt 24 = .ok (.athrow, 1) := by decide +kernel
theorem d_X_bitAt_25 : decode b_X_bitAt 25 = .ok (.aload_n 0, 1) := by decide +kernel
theorem d_X_bitAt_26 : decode b_X_bitAt 26 = .ok (.getfield 10, 3) := by decide +kernel
theorem d_X_bitAt_29 : decode b_X_bitAt 29 = .ok (.iload_n 1, 1) := by decide +kernel
theorem d_X_bitAt_30 : decode b_X_bitAt 30 = .ok (.invokevirtual 158, 3) := by decide +kernel
theorem d_X_bitAt_33 : decode b_X_bitAt 33 = .ok (.ireturn, 1) := by decide +kernel
theorem d_X_feed_0 : decode b_X_feed 0 = .ok (.iload_n 1, 1) := by decide +kernel
theorem d_X_feed_1 : decode b_X_feed 1 = .ok (.ifCond .eq 18, 3) := by decide +kernel
theorem d_X_feed_4 : decode b_X_feed 4 = .ok (.iload_n 1, 1) := by decide +kernel
theorem d_X_feed_5 : decode b_X_feed 5 = .ok (.iconst 1, 1) := by decide +kernel
theorem d_X_feed_6 : decode b_X_feed 6 = .ok (.if_icmp .eq 13, 3) := by decide +kernel
theorem d_X_feed_9 : decode b_X_feed 9 = .ok (.new 68, 3) := by decide +kernel
theorem d_X_feed_12 : decode b_X_feed 12 = .ok (.dup, 1) := by decide +kernel
theorem d_X_feed_13 : decode b_X_feed 13 = .ok (.ldc 161, 2) := by decide +kernel
theorem d_X_feed_15 : decode b_X_feed 15 = .ok (.invokespecial 72, 3) := by decide +kernel
theorem d_X_feed_18 : decode b_X_feed 18 = .ok (.athrow, 1) := by decide +kernel
theorem d_X_feed_19 : decode b_X_feed 19 = .ok (.aload_n 0, 1) := by decide +kernel
theorem d_X_feed_20 : decode b_X_feed 20 = .ok (.getfield 19, 3) := by decide +kernel
theorem d_X_feed_23 : decode b_X_feed 23 = .ok (.iload_n 1, 1) := by decide +kernel
theorem d_X_feed_24 : decode b_X_feed 24 = .ok (.invokevirtual 163, 3) := by decide +kernel
theorem d_X_feed_27 : decode b_X_feed 27 = .ok (.ireturn, 1) := by decide +kernel
theorem d_X_pass_0 : decode b_X_pass 0 = .ok (.iload_n 1, 1) := by decide +kernel
theorem d_X_pass_1 : decode b_X_pass 1 = .ok (.ifCond .lt 14, 3) := by decide +kernel
theorem d_X_pass_4 : decode b_X_pass 4 = .ok (.iload_n 1, 1) := by decide +kernel
theorem d_X_pass_5 : decode b_X_pass 5 = .ok (.aload_n 0, 1) := by decide +kernel
theorem d_X_pass_6 : decode b_X_pass 6 = .ok (.getfield 10, 3) := by decide +kernel
theorem d_X_pass_9 : decode b_X_pass 9 = .ok (.getfield 153, 3) := by decide +kernel
theorem d_X_pass_12 : decode b_X_pass 12 = .ok (.if_icmp .le 13, 3) := by decide +kernel
theorem d_X_pass_15 : decode b_X_pass 15 = .ok (.new 122, 3) := by decide +kernel
theorem d_X_pass_18 : decode b_X_pass 18 = .ok (.dup, 1) := by decide +kernel
theorem d_X_pass_19 : decode b_X_pass 19 = .ok (.ldc 156, 2) := by decide +kernel
theorem d_X_pass_21 : decode b_X_pass 21 = .ok (.invokespecial 126, 3) := by decide +kernel
theorem d_X_pass_24 : decode b_X_pass 24 = .ok (.athrow, 1) := by decide +kernel
theorem d_X_pass_25 : decode b_X_pass 25 = .ok (.iload_n 2, 1) := by decide +kernel
theorem d_X_pass_26 : decode b_X_pass 26 = .ok (.ifCond .ge 13, 3) := by decide +kernel
theorem d_X_pass_29 : decode b_X_pass 29 = .ok (.new 68, 3) := by decide +kernel
theorem d_X_pass_32 : decode b_X_pass 32 = .ok (.dup, 1) := by decide +kernel
theorem d_X_pass_33 : decode b_X_pass 33 = .ok (.ldc 166, 2) := by decide +kernel
theorem d_X_pass_35 : decode b_X_pass 35 = .ok (.invokespecial 72, 3) := by decide +kernel
theorem d_X_pass_38 : decode b_X_pass 38 = .ok (.athrow, 1) := by decide +kernel
theorem d_X_pass_39 : decode b_X_pass 39 = .ok (.iload_n 2, 1) := by decide +kernel
theorem d_X_pass_40 : decode b_X_pass 40 = .ok (.aload_n 0, 1) := by decide +kernel
theorem d_X_pass_41 : decode b_X_pass 41 = .ok (.getfield 10, 3) := by decide +kernel
theorem d_X_pass_44 : decode b_X_pass 44 = .ok (.getfield 153, 3) := by decide +kernel
theorem d_X_pass_47 : decode b_X_pass 47 = .ok (.iload_n 1, 1) := by decide +kernel
theorem d_X_pass_48 : decode b_X_pass 48 = .ok (.isub, 1) := by decide +kernel
theorem d_X_pass_49 : decode b_X_pass 49 = .ok (.aload_n 0, 1) := by decide +kernel
theorem d_X_pass_50 : decode b_X_pass 50 = .ok (.getfield 19, 3) := by decide +kernel
theorem d_X_pass_53 : decode b_X_pass 53 = .ok (.invokevirtual 168, 3) := by decide +kernel
theorem d_X_pass_56 : decode b_X_pass 56 = .ok (.invokestatic 31, 3) := by decide +kernel
theorem d_X_pass_59 : decode b_X_pass 59 = .ok (.invokestatic 31, 3) := by decide +kernel
theorem d_X_pass_62 : decode b_X_pass 62 = .ok (.istore_n 3, 1) := by decide +kernel
theorem d_X_pass_63 : decode b_X_pass 63 = .ok (.iconst 0, 1) := by decide +kernel
theorem d_X_pass_64 : decode b_X_pass 64 = .ok (.istore 4, 2) := by decide +kernel
theorem d_X_pass_66 : decode b_X_pass 66 = .ok (.iload 4, 2) := by decide +kernel
theorem d_X_pass_68 : decode b_X_pass 68 = .ok (.iload_n 3, 1) := by decide +kernel
theorem d_X_pass_69 : decode b_X_pass 69 = .ok (.if_icmp .ge 28, 3) := by decide +kernel
theorem d_X_pass_72 : decode b_X_pass 72 = .ok (.aload_n 0, 1) := by decide +kernel
theorem d_X_pass_73 : decode b_X_pass 73 = .ok (.getfield 19, 3) := by decide +kernel
theorem d_X_pass_76 : decode b_X_pass 76 = .ok (.aload_n 0, 1) := by decide +kernel
theorem d_X_pass_77 : decode b_X_pass 77 = .ok (.getfield 10, 3) := by decide +kernel
theorem d_X_pass_80 : decode b_X_pass 80 = .ok (.iload_n 1, 1) := by decide +kernel
theorem d_X_pass_81 : decode b_X_pass 81 = .ok (.iload 4, 2) := by decide +kernel
theorem d_X_pass_83 : decode b_X_pass 83 = .ok (.iadd, 1) := by decide +kernel
theorem d_X_pass_84 : decode b_X_pass 84 = .ok (.invokevirtual 158, 3) := by decide +kernel
theorem d_X_pass_87 : decode b_X_pass 87 = .ok (.invokevirtual 163, 3) := by decide +kernel
theorem d_X_pass_90 : decode b_X_pass 90 = .ok (.pop, 1) := by decide +kernel
theorem d_X_pass_91 : decode b_X_pass 91 = .ok (.iinc 4 1, 3) := by decide +kernel
theorem d_X_pass_94 : decode b_X_pass 94 = .ok (.goto (-28), 3) := by decide +kernel
theorem d_X_pass_97 : decode b_X_pass 97 = .ok (.iload_n 3, 1) := by decide +kernel
theorem d_X_pass_98 : decode b_X_pass 98 = .ok (.ireturn, 1) := by decide +kernel
theorem d_X_read_0 : decode b_X_read 0 = .ok (.iload_n 1, 1) := by decide +kernel
theorem d_X_read_1 : decode b_X_read 1 = .ok (.ifCond .lt 11, 3) := by decide +kernel
theorem d_X_read_4 : decode b_X_read 4 = .ok (.iload_n 1, 1) := by decide +kernel
theorem d_X_read_5 : decode b_X_read 5 = .ok (.aload_n 0, 1) := by decide +kernel
theorem d_X_read_6 : decode b_X_read 6 = .ok (.getfield 47, 3) := by decide +kernel
theorem d_X_read_9 : decode b_X_read 9 = .ok (.if_icmp .le 13, 3) := by decide +kernel
theorem d_X_read_12 : decode b_X_read 12 = .ok (.new 68, 3) := by decide +kernel
theorem d_X_read_15 : decode b_X_read 15 = .ok (.dup, 1) := by decide +kernel
theorem d_X_read_16 : decode b_X_read 16 = .ok (.ldc 70, 2) := by decide +kernel
theorem d_X_read_18 : decode b_X_read 18 = .ok (.invokespecial 72, 3) := by decide +kernel
theorem d_X_read_21 : decode b_X_read 21 = .ok (.athrow, 1) := by decide +kernel
theorem d_X_read_22 : decode b_X_read 22 = .ok (.aload_n 0, 1) := by decide +kernel
theorem d_X_read_23 : decode b_X_read 23 = .ok (.iload_n 1, 1) := by decide +kernel
theorem d_X_read_24 : decode b_X_read 24 = .ok (.aload_n 0, 1) := by decide +kernel
theorem d_X_read_25 : decode b_X_read 25 = .ok (.aload_n 0, 1) := by decide +kernel
theorem d_X_read_26 : decode b_X_read 26 = .ok (.getfield 50, 3) := by decide +kernel
theorem d_X_read_29 : decode b_X_read 29 = .ok (.invokevirtual 77, 3) := by decide +kernel
theorem d_X_read_32 : decode b_X_read 32 = .ok (.invokevirtual 171, 3) := by decide +kernel
theorem d_X_read_35 : decode b_X_read 35 = .ok (.ireturn, 1) := by decide +kernel
theorem d_X_takeNumber_0 : decode b_X_takeNumber 0 = .ok (.aload_n 0, 1) := by decide +kernel
theorem d_X_takeNumber_1 : decode b_X_takeNumber 1 = .ok (.getfield 19, 3) := by decide +kernel
theorem d_X_takeNumber_4 : decode b_X_takeNumber 4 = .ok (.iload_n 2, 1) := by decide +kernel
theorem d_X_takeNumber_5 : decode b_X_takeNumber 5 = .ok (.iconst 1, 1) := by decide +kernel
theorem d_X_takeNumber_6 : decode b_X_takeNumber 6 = .ok (.iadd, 1) := by decide +kernel
theorem d_X_takeNumber_7 : decode b_X_takeNumber 7 = .ok (.invokevirtual 231, 3) := by decide +kernel
theorem d_X_takeNumber_10 : decode b_X_takeNumber 10 = .ok (.istore_n 3, 1) := by decide +kernel
theorem d_X_takeNumber_11 : decode b_X_takeNumber 11 = .ok (.iload_n 3, 1) := by decide +kernel
theorem d_X_takeNumber_12 : decode b_X_takeNumber 12 = .ok (.iload_n 2, 1) := by decide +kernel
theorem d_X_takeNumber_13 : decode b_X_takeNumber 13 = .ok (.if_icmp .le 16, 3) := by decide +kernel
theorem d_X_takeNumber_16 : decode b_X_takeNumber 16 = .ok (.aload_n 0, 1) := by decide +kernel
theorem d_X_takeNumber_17 : decode b_X_takeNumber 17 = .ok (.getfield 19, 3) := by decide +kernel
theorem d_X_takeNumber_20 : decode b_X_takeNumber 20 = .ok (.iload_n 2, 1) := by decide +kernel
theorem d_X_takeNumber_21 : decode b_X_takeNumber 21 = .ok (.iconst 1, 1) := by decide +kernel
theorem d_X_takeNumber_22 : decode b_X_takeNumber 22 = .ok (.iadd, 1) := by decide +kernel
theorem d_X_takeNumber_23 : decode b_X_takeNumber 23 = .ok (.invokevirtual 186, 3) := by decide +kernel
theorem d_X_takeNumber_26 : decode b_X_takeNumber 26 = .ok (.bipush (-2), 2) := by decide +kernel
theorem d_X_takeNumber_28 : decode b_X_takeNumber 28 = .ok (.ireturn, 1) := by decide +kernel
theorem d_X_takeNumber_29 : decode b_X_takeNumber 29 = .ok (.iload_n 3, 1) := by decide +kernel
theorem d_X_takeNumber_30 : decode b_X_takeNumber 30 = .ok (.iload_n 2, 1) := by decide +kernel
theorem d_X_takeNumber_31 : decode b_X_takeNumber 31 = .ok (.if_icmp .ge 7, 3) := by decide +kernel
theorem d_X_takeNumber_34 : decode b_X_takeNumber 34 = .ok (.iload_n 1, 1) := by decide +kernel
theorem d_X_takeNumber_35 : decode b_X_takeNumber 35 = .ok (.goto 7, 3) := by decide +kernel
theorem d_X_takeNumber_38 : decode b_X_takeNumber 38 = .ok (.aload_n 0, 1) := by decide +kernel
theorem d_X_takeNumber_39 : decode b_X_takeNumber 39 = .ok (.getfield 47, 3) := by decide +kernel
theorem d_X_takeNumber_42 : decode b_X_takeNumber 42 = .ok (.istore 4, 2) := by decide +kernel
theorem d_X_takeNumber_44 : decode b_X_takeNumber 44 = .ok (.iload_n 3, 1) := by decide +kernel
theorem d_X_takeNumber_45 : decode b_X_takeNumber 45 = .ok (.iconst 1, 1) := by decide +kernel
theorem d_X_takeNumber_46 : decode b_X_takeNumber 46 = .ok (.iadd, 1) := by decide +kernel
theorem d_X_takeNumber_47 : decode b_X_takeNumber 47 = .ok (.iload 4, 2) := by decide +kernel
theorem d_X_takeNumber_49 : decode b_X_takeNumber 49 = .ok (.iadd, 1) := by decide +kernel
theorem d_X_takeNumber_50 : decode b_X_takeNumber 50 = .ok (.istore 5, 2) := by decide +kernel
theorem d_X_takeNumber_52 : decode b_X_takeNumber 52 = .ok (.iload 5, 2) := by decide +kernel
theorem d_X_takeNumber_54 : decode b_X_takeNumber 54 = .ok (.aload_n 0, 1) := by decide +kernel
theorem d_X_takeNumber_55 : decode b_X_takeNumber 55 = .ok (.getfield 19, 3) := by decide +kernel
theorem d_X_takeNumber_58 : decode b_X_takeNumber 58 = .ok (.getfield 176, 3) := by decide +kernel
theorem d_X_takeNumber_61 : decode b_X_takeNumber 61 = .ok (.if_icmp .le 5, 3) := by decide +kernel
theorem d_X_takeNumber_64 : decode b_X_takeNumber 64 = .ok (.iconst (-1), 1) := by decide +kernel
theorem d_X_takeNumber_65 : decode b_X_takeNumber 65 = .ok (.ireturn, 1) := by decide +kernel
theorem d_X_takeNumber_66 : decode b_X_takeNumber 66 = .ok (.aload_n 0, 1) := by decide +kernel
theorem d_X_takeNumber_67 : decode b_X_takeNumber 67 = .ok (.getfield 19, 3) := by decide +kernel
theorem d_X_takeNumber_70 : decode b_X_takeNumber 70 = .ok (.iload_n 3, 1) := by decide +kernel
theorem d_X_takeNumber_71 : decode b_X_takeNumber 71 = .ok (.iconst 1, 1) := by decide +kernel
theorem d_X_takeNumber_72 : decode b_X_takeNumber 72 = .ok (.iadd, 1) := by decide +kernel
theorem d_X_takeNumber_73 : decode b_X_takeNumber 73 = .ok (.iload 4, 2) := by decide +kernel
theorem d_X_takeNumber_75 : decode b_X_takeNumber 75 = .ok (.invokevirtual 234, 3) := by decide +kernel
theorem d_X_takeNumber_78 : decode b_X_takeNumber 78 = .ok (.istore 6, 2) := by decide +kernel
theorem d_X_takeNumber_80 : decode b_X_takeNumber 80 = .ok (.aload_n 0, 1) := by decide +kernel
theorem d_X_takeNumber_81 : decode b_X_takeNumber 81 = .ok (.getfield 19, 3) := by decide +kernel
theorem d_X_takeNumber_84 : decode b_X_takeNumber 84 = .ok (.iload 5, 2) := by decide +kernel
theorem d_X_takeNumber_86 : decode b_X_takeNumber 86 = .ok (.invokevirtual 186, 3) := by decide +kernel
theorem d_X_takeNumber_89 : decode b_X_takeNumber 89 = .ok (.iload_n 3, 1) := by decide +kernel
theorem d_X_takeNumber_90 : decode b_X_takeNumber 90 = .ok (.iload_n 2, 1) := by decide +kernel
theorem d_X_takeNumber_91 : decode b_X_takeNumber 91 = .ok (.if_icmp .ge 12, 3) := by decide +kernel
theorem d_X_takeNumber_94 : decode b_X_takeNumber 94 = .ok (.iload_n 3, 1) := by decide +kernel
theorem d_X_takeNumber_95 : decode b_X_takeNumber 95 = .ok (.iload_n 1, 1) := by decide +kernel
theorem d_X_takeNumber_96 : decode b_X_takeNumber 96 = .ok (.ishl, 1) := by decide +kernel
theorem d_X_takeNumber_97 : decode b_X_takeNumber 97 = .ok (.iload 6, 2) := by decide +kernel
theorem d_X_takeNumber_99 : decode b_X_takeNumber 99 = .ok (.iadd, 1) := by decide +kernel
theorem d_X_takeNumber_100 : decode b_X_takeNumber 100 = .ok (.goto 7, 3) := by decide +kernel
theorem d_X_takeNumber_103 : decode b_X_takeNumber 103 = .ok (.iload 6, 2) := by decide +kernel
theorem d_X_takeNumber_105 : decode b_X_takeNumber 105 = .ok (.iconst 1, 1) := by decide +kernel
theorem d_X_takeNumber_106 : decode b_X_takeNumber 106 = .ok (.iadd, 1) := by decide +kernel
theorem d_X_takeNumber_107 : decode b_X_takeNumber 107 = .ok (.ireturn, 1) := by decide +kernel
theorem d_X_readRun_0 : decode b_X_readRun 0 = .ok (.iload_n 1, 1) := by decide +kernel
theorem d_X_readRun_1 : decode b_X_readRun 1 = .ok (.iconst 1, 1) := by decide +kernel
theorem d_X_readRun_2 : decode b_X_readRun 2 = .ok (.if_icmp .lt 9, 3) := by decide +kernel
theorem d_X_readRun_5 : decode b_X_readRun 5 = .ok (.iload_n 1, 1) := by decide +kernel
theorem d_X_readRun_6 : decode b_X_readRun 6 = .ok (.ldc 96, 2) := by decide +kernel
theorem d_X_readRun_8 : decode b_X_readRun 8 = .ok (.if_icmp .le 13, 3) := by decide +kernel
theorem d_X_readRun_11 : decode b_X_readRun 11 = .ok (.new 68, 3) := by decide +kernel
theorem d_X_readRun_14 : decode b_X_readRun 14 = .ok (.dup, 1) := by decide +kernel
theorem d_X_readRun_15 : decode b_X_readRun 15 = .ok (.ldc 174, 2) := by decide +kernel
theorem d_X_readRun_17 : decode b_X_readRun 17 = .ok (.invokespecial 72, 3) := by decide +kernel
theorem d_X_readRun_20 : decode b_X_readRun 20 = .ok (.athrow, 1) := by decide +kernel
theorem d_X_readRun_21 : decode b_X_readRun 21 = .ok (.iload_n 1, 1) := by decide +kernel
theorem d_X_readRun_22 : decode b_X_readRun 22 = .ok (.istore_n 2, 1) := by decide +kernel
theorem d_X_readRun_23 : decode b_X_readRun 23 = .ok (.aload_n 0, 1) := by decide +kernel
theorem d_X_readRun_24 : decode b_X_readRun 24 = .ok (.getfield 65, 3) := by decide +kernel
theorem d_X_readRun_27 : decode b_X_readRun 27 = .ok (.getfield 99, 3) := by decide +kernel
theorem d_X_readRun_30 : decode b_X_readRun 30 = .ok (.istore_n 3, 1) := by decide +kernel
theorem d_X_readRun_31 : decode b_X_readRun 31 = .ok (.iconst 0, 1) := by decide +kernel
theorem d_X_readRun_32 : decode b_X_readRun 32 = .ok (.istore 4, 2) := by decide +kernel
theorem d_X_readRun_34 : decode b_X_readRun 34 = .ok (.iload 4, 2) := by decide +kernel
theorem d_X_readRun_36 : decode b_X_readRun 36 = .ok (.aload_n 0, 1) := by decide +kernel
theorem d_X_readRun_37 : decode b_X_readRun 37 = .ok (.getfield 19, 3) := by decide +kernel
theorem d_X_readRun_40 : decode b_X_readRun 40 = .ok (.getfield 176, 3) := by decide +kernel
theorem d_X_readRun_43 : decode b_X_readRun 43 = .ok (.if_icmp .ge 83, 3) := by decide +kernel
theorem d_X_readRun_46 : decode b_X_readRun 46 = .ok (.aload_n 0, 1) := by decide +kernel
theorem d_X_readRun_47 : decode b_X_readRun 47 = .ok (.getfield 19, 3) := by decide +kernel
theorem d_X_readRun_50 : decode b_X_readRun 50 = .ok (.iload 4, 2) := by decide +kernel
theorem d_X_readRun_52 : decode b_X_readRun 52 = .ok (.invokevirtual 179, 3) := by decide +kernel
theorem d_X_readRun_55 : decode b_X_readRun 55 = .ok (.ifCond .ne 13, 3) := by decide +kernel
theorem d_X_readRun_58 : decode b_X_readRun 58 = .ok (.aload_n 0, 1) := by decide +kernel
theorem d_X_readRun_59 : decode b_X_readRun 59 = .ok (.iload 4, 2) := by decide +kernel
theorem d_X_readRun_61 : decode b_X_readRun 61 = .ok (.iload_n 3, 1) := by decide +kernel
theorem d_X_readRun_62 : decode b_X_readRun 62 = .ok (.iload_n 1, 1) := by decide +kernel
theorem d_X_readRun_63 : decode b_X_readRun 63 = .ok (.iload_n 2, 1) := by decide +kernel
theorem d_X_readRun_64 : decode b_X_readRun 64 = .ok (.invokevirtual 182, 3) := by decide +kernel
theorem d_X_readRun_67 : decode b_X_readRun 67 = .ok (.ireturn, 1) := by decide +kernel
theorem d_X_readRun_68 : decode b_X_readRun 68 = .ok (.iconst 1, 1) := by decide +kernel
theorem d_X_readRun_69 : decode b_X_readRun 69 = .ok (.iload_n 3, 1) := by decide +kernel
theorem d_X_readRun_70 : decode b_X_readRun 70 = .ok (.invokestatic 102, 3) := by decide +kernel
theorem d_X_readRun_73 : decode b_X_readRun 73 = .ok (.ishl, 1) := by decide +kernel
theorem d_X_readRun_74 : decode b_X_readRun 74 = .ok (.istore 5, 2) := by decide +kernel
theorem d_X_readRun_76 : decode b_X_readRun 76 = .ok (.iload 5, 2) := by decide +kernel
theorem d_X_readRun_78 : decode b_X_readRun 78 = .ok (.iload_n 2, 1) := by decide +kernel
theorem d_X_readRun_79 : decode b_X_readRun 79 = .ok (.if_icmp .gt 16, 3) := by decide +kernel
theorem d_X_readRun_82 : decode b_X_readRun 82 = .ok (.iload_n 2, 1) := by decide +kernel
theorem d_X_readRun_83 : decode b_X_readRun 83 = .ok (.iload 5, 2) := by decide +kernel
theorem d_X_readRun_85 : decode b_X_readRun 85 = .ok (.isub, 1) := by decide +kernel
theorem d_X_readRun_86 : decode b_X_readRun 86 = .ok (.istore_n 2, 1) := by decide +kernel
theorem d_X_readRun_87 : decode b_X_readRun 87 = .ok (.iload_n 3, 1) := by decide +kernel
theorem d_X_readRun_88 : decode b_X_readRun 88 = .ok (.invokestatic 105, 3) := by decide +kernel
theorem d_X_readRun_91 : decode b_X_readRun 91 = .ok (.istore_n 3, 1) := by decide +kernel
theorem d_X_readRun_92 : decode b_X_readRun 92 = .ok (.goto 5, 3) := by decide +kernel
theorem d_X_readRun_95 : decode b_X_readRun 95 = .ok (.iconst 0, 1) := by decide +kernel
theorem d_X_readRun_96 : decode b_X_readRun 96 = .ok (.istore_n 2, 1) := by decide +kernel
theorem d_X_readRun_97 : decode b_X_readRun 97 = .ok (.iload_n 2, 1) := by decide +kernel
theorem d_X_readRun_98 : decode b_X_readRun 98 = .ok (.ifCond .ne 22, 3) := by decide +kernel
theorem d_X_readRun_101 : decode b_X_readRun 101 = .ok (.aload_n 0, 1) := by decide +kernel
theorem d_X_readRun_102 : decode b_X_readRun 102 = .ok (.getfield 19, 3) := by decide +kernel
theorem d_X_readRun_105 : decode b_X_readRun 105 = .ok (.iload 4, 2) := by decide +kernel
theorem d_X_readRun_107 : decode b_X_readRun 107 = .ok (.iconst 1, 1) := by decide +kernel
theorem d_X_readRun_108 : decode b_X_readRun 108 = .ok (.iadd, 1) := by decide +kernel
theorem d_X_readRun_109 : decode b_X_readRun 109 = .ok (.invokevirtual 186, 3) := by decide +kernel
theorem d_X_readRun_112 : decode b_X_readRun 112 = .ok (.aload_n 0, 1) := by decide +kernel
theorem d_X_readRun_113 : decode b_X_readRun 113 = .ok (.iload_n 3, 1) := by decide +kernel
theorem d_X_readRun_114 : decode b_X_readRun 114 = .ok (.iconst 0, 1) := by decide +kernel
theorem d_X_readRun_115 : decode b_X_readRun 115 = .ok (.invokevirtual 189, 3) := by decide +kernel
theorem d_X_readRun_118 : decode b_X_readRun 118 = .ok (.iload_n 1, 1) := by decide +kernel
theorem d_X_readRun_119 : decode b_X_readRun 119 = .ok (.ireturn, 1) := by decide +kernel
theorem d_X_readRun_120 : decode b_X_readRun 120 = .ok (.iinc 4 1, 3) := by decide +kernel
theorem d_X_readRun_123 : decode b_X_readRun 123 = .ok (.goto (-89), 3) := by decide +kernel
theorem d_X_readRun_126 : decode b_X_readRun 126 = .ok (.iconst (-1), 1) := by decide +kernel
theorem d_X_readRun_127 : decode b_X_readRun 127 = .ok (.ireturn, 1) := by decide +kernel
theorem d_X_takeBrokenRun_0 : decode b_X_takeBrokenRun 0 = .ok (.iload_n 2, 1) := by decide +kernel
theorem d_X_takeBrokenRun_1 : decode b_X_takeBrokenRun 1 = .ok (.invokestatic 102, 3) := by decide +kernel
theorem d_X_takeBrokenRun_4 : decode b_X_takeBrokenRun 4 = .ok (.istore 5, 2) := by decide +kernel
theorem d_X_takeBrokenRun_6 : decode b_X_takeBrokenRun 6 = .ok (.iload_n 1, 1) := by decide +kernel
theorem d_X_takeBrokenRun_7 : decode b_X_takeBrokenRun 7 = .ok (.iconst 1, 1) := by decide +kernel
theorem d_X_takeBrokenRun_8 : decode b_X_takeBrokenRun 8 = .ok (.iadd, 1) := by decide +kernel
theorem d_X_takeBrokenRun_9 : decode b_X_takeBrokenRun 9 = .ok (.iload 5, 2) := by decide +kernel
theorem d_X_takeBrokenRun_11 : decode b_X_takeBrokenRun 11 = .ok (.iadd, 1) := by decide +kernel
theorem d_X_takeBrokenRun_12 : decode b_X_takeBrokenRun 12 = .ok (.istore 6, 2) := by decide +kernel
theorem d_X_takeBrokenRun_14 : decode b_X_takeBrokenRun 14 = .ok (.iload 6, 2) := by decide +kernel
theorem d_X_takeBrokenRun_16 : decode b_X_takeBrokenRun 16 = .ok (.aload_n 0, 1) := by decide +kernel
theorem d_X_takeBrokenRun_17 : decode b_X_takeBrokenRun 17 = .ok (.getfield 19, 3) := by decide +kernel
theorem d_X_takeBrokenRun_20 : decode b_X_takeBrokenRun 20 = .ok (.getfield 176, 3) := by decide +kernel
theorem d_X_takeBrokenRun_23 : decode b_X_takeBrokenRun 23 = .ok (.if_icmp .le 5, 3) := by decide +kernel
theorem d_X_takeBrokenRun_26 : decode b_X_takeBrokenRun 26 = .ok (.iconst (-1), 1) := by decide +kernel
theorem d_X_takeBrokenRun_27 : decode b_X_takeBrokenRun 27 = .ok (.ireturn, 1) := by decide +kernel
theorem d_X_takeBrokenRun_28 : decode b_X_takeBrokenRun 28 = .ok (.aload_n 0, 1) := by decide +kernel
theorem d_X_takeBrokenRun_29 : decode b_X_takeBrokenRun 29 = .ok (.getfield 19, 3) := by decide +kernel
theorem d_X_takeBrokenRun_32 : decode b_X_takeBrokenRun 32 = .ok (.iload_n 1, 1) := by decide +kernel
theorem d_X_takeBrokenRun_33 : decode b_X_takeBrokenRun 33 = .ok (.iconst 1, 1) := by decide +kernel
theorem d_X_takeBrokenRun_34 : decode b_X_takeBrokenRun 34 = .ok (.iadd, 1) := by decide +kernel
theorem d_X_takeBrokenRun_35 : decode b_X_takeBrokenRun 35 = .ok (.iload 5, 2) := by decide +kernel
theorem d_X_takeBrokenRun_37 : decode b_X_takeBrokenRun 37 = .ok (.invokevirtual 234, 3) := by decide +kernel
theorem d_X_takeBrokenRun_40 : decode b_X_takeBrokenRun 40 = .ok (.istore 7, 2) := by decide +kernel
theorem d_X_takeBrokenRun_42 : decode b_X_takeBrokenRun 42 = .ok (.aload_n 0, 1) := by decide +kernel
theorem d_X_takeBrokenRun_43 : decode b_X_takeBrokenRun 43 = .ok (.getfield 19, 3) := by decide +kernel
theorem d_X_takeBrokenRun_46 : decode b_X_takeBrokenRun 46 = .ok (.iload 6, 2) := by decide +kernel
theorem d_X_takeBrokenRun_48 : decode b_X_takeBrokenRun 48 = .ok (.invokevirtual 186, 3) := by decide +kernel
theorem d_X_takeBrokenRun_51 : decode b_X_takeBrokenRun 51 = .ok (.iload 7, 2) := by decide +kernel
theorem d_X_takeBrokenRun_53 : decode b_X_takeBrokenRun 53 = .ok (.iload 4, 2) := by decide +kernel
theorem d_X_takeBrokenRun_55 : decode b_X_takeBrokenRun 55 = .ok (.if_icmp .lt 6, 3) := by decide +kernel
theorem d_X_takeBrokenRun_58 : decode b_X_takeBrokenRun 58 = .ok (.bipush (-2), 2) := by decide +kernel
theorem d_X_takeBrokenRun_60 : decode b_X_takeBrokenRun 60 = .ok (.ireturn, 1) := by decide +kernel
theorem d_X_takeBrokenRun_61 : decode b_X_takeBrokenRun 61 = .ok (.aload_n 0, 1) := by decide +kernel
theorem d_X_takeBrokenRun_62 : decode b_X_takeBrokenRun 62 = .ok (.iload_n 2, 1) := by decide +kernel
theorem d_X_takeBrokenRun_63 : decode b_X_takeBrokenRun 63 = .ok (.iconst 1, 1) := by decide +kernel
theorem d_X_takeBrokenRun_64 : decode b_X_takeBrokenRun 64 = .ok (.invokevirtual 189, 3) := by decide +kernel
theorem d_X_takeBrokenRun_67 : decode b_X_takeBrokenRun 67 = .ok (.iload_n 3, 1) := by decide +kernel
theorem d_X_takeBrokenRun_68 : decode b_X_takeBrokenRun 68 = .ok (.iload 4, 2) := by decide +kernel
theorem d_X_takeBrokenRun_70 : decode b_X_takeBrokenRun 70 = .ok (.isub, 1) := by decide +kernel
theorem d_X_takeBrokenRun_71 : decode b_X_takeBrokenRun 71 = .ok (.iload 7, 2) := by decide +kernel
theorem d_X_takeBrokenRun_73 : decode b_X_takeBrokenRun 73 = .ok (.iadd, 1) := by decide +kernel
theorem d_X_takeBrokenRun_74 : decode b_X_takeBrokenRun 74 = .ok (.ireturn, 1) := by decide +kernel
theorem d_X_endReadRun_0 : decode b_X_endReadRun 0 = .ok (.aload_n 0, 1) := by decide +kernel
theorem d_X_endReadRun_1 : decode b_X_endReadRun 1 = .ok (.getfield 65, 3) := by decide +kernel
theorem d_X_endReadRun_4 : decode b_X_endReadRun 4 = .ok (.iload_n 1, 1) := by decide +kernel
theorem d_X_endReadRun_5 : decode b_X_endReadRun 5 = .ok (.iload_n 2, 1) := by decide +kernel
theorem d_X_endReadRun_6 : decode b_X_endReadRun 6 = .ok (.invokevirtual 115, 3) := by decide +kernel
theorem d_X_endReadRun_9 : decode b_X_endReadRun 9 = .ok (.aload_n 0, 1) := by decide +kernel
theorem d_X_endReadRun_10 : decode b_X_endReadRun 10 = .ok (.iload_n 2, 1) := by decide +kernel
theorem d_X_endReadRun_11 : decode b_X_endReadRun 11 = .ok (.putfield 196, 3) := by decide +kernel
theorem d_X_endReadRun_14 : decode b_X_endReadRun 14 = .ok (.return_, 1) := by decide +kernel
theorem d_X_readInterrupt_0 : decode b_X_readInterrupt 0 = .ok (.iload_n 1, 1) := by decide +kernel
theorem d_X_readInterrupt_1 : decode b_X_readInterrupt 1 = .ok (.invokestatic 119, 3) := by decide +kernel
theorem d_X_readInterrupt_4 : decode b_X_readInterrupt 4 = .ok (.ifCond .ne 13, 3) := by decide +kernel
theorem d_X_readInterrupt_7 : decode b_X_readInterrupt 7 = .ok (.new 122, 3) := by decide +kernel
theorem d_X_readInterrupt_10 : decode b_X_readInterrupt 10 = .ok (.dup, 1) := by decide +kernel
theorem d_X_readInterrupt_11 : decode b_X_readInterrupt 11 = .ok (.ldc 124, 2) := by decide +kernel
theorem d_X_readInterrupt_13 : decode b_X_readInterrupt 13 = .ok (.invokespecial 126, 3) := by decide +kernel
theorem d_X_readInterrupt_16 : decode b_X_readInterrupt 16 = .ok (.athrow, 1) := by decide +kernel
theorem d_X_readInterrupt_17 : decode b_X_readInterrupt 17 = .ok (.aload_n 0, 1) := by decide +kernel
theorem d_X_readInterrupt_18 : decode b_X_readInterrupt 18 = .ok (.getfield 65, 3) := by decide +kernel
theorem d_X_readInterrupt_21 : decode b_X_readInterrupt 21 = .ok (.iload_n 1, 1) := by decide +kernel
theorem d_X_readInterrupt_22 : decode b_X_readInterrupt 22 = .ok (.invokevirtual 133, 3) := by decide +kernel
theorem d_X_readInterrupt_25 : decode b_X_readInterrupt 25 = .ok (.astore_n 2, 1) := by decide +kernel
theorem d_X_readInterrupt_26 : decode b_X_readInterrupt 26 = .ok (.aload_n 2, 1) := by decide +kernel
theorem d_X_readInterrupt_27 : decode b_X_readInterrupt 27 = .ok (.invokevirtual 137, 3) := by decide +kernel
theorem d_X_readInterrupt_30 : decode b_X_readInterrupt 30 = .ok (.istore_n 3, 1) := by decide +kernel
theorem d_X_readInterrupt_31 : decode b_X_readInterrupt 31 = .ok (.aload_n 0, 1) := by decide +kernel
theorem d_X_readInterrupt_32 : decode b_X_readInterrupt 32 = .ok (.iload_n 3, 1) := by decide +kernel
theorem d_X_readInterrupt_33 : decode b_X_readInterrupt 33 = .ok (.aload_n 0, 1) := by decide +kernel
theorem d_X_readInterrupt_34 : decode b_X_readInterrupt 34 = .ok (.aload_n 0, 1) := by decide +kernel
theorem d_X_readInterrupt_35 : decode b_X_readInterrupt 35 = .ok (.aload_n 0, 1) := by decide +kernel
theorem d_X_readInterrupt_36 : decode b_X_readInterrupt 36 = .ok (.getfield 65, 3) := by decide +kernel
theorem d_X_readInterrupt_39 : decode b_X_readInterrupt 39 = .ok (.invokevirtual 146, 3) := by decide +kernel
theorem d_X_readInterrupt_42 : decode b_X_readInterrupt 42 = .ok (.invokevirtual 77, 3) := by decide +kernel
theorem d_X_readInterrupt_45 : decode b_X_readInterrupt 45 = .ok (.invokevirtual 171, 3) := by decide +kernel
theorem d_X_readInterrupt_48 : decode b_X_readInterrupt 48 = .ok (.istore 4, 2) := by decide +kernel
theorem d_X_readInterrupt_50 : decode b_X_readInterrupt 50 = .ok (.iload 4, 2) := by decide +kernel
theorem d_X_readInterrupt_52 : decode b_X_readInterrupt 52 = .ok (.ifCond .ge 6, 3) := by decide +kernel
theorem d_X_readInterrupt_55 : decode b_X_readInterrupt 55 = .ok (.ldc 192, 2) := by decide +kernel
theorem d_X_readInterrupt_57 : decode b_X_readInterrupt 57 = .ok (.ireturn, 1) := by decide +kernel
theorem d_X_readInterrupt_58 : decode b_X_readInterrupt 58 = .ok (.aload_n 2, 1) := by decide +kernel
theorem d_X_readInterrupt_59 : decode b_X_readInterrupt 59 = .ok (.iload 4, 2) := by decide +kernel
theorem d_X_readInterrupt_61 : decode b_X_readInterrupt 61 = .ok (.iload_n 3, 1) := by decide +kernel
theorem d_X_readInterrupt_62 : decode b_X_readInterrupt 62 = .ok (.invokevirtual 193, 3) := by decide +kernel
theorem d_X_readInterrupt_65 : decode b_X_readInterrupt 65 = .ok (.istore 5, 2) := by decide +kernel
theorem d_X_readInterrupt_67 : decode b_X_readInterrupt 67 = .ok (.aload_n 0, 1) := by decide +kernel
theorem d_X_readInterrupt_68 : decode b_X_readInterrupt 68 = .ok (.iload_n 1, 1) := by decide +kernel
theorem d_X_readInterrupt_69 : decode b_X_readInterrupt 69 = .ok (.iload 5, 2) := by decide +kernel
theorem d_X_readInterrupt_71 : decode b_X_readInterrupt 71 = .ok (.invokevirtual 127, 3) := by decide +kernel
theorem d_X_readInterrupt_74 : decode b_X_readInterrupt 74 = .ok (.ifCond .ne 6, 3) := by decide +kernel
theorem d_X_readInterrupt_77 : decode b_X_readInterrupt 77 = .ok (.ldc 192, 2) := by decide +kernel
theorem d_X_readInterrupt_79 : decode b_X_readInterrupt 79 = .ok (.ireturn, 1) := by decide +kernel
theorem d_X_readInterrupt_80 : decode b_X_readInterrupt 80 = .ok (.aload_n 2, 1) := by decide +kernel
theorem d_X_readInterrupt_81 : decode b_X_readInterrupt 81 = .ok (.iload 5, 2) := by decide +kernel
theorem d_X_readInterrupt_83 : decode b_X_readInterrupt 83 = .ok (.iload 4, 2) := by decide +kernel
theorem d_X_readInterrupt_85 : decode b_X_readInterrupt 85 = .ok (.invokevirtual 150, 3) := by decide +kernel
theorem d_X_readInterrupt_88 : decode b_X_readInterrupt 88 = .ok (.iload 5, 2) := by decide +kernel
theorem d_X_readInterrupt_90 : decode b_X_readInterrupt 90 = .ok (.ireturn, 1) := by decide +kernel
theorem d_X_map_0 : decode b_X_map 0 = .ok (.iload_n 1, 1) := by decide +kernel
theorem d_X_map_1 : decode b_X_map 1 = .ok (.ldc 200, 2) := by decide +kernel
theorem d_X_map_3 : decode b_X_map 3 = .ok (.if_icmp .lt 9, 3) := by decide +kernel
theorem d_X_map_6 : decode b_X_map 6 = .ok (.iload_n 1, 1) := by decide +kernel
theorem d_X_map_7 : decode b_X_map 7 = .ok (.ldc 201, 2) := by decide +kernel
theorem d_X_map_9 : decode b_X_map 9 = .ok (.if_icmp .le 13, 3) := by decide +kernel
theorem d_X_map_12 : decode b_X_map 12 = .ok (.new 68, 3) := by decide +kernel
theorem d_X_map_15 : decode b_X_map 15 = .ok (.dup, 1) := by decide +kernel
theorem d_X_map_16 : decode b_X_map 16 = .ok (.ldc 202, 2) := by decide +kernel
theorem d_X_map_18 : decode b_X_map 18 = .ok (.invokespecial 72, 3) := by decide +kernel
theorem d_X_map_21 : decode b_X_map 21 = .ok (.athrow, 1) := by decide +kernel
theorem d_X_map_22 : decode b_X_map 22 = .ok (.iload_n 1, 1) := by decide +kernel
theorem d_X_map_23 : decode b_X_map 23 = .ok (.ifCond .ge 18, 3) := by decide +kernel
theorem d_X_map_26 : decode b_X_map 26 = .ok (.bipush (-2), 2) := by decide +kernel
theorem d_X_map_28 : decode b_X_map 28 = .ok (.iload_n 1, 1) := by decide +kernel
theorem d_X_map_29 : decode b_X_map 29 = .ok (.imul, 1) := by decide +kernel
theorem d_X_map_30 : decode b_X_map 30 = .ok (.iload_n 2, 1) := by decide +kernel
theorem d_X_map_31 : decode b_X_map 31 = .ok (.ifCond .eq 7, 3) := by decide +kernel
theorem d_X_map_34 : decode b_X_map 34 = .ok (.iconst 2, 1) := by decide +kernel
theorem d_X_map_35 : decode b_X_map 35 = .ok (.goto 4, 3) := by decide +kernel
theorem d_X_map_38 : decode b_X_map 38 = .ok (.iconst 1, 1) := by decide +kernel
theorem d_X_map_39 : decode b_X_map 39 = .ok (.isub, 1) := by decide +kernel
theorem d_X_map_40 : decode b_X_map 40 = .ok (.ireturn, 1) := by decide +kernel
theorem d_X_map_41 : decode b_X_map 41 = .ok (.iconst 2, 1) := by decide +kernel
theorem d_X_map_42 : decode b_X_map 42 = .ok (.iload_n 1, 1) := by decide +kernel
theorem d_X_map_43 : decode b_X_map 43 = .ok (.imul, 1) := by decide +kernel
theorem d_X_map_44 : decode b_X_map 44 = .ok (.iload_n 2, 1) := by decide +kernel
theorem d_X_map_45 : decode b_X_map 45 = .ok (.ifCond .eq 7, 3) := by decide +kernel
theorem d_X_map_48 : decode b_X_map 48 = .ok (.iconst 1, 1) := by decide +kernel
theorem d_X_map_49 : decode b_X_map 49 = .ok (.goto 4, 3) := by decide +kernel
theorem d_X_map_52 : decode b_X_map 52 = .ok (.iconst 0, 1) := by decide +kernel
theorem d_X_map_53 : decode b_X_map 53 = .ok (.iadd, 1) := by decide +kernel
theorem d_X_map_54 : decode b_X_map 54 = .ok (.ireturn, 1) := by decide +kernel
theorem d_X_unmap_0 : decode b_X_unmap 0 = .ok (.iload_n 1, 1) := by decide +kernel
theorem d_X_unmap_1 : decode b_X_unmap 1 = .ok (.iconst 2, 1) := by decide +kernel
theorem d_X_unmap_2 : decode b_X_unmap 2 = .ok (.irem, 1) := by decide +kernel
theorem d_X_unmap_3 : decode b_X_unmap 3 = .ok (.ifCond .eq 7, 3) := by decide +kernel
theorem d_X_unmap_6 : decode b_X_unmap 6 = .ok (.iconst 1, 1) := by decide +kernel
theorem d_X_unmap_7 : decode b_X_unmap 7 = .ok (.goto 4, 3) := by decide +kernel
theorem d_X_unmap_10 : decode b_X_unmap 10 = .ok (.iconst 0, 1) := by decide +kernel
theorem d_X_unmap_11 : decode b_X_unmap 11 = .ok (.istore_n 3, 1) := by decide +kernel
theorem d_X_unmap_12 : decode b_X_unmap 12 = .ok (.iload_n 3, 1) := by decide +kernel
theorem d_X_unmap_13 : decode b_X_unmap 13 = .ok (.iload_n 2, 1) := by decide +kernel
theorem d_X_unmap_14 : decode b_X_unmap 14 = .ok (.if_icmp .eq 7, 3) := by decide +kernel
theorem d_X_unmap_17 : decode b_X_unmap 17 = .ok (.iconst 1, 1) := by decide +kernel
theorem d_X_unmap_18 : decode b_X_unmap 18 = .ok (.goto 4, 3) := by decide +kernel
theorem d_X_unmap_21 : decode b_X_unmap 21 = .ok (.iconst 0, 1) := by decide +kernel
theorem d_X_unmap_22 : decode b_X_unmap 22 = .ok (.istore 4, 2) := by decide +kernel
theorem d_X_unmap_24 : decode b_X_unmap 24 = .ok (.iload_n 1, 1) := by decide +kernel
theorem d_X_unmap_25 : decode b_X_unmap 25 = .ok (.iconst 2, 1) := by decide +kernel
theorem d_X_unmap_26 : decode b_X_unmap 26 = .ok (.idiv, 1) := by decide +kernel
theorem d_X_unmap_27 : decode b_X_unmap 27 = .ok (.iload 4, 2) := by decide +kernel
theorem d_X_unmap_29 : decode b_X_unmap 29 = .ok (.ifCond .eq 7, 3) := by decide +kernel
theorem d_X_unmap_32 : decode b_X_unmap 32 = .ok (.iconst 1, 1) := by decide +kernel
theorem d_X_unmap_33 : decode b_X_unmap 33 = .ok (.goto 4, 3) := by decide +kernel
theorem d_X_unmap_36 : decode b_X_unmap 36 = .ok (.iconst 0, 1) := by decide +kernel
theorem d_X_unmap_37 : decode b_X_unmap 37 = .ok (.iadd, 1) := by decide +kernel
theorem d_X_unmap_38 : decode b_X_unmap 38 = .ok (.istore 5, 2) := by decide +kernel
theorem d_X_unmap_40 : decode b_X_unmap 40 = .ok (.iload_n 1, 1) := by decide +kernel
theorem d_X_unmap_41 : decode b_X_unmap 41 = .ok (.ifCond .lt 10, 3) := by decide +kernel
theorem d_X_unmap_44 : decode b_X_unmap 44 = .ok (.iload 5, 2) := by decide +kernel
theorem d_X_unmap_46 : decode b_X_unmap 46 = .ok (.ldc 201, 2) := by decide +kernel
theorem d_X_unmap_48 : decode b_X_unmap 48 = .ok (.if_icmp .le 13, 3) := by decide +kernel
theorem d_X_unmap_51 : decode b_X_unmap 51 = .ok (.new 68, 3) := by decide +kernel
theorem d_X_unmap_54 : decode b_X_unmap 54 = .ok (.dup, 1) := by decide +kernel
theorem d_X_unmap_55 : decode b_X_unmap 55 = .ok (.ldc 204, 2) := by decide +kernel
theorem d_X_unmap_57 : decode b_X_unmap 57 = .ok (.invokespecial 72, 3) := by decide +kernel
theorem d_X_unmap_60 : decode b_X_unmap 60 = .ok (.athrow, 1) := by decide +kernel
theorem d_X_unmap_61 : decode b_X_unmap 61 = .ok (.iload 4, 2) := by decide +kernel
theorem d_X_unmap_63 : decode b_X_unmap 63 = .ok (.ifCond .eq 9, 3) := by decide +kernel
theorem d_X_unmap_66 : decode b_X_unmap 66 = .ok (.iload 5, 2) := by decide +kernel
theorem d_X_unmap_68 : decode b_X_unmap 68 = .ok (.ineg, 1) := by decide +kernel
theorem d_X_unmap_69 : decode b_X_unmap 69 = .ok (.goto 5, 3) := by decide +kernel
theorem d_X_unmap_72 : decode b_X_unmap 72 = .ok (.iload 5, 2) := by decide +kernel
theorem d_X_unmap_74 : decode b_X_unmap 74 = .ok (.ireturn, 1) := by decide +kernel
theorem d_X_state_0 : decode b_X_state 0 = .ok (.iload_n 2, 1) := by decide +kernel
theorem d_X_state_1 : decode b_X_state 1 = .ok (.invokestatic 119, 3) := by decide +kernel
theorem d_X_state_4 : decode b_X_state 4 = .ok (.ifCond .ne 13, 3) := by decide +kernel
theorem d_X_state_7 : decode b_X_state 7 = .ok (.new 122, 3) := by decide +kernel
theorem d_X_state_10 : decode b_X_state 10 = .ok (.dup, 1) := by decide +kernel
theorem d_X_state_11 : decode b_X_state 11 = .ok (.ldc 124, 2) := by decide +kernel
theorem d_X_state_13 : decode b_X_state 13 = .ok (.invokespecial 126, 3) := by decide +kernel
theorem d_X_state_16 : decode b_X_state 16 = .ok (.athrow, 1) := by decide +kernel
theorem d_X_state_17 : decode b_X_state 17 = .ok (.aload_n 0, 1) := by decide +kernel
theorem d_X_state_18 : decode b_X_state 18 = .ok (.iload_n 1, 1) := by decide +kernel
theorem d_X_state_19 : decode b_X_state 19 = .ok (.invokevirtual 206, 3) := by decide +kernel
theorem d_X_state_22 : decode b_X_state 22 = .ok (.iload_n 2, 1) := by decide +kernel
theorem d_X_state_23 : decode b_X_state 23 = .ok (.invokevirtual 133, 3) := by decide +kernel
theorem d_X_state_26 : decode b_X_state 26 = .ok (.astore 4, 2) := by decide +kernel
theorem d_X_state_28 : decode b_X_state 28 = .ok (.iload_n 3, 1) := by decide +kernel
theorem d_X_state_29 : decode b_X_state 29 = .ok (.tableswitch 55 0 3 #[31, 37, 43, 49], 31) := by decide +kernel
theorem d_X_state_60 : decode b_X_state 60 = .ok (.aload 4, 2) := by decide +kernel
theorem d_X_state_62 : decode b_X_state 62 = .ok (.getfield 210, 3) := by decide +kernel
theorem d_X_state_65 : decode b_X_state 65 = .ok (.ireturn, 1) := by decide +kernel
theorem d_X_state_66 : decode b_X_state 66 = .ok (.aload 4, 2) := by decide +kernel
theorem d_X_state_68 : decode b_X_state 68 = .ok (.getfield 213, 3) := by decide +kernel
theorem d_X_state_71 : decode b_X_state 71 = .ok (.ireturn, 1) := by decide +kernel
theorem d_X_state_72 : decode b_X_state 72 = .ok (.aload 4, 2) := by decide +kernel
theorem d_X_state_74 : decode b_X_state 74 = .ok (.getfield 216, 3) := by decide +kernel
theorem d_X_state_77 : decode b_X_state 77 = .ok (.ireturn, 1) := by decide +kernel
theorem d_X_state_78 : decode b_X_state 78 = .ok (.aload 4, 2) := by decide +kernel
theorem d_X_state_80 : decode b_X_state 80 = .ok (.invokevirtual 137, 3) := by decide +kernel
theorem d_X_state_83 : decode b_X_state 83 = .ok (.ireturn, 1) := by decide +kernel
theorem d_X_state_84 : decode b_X_state 84 = .ok (.new 68, 3) := by decide +kernel
theorem d_X_state_87 : decode b_X_state 87 = .ok (.dup, 1) := by decide +kernel
theorem d_X_state_88 : decode b_X_state 88 = .ok (.ldc 219, 2) := by decide +kernel
theorem d_X_state_90 : decode b_X_state 90 = .ok (.invokespecial 72, 3) := by decide +kernel
theorem d_X_state_93 : decode b_X_state 93 = .ok (.athrow, 1) := by decide +kernel
