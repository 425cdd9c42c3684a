/-! OWN DECODE ROWS, by program (wip/whole/gen/names.py) -/
theorem d_M_init_0 : decode b_M_init 0 = .ok (.aload_n 0, 1) := by decide +kernel
theorem d_M_init_1 : decode b_M_init 1 = .ok (.invokespecial 1, 3) := by decide +kernel
theorem d_M_init_4 : decode b_M_init 4 = .ok (.aload_n 0, 1) := by decide +kernel
theorem d_M_init_5 : decode b_M_init 5 = .ok (.iconst 2, 1) := by decide +kernel
theorem d_M_init_6 : decode b_M_init 6 = .ok (.newarray .int, 2) := by decide +kernel
theorem d_M_init_8 : decode b_M_init 8 = .ok (.putfield 7, 3) := by decide +kernel
theorem d_M_init_11 : decode b_M_init 11 = .ok (.aload_n 0, 1) := by decide +kernel
theorem d_M_init_12 : decode b_M_init 12 = .ok (.iconst 2, 1) := by decide +kernel
theorem d_M_init_13 : decode b_M_init 13 = .ok (.newarray .int, 2) := by decide +kernel
theorem d_M_init_15 : decode b_M_init 15 = .ok (.putfield 13, 3) := by decide +kernel
theorem d_M_init_18 : decode b_M_init 18 = .ok (.aload_n 0, 1) := by decide +kernel
theorem d_M_init_19 : decode b_M_init 19 = .ok (.iconst 4, 1) := by decide +kernel
theorem d_M_init_20 : decode b_M_init 20 = .ok (.newarray .int, 2) := by decide +kernel
theorem d_M_init_22 : decode b_M_init 22 = .ok (.putfield 16, 3) := by decide +kernel
theorem d_M_init_25 : decode b_M_init 25 = .ok (.aload_n 0, 1) := by decide +kernel
theorem d_M_init_26 : decode b_M_init 26 = .ok (.iconst 4, 1) := by decide +kernel
theorem d_M_init_27 : decode b_M_init 27 = .ok (.newarray .int, 2) := by decide +kernel
theorem d_M_init_29 : decode b_M_init 29 = .ok (.putfield 19, 3) := by decide +kernel
theorem d_M_init_32 : decode b_M_init 32 = .ok (.aload_n 0, 1) := by decide +kernel
theorem d_M_init_33 : decode b_M_init 33 = .ok (.iconst 4, 1) := by decide +kernel
theorem d_M_init_34 : decode b_M_init 34 = .ok (.newarray .int, 2) := by decide +kernel
theorem d_M_init_36 : decode b_M_init 36 = .ok (.putfield 22, 3) := by decide +kernel
theorem d_M_init_39 : decode b_M_init 39 = .ok (.aload_n 0, 1) := by decide +kernel
theorem d_M_init_40 : decode b_M_init 40 = .ok (.sipush 6000, 3) := by decide +kernel
theorem d_M_init_43 : decode b_M_init 43 = .ok (.newarray .byte, 2) := by decide +kernel
theorem d_M_init_45 : decode b_M_init 45 = .ok (.putfield 25, 3) := by decide +kernel
theorem d_M_init_48 : decode b_M_init 48 = .ok (.aload_n 0, 1) := by decide +kernel
theorem d_M_init_49 : decode b_M_init 49 = .ok (.sipush 1000, 3) := by decide +kernel
theorem d_M_init_52 : decode b_M_init 52 = .ok (.newarray .byte, 2) := by decide +kernel
theorem d_M_init_54 : decode b_M_init 54 = .ok (.putfield 29, 3) := by decide +kernel
theorem d_M_init_57 : decode b_M_init 57 = .ok (.aload_n 0, 1) := by decide +kernel
theorem d_M_init_58 : decode b_M_init 58 = .ok (.sipush 400, 3) := by decide +kernel
theorem d_M_init_61 : decode b_M_init 61 = .ok (.newarray .byte, 2) := by decide +kernel
theorem d_M_init_63 : decode b_M_init 63 = .ok (.putfield 32, 3) := by decide +kernel
theorem d_M_init_66 : decode b_M_init 66 = .ok (.aload_n 0, 1) := by decide +kernel
theorem d_M_init_67 : decode b_M_init 67 = .ok (.iload_n 1, 1) := by decide +kernel
theorem d_M_init_68 : decode b_M_init 68 = .ok (.iconst 2, 1) := by decide +kernel
theorem d_M_init_69 : decode b_M_init 69 = .ok (.bipush 16, 2) := by decide +kernel
theorem d_M_init_71 : decode b_M_init 71 = .ok (.invokestatic 35, 3) := by decide +kernel
theorem d_M_init_74 : decode b_M_init 74 = .ok (.putfield 39, 3) := by decide +kernel
theorem d_M_init_77 : decode b_M_init 77 = .ok (.aload_n 0, 1) := by decide +kernel
theorem d_M_init_78 : decode b_M_init 78 = .ok (.getfield 39, 3) := by decide +kernel
theorem d_M_init_81 : decode b_M_init 81 = .ok (.invokestatic 43, 3) := by decide +kernel
theorem d_M_init_84 : decode b_M_init 84 = .ok (.iconst 1, 1) := by decide +kernel
theorem d_M_init_85 : decode b_M_init 85 = .ok (.isub, 1) := by decide +kernel
theorem d_M_init_86 : decode b_M_init 86 = .ok (.istore 4, 2) := by decide +kernel
theorem d_M_init_88 : decode b_M_init 88 = .ok (.aload_n 0, 1) := by decide +kernel
theorem d_M_init_89 : decode b_M_init 89 = .ok (.iload_n 2, 1) := by decide +kernel
theorem d_M_init_90 : decode b_M_init 90 = .ok (.iconst 0, 1) := by decide +kernel
theorem d_M_init_91 : decode b_M_init 91 = .ok (.iload 4, 2) := by decide +kernel
theorem d_M_init_93 : decode b_M_init 93 = .ok (.iconst 2, 1) := by decide +kernel
theorem d_M_init_94 : decode b_M_init 94 = .ok (.idiv, 1) := by decide +kernel
theorem d_M_init_95 : decode b_M_init 95 = .ok (.sipush 255, 3) := by decide +kernel
theorem d_M_init_98 : decode b_M_init 98 = .ok (.if_icmp .ge 10, 3) := by decide +kernel
theorem d_M_init_101 : decode b_M_init 101 = .ok (.iload 4, 2) := by decide +kernel
theorem d_M_init_103 : decode b_M_init 103 = .ok (.iconst 2, 1) := by decide +kernel
theorem d_M_init_104 : decode b_M_init 104 = .ok (.idiv, 1) := by decide +kernel
theorem d_M_init_105 : decode b_M_init 105 = .ok (.goto 6, 3) := by decide +kernel
theorem d_M_init_108 : decode b_M_init 108 = .ok (.sipush 255, 3) := by decide +kernel
theorem d_M_init_111 : decode b_M_init 111 = .ok (.invokestatic 35, 3) := by decide +kernel
theorem d_M_init_114 : decode b_M_init 114 = .ok (.putfield 47, 3) := by decide +kernel
theorem d_M_init_117 : decode b_M_init 117 = .ok (.aload_n 0, 1) := by decide +kernel
theorem d_M_init_118 : decode b_M_init 118 = .ok (.iload 4, 2) := by decide +kernel
theorem d_M_init_120 : decode b_M_init 120 = .ok (.iconst 2, 1) := by decide +kernel
theorem d_M_init_121 : decode b_M_init 121 = .ok (.aload_n 0, 1) := by decide +kernel
theorem d_M_init_122 : decode b_M_init 122 = .ok (.getfield 47, 3) := by decide +kernel
theorem d_M_init_125 : decode b_M_init 125 = .ok (.imul, 1) := by decide +kernel
theorem d_M_init_126 : decode b_M_init 126 = .ok (.iadd, 1) := by decide +kernel
theorem d_M_init_127 : decode b_M_init 127 = .ok (.iconst 2, 1) := by decide +kernel
theorem d_M_init_128 : decode b_M_init 128 = .ok (.aload_n 0, 1) := by decide +kernel
theorem d_M_init_129 : decode b_M_init 129 = .ok (.getfield 47, 3) := by decide +kernel
theorem d_M_init_132 : decode b_M_init 132 = .ok (.imul, 1) := by decide +kernel
theorem d_M_init_133 : decode b_M_init 133 = .ok (.iconst 1, 1) := by decide +kernel
theorem d_M_init_134 : decode b_M_init 134 = .ok (.iadd, 1) := by decide +kernel
theorem d_M_init_135 : decode b_M_init 135 = .ok (.idiv, 1) := by decide +kernel
theorem d_M_init_136 : decode b_M_init 136 = .ok (.iconst 1, 1) := by decide +kernel
theorem d_M_init_137 : decode b_M_init 137 = .ok (.iadd, 1) := by decide +kernel
theorem d_M_init_138 : decode b_M_init 138 = .ok (.putfield 50, 3) := by decide +kernel
theorem d_M_init_141 : decode b_M_init 141 = .ok (.iconst 0, 1) := by decide +kernel
theorem d_M_init_142 : decode b_M_init 142 = .ok (.istore 5, 2) := by decide +kernel
theorem d_M_init_144 : decode b_M_init 144 = .ok (.iload 5, 2) := by decide +kernel
theorem d_M_init_146 : decode b_M_init 146 = .ok (.invokestatic 43, 3) := by decide +kernel
theorem d_M_init_149 : decode b_M_init 149 = .ok (.aload_n 0, 1) := by decide +kernel
theorem d_M_init_150 : decode b_M_init 150 = .ok (.getfield 50, 3) := by decide +kernel
theorem d_M_init_153 : decode b_M_init 153 = .ok (.if_icmp .ge 9, 3) := by decide +kernel
theorem d_M_init_156 : decode b_M_init 156 = .ok (.iinc 5 1, 3) := by decide +kernel
theorem d_M_init_159 : decode b_M_init 159 = .ok (.goto (-15), 3) := by decide +kernel
theorem d_M_init_162 : decode b_M_init 162 = .ok (.aload_n 0, 1) := by decide +kernel
theorem d_M_init_163 : decode b_M_init 163 = .ok (.iload 5, 2) := by decide +kernel
theorem d_M_init_165 : decode b_M_init 165 = .ok (.putfield 53, 3) := by decide +kernel
theorem d_M_init_168 : decode b_M_init 168 = .ok (.aload_n 0, 1) := by decide +kernel
theorem d_M_init_169 : decode b_M_init 169 = .ok (.iload_n 3, 1) := by decide +kernel
theorem d_M_init_170 : decode b_M_init 170 = .ok (.iload 5, 2) := by decide +kernel
theorem d_M_init_172 : decode b_M_init 172 = .ok (.bipush 18, 2) := by decide +kernel
theorem d_M_init_174 : decode b_M_init 174 = .ok (.iadd, 1) := by decide +kernel
theorem d_M_init_175 : decode b_M_init 175 = .ok (.sipush 200, 3) := by decide +kernel
theorem d_M_init_178 : decode b_M_init 178 = .ok (.invokestatic 35, 3) := by decide +kernel
theorem d_M_init_181 : decode b_M_init 181 = .ok (.putfield 56, 3) := by decide +kernel
theorem d_M_init_184 : decode b_M_init 184 = .ok (.aload_n 0, 1) := by decide +kernel
theorem d_M_init_185 : decode b_M_init 185 = .ok (.invokevirtual 59, 3) := by decide +kernel
theorem d_M_init_188 : decode b_M_init 188 = .ok (.return_, 1) := by decide +kernel
theorem d_M_within_0 : decode b_M_within 0 = .ok (.iload_n 0, 1) := by decide +kernel
theorem d_M_within_1 : decode b_M_within 1 = .ok (.iload_n 1, 1) := by decide +kernel
theorem d_M_within_2 : decode b_M_within 2 = .ok (.if_icmp .ge 7, 3) := by decide +kernel
theorem d_M_within_5 : decode b_M_within 5 = .ok (.iload_n 1, 1) := by decide +kernel
theorem d_M_within_6 : decode b_M_within 6 = .ok (.goto 13, 3) := by decide +kernel
theorem d_M_within_9 : decode b_M_within 9 = .ok (.iload_n 0, 1) := by decide +kernel
theorem d_M_within_10 : decode b_M_within 10 = .ok (.iload_n 2, 1) := by decide +kernel
theorem d_M_within_11 : decode b_M_within 11 = .ok (.if_icmp .le 7, 3) := by decide +kernel
theorem d_M_within_14 : decode b_M_within 14 = .ok (.iload_n 2, 1) := by decide +kernel
theorem d_M_within_15 : decode b_M_within 15 = .ok (.goto 4, 3) := by decide +kernel
theorem d_M_within_18 : decode b_M_within 18 = .ok (.iload_n 0, 1) := by decide +kernel
theorem d_M_within_19 : decode b_M_within 19 = .ok (.ireturn, 1) := by decide +kernel
theorem d_M_power_0 : decode b_M_power 0 = .ok (.iconst 1, 1) := by decide +kernel
theorem d_M_power_1 : decode b_M_power 1 = .ok (.istore_n 1, 1) := by decide +kernel
theorem d_M_power_2 : decode b_M_power 2 = .ok (.iconst 0, 1) := by decide +kernel
theorem d_M_power_3 : decode b_M_power 3 = .ok (.istore_n 2, 1) := by decide +kernel
theorem d_M_power_4 : decode b_M_power 4 = .ok (.iload_n 2, 1) := by decide +kernel
theorem d_M_power_5 : decode b_M_power 5 = .ok (.iload_n 0, 1) := by decide +kernel
theorem d_M_power_6 : decode b_M_power 6 = .ok (.if_icmp .ge 13, 3) := by decide +kernel
theorem d_M_power_9 : decode b_M_power 9 = .ok (.iconst 2, 1) := by decide +kernel
theorem d_M_power_10 : decode b_M_power 10 = .ok (.iload_n 1, 1) := by decide +kernel
theorem d_M_power_11 : decode b_M_power 11 = .ok (.imul, 1) := by decide +kernel
theorem d_M_power_12 : decode b_M_power 12 = .ok (.istore_n 1, 1) := by decide +kernel
theorem d_M_power_13 : decode b_M_power 13 = .ok (.iinc 2 1, 3) := by decide +kernel
theorem d_M_power_16 : decode b_M_power 16 = .ok (.goto (-12), 3) := by decide +kernel
theorem d_M_power_19 : decode b_M_power 19 = .ok (.iload_n 1, 1) := by decide +kernel
theorem d_M_power_20 : decode b_M_power 20 = .ok (.ireturn, 1) := by decide +kernel
theorem d_M_begin_0 : decode b_M_begin 0 = .ok (.iconst 0, 1) := by decide +kernel
theorem d_M_begin_1 : decode b_M_begin 1 = .ok (.istore_n 1, 1) := by decide +kernel
theorem d_M_begin_2 : decode b_M_begin 2 = .ok (.iload_n 1, 1) := by decide +kernel
theorem d_M_begin_3 : decode b_M_begin 3 = .ok (.iconst 2, 1) := by decide +kernel
theorem d_M_begin_4 : decode b_M_begin 4 = .ok (.if_icmp .ge 23, 3) := by decide +kernel
theorem d_M_begin_7 : decode b_M_begin 7 = .ok (.aload_n 0, 1) := by decide +kernel
theorem d_M_begin_8 : decode b_M_begin 8 = .ok (.getfield 7, 3) := by decide +kernel
theorem d_M_begin_11 : decode b_M_begin 11 = .ok (.iload_n 1, 1) := by decide +kernel
theorem d_M_begin_12 : decode b_M_begin 12 = .ok (.iconst 0, 1) := by decide +kernel
theorem d_M_begin_13 : decode b_M_begin 13 = .ok (.iastore, 1) := by decide +kernel
theorem d_M_begin_14 : decode b_M_begin 14 = .ok (.aload_n 0, 1) := by decide +kernel
theorem d_M_begin_15 : decode b_M_begin 15 = .ok (.getfield 13, 3) := by decide +kernel
theorem d_M_begin_18 : decode b_M_begin 18 = .ok (.iload_n 1, 1) := by decide +kernel
theorem d_M_begin_19 : decode b_M_begin 19 = .ok (.iconst 0, 1) := by decide +kernel
theorem d_M_begin_20 : decode b_M_begin 20 = .ok (.iastore, 1) := by decide +kernel
theorem d_M_begin_21 : decode b_M_begin 21 = .ok (.iinc 1 1, 3) := by decide +kernel
theorem d_M_begin_24 : decode b_M_begin 24 = .ok (.goto (-22), 3) := by decide +kernel
theorem d_M_begin_27 : decode b_M_begin 27 = .ok (.iconst 0, 1) := by decide +kernel
theorem d_M_begin_28 : decode b_M_begin 28 = .ok (.istore_n 1, 1) := by decide +kernel
theorem d_M_begin_29 : decode b_M_begin 29 = .ok (.iload_n 1, 1) := by decide +kernel
theorem d_M_begin_30 : decode b_M_begin 30 = .ok (.iconst 4, 1) := by decide +kernel
theorem d_M_begin_31 : decode b_M_begin 31 = .ok (.if_icmp .ge 50, 3) := by decide +kernel
theorem d_M_begin_34 : decode b_M_begin 34 = .ok (.aload_n 0, 1) := by decide +kernel
theorem d_M_begin_35 : decode b_M_begin 35 = .ok (.getfield 50, 3) := by decide +kernel
theorem d_M_begin_38 : decode b_M_begin 38 = .ok (.bipush 32, 2) := by decide +kernel
theorem d_M_begin_40 : decode b_M_begin 40 = .ok (.iadd, 1) := by decide +kernel
theorem d_M_begin_41 : decode b_M_begin 41 = .ok (.bipush 64, 2) := by decide +kernel
theorem d_M_begin_43 : decode b_M_begin 43 = .ok (.idiv, 1) := by decide +kernel
theorem d_M_begin_44 : decode b_M_begin 44 = .ok (.istore_n 2, 1) := by decide +kernel
theorem d_M_begin_45 : decode b_M_begin 45 = .ok (.aload_n 0, 1) := by decide +kernel
theorem d_M_begin_46 : decode b_M_begin 46 = .ok (.getfield 16, 3) := by decide +kernel
theorem d_M_begin_49 : decode b_M_begin 49 = .ok (.iload_n 1, 1) := by decide +kernel
theorem d_M_begin_50 : decode b_M_begin 50 = .ok (.iload_n 2, 1) := by decide +kernel
theorem d_M_begin_51 : decode b_M_begin 51 = .ok (.iconst 2, 1) := by decide +kernel
theorem d_M_begin_52 : decode b_M_begin 52 = .ok (.if_icmp .ge 7, 3) := by decide +kernel
theorem d_M_begin_55 : decode b_M_begin 55 = .ok (.iconst 2, 1) := by decide +kernel
theorem d_M_begin_56 : decode b_M_begin 56 = .ok (.goto 4, 3) := by decide +kernel
theorem d_M_begin_59 : decode b_M_begin 59 = .ok (.iload_n 2, 1) := by decide +kernel
theorem d_M_begin_60 : decode b_M_begin 60 = .ok (.iastore, 1) := by decide +kernel
theorem d_M_begin_61 : decode b_M_begin 61 = .ok (.aload_n 0, 1) := by decide +kernel
theorem d_M_begin_62 : decode b_M_begin 62 = .ok (.getfield 19, 3) := by decide +kernel
theorem d_M_begin_65 : decode b_M_begin 65 = .ok (.iload_n 1, 1) := by decide +kernel
theorem d_M_begin_66 : decode b_M_begin 66 = .ok (.iconst 1, 1) := by decide +kernel
theorem d_M_begin_67 : decode b_M_begin 67 = .ok (.iastore, 1) := by decide +kernel
theorem d_M_begin_68 : decode b_M_begin 68 = .ok (.aload_n 0, 1) := by decide +kernel
theorem d_M_begin_69 : decode b_M_begin 69 = .ok (.getfield 22, 3) := by decide +kernel
theorem d_M_begin_72 : decode b_M_begin 72 = .ok (.iload_n 1, 1) := by decide +kernel
theorem d_M_begin_73 : decode b_M_begin 73 = .ok (.iconst 0, 1) := by decide +kernel
theorem d_M_begin_74 : decode b_M_begin 74 = .ok (.iastore, 1) := by decide +kernel
theorem d_M_begin_75 : decode b_M_begin 75 = .ok (.iinc 1 1, 3) := by decide +kernel
theorem d_M_begin_78 : decode b_M_begin 78 = .ok (.goto (-49), 3) := by decide +kernel
theorem d_M_begin_81 : decode b_M_begin 81 = .ok (.aload_n 0, 1) := by decide +kernel
theorem d_M_begin_82 : decode b_M_begin 82 = .ok (.iconst 0, 1) := by decide +kernel
theorem d_M_begin_83 : decode b_M_begin 83 = .ok (.putfield 65, 3) := by decide +kernel
theorem d_M_begin_86 : decode b_M_begin 86 = .ok (.aload_n 0, 1) := by decide +kernel
theorem d_M_begin_87 : decode b_M_begin 87 = .ok (.iconst 0, 1) := by decide +kernel
theorem d_M_begin_88 : decode b_M_begin 88 = .ok (.putfield 69, 3) := by decide +kernel
theorem d_M_begin_91 : decode b_M_begin 91 = .ok (.aload_n 0, 1) := by decide +kernel
theorem d_M_begin_92 : decode b_M_begin 92 = .ok (.iconst 0, 1) := by decide +kernel
theorem d_M_begin_93 : decode b_M_begin 93 = .ok (.putfield 72, 3) := by decide +kernel
theorem d_M_begin_96 : decode b_M_begin 96 = .ok (.return_, 1) := by decide +kernel
theorem d_M_thrown_0 : decode b_M_thrown 0 = .ok (.aload_n 0, 1) := by decide +kernel
theorem d_M_thrown_1 : decode b_M_thrown 1 = .ok (.getfield 62, 3) := by decide +kernel
theorem d_M_thrown_4 : decode b_M_thrown 4 = .ok (.ireturn, 1) := by decide +kernel
theorem d_M_code_0 : decode b_M_code 0 = .ok (.aload_n 0, 1) := by decide +kernel
theorem d_M_code_1 : decode b_M_code 1 = .ok (.iload_n 1, 1) := by decide +kernel
theorem d_M_code_2 : decode b_M_code 2 = .ok (.ifCond .lt 26, 3) := by decide +kernel
theorem d_M_code_5 : decode b_M_code 5 = .ok (.iload_n 1, 1) := by decide +kernel
theorem d_M_code_6 : decode b_M_code 6 = .ok (.aload_n 0, 1) := by decide +kernel
theorem d_M_code_7 : decode b_M_code 7 = .ok (.getfield 53, 3) := by decide +kernel
theorem d_M_code_10 : decode b_M_code 10 = .ok (.if_icmp .gt 18, 3) := by decide +kernel
theorem d_M_code_13 : decode b_M_code 13 = .ok (.iload_n 2, 1) := by decide +kernel
theorem d_M_code_14 : decode b_M_code 14 = .ok (.ifCond .lt 14, 3) := by decide +kernel
theorem d_M_code_17 : decode b_M_code 17 = .ok (.iload_n 2, 1) := by decide +kernel
theorem d_M_code_18 : decode b_M_code 18 = .ok (.aload_n 0, 1) := by decide +kernel
theorem d_M_code_19 : decode b_M_code 19 = .ok (.getfield 53, 3) := by decide +kernel
theorem d_M_code_22 : decode b_M_code 22 = .ok (.invokestatic 43, 3) := by decide +kernel
theorem d_M_code_25 : decode b_M_code 25 = .ok (.if_icmp .le 7, 3) := by decide +kernel
theorem d_M_code_28 : decode b_M_code 28 = .ok (.iconst 1, 1) := by decide +kernel
theorem d_M_code_29 : decode b_M_code 29 = .ok (.goto 4, 3) := by decide +kernel
theorem d_M_code_32 : decode b_M_code 32 = .ok (.iconst 0, 1) := by decide +kernel
theorem d_M_code_33 : decode b_M_code 33 = .ok (.putfield 62, 3) := by decide +kernel
theorem d_M_code_36 : decode b_M_code 36 = .ok (.aload_n 0, 1) := by decide +kernel
theorem d_M_code_37 : decode b_M_code 37 = .ok (.getfield 62, 3) := by decide +kernel
theorem d_M_code_40 : decode b_M_code 40 = .ok (.ifCond .le 5, 3) := by decide +kernel
theorem d_M_code_43 : decode b_M_code 43 = .ok (.iconst 0, 1) := by decide +kernel
theorem d_M_code_44 : decode b_M_code 44 = .ok (.ireturn, 1) := by decide +kernel
theorem d_M_code_45 : decode b_M_code 45 = .ok (.aload_n 0, 1) := by decide +kernel
theorem d_M_code_46 : decode b_M_code 46 = .ok (.iconst 0, 1) := by decide +kernel
theorem d_M_code_47 : decode b_M_code 47 = .ok (.putfield 75, 3) := by decide +kernel
theorem d_M_code_50 : decode b_M_code 50 = .ok (.aload_n 0, 1) := by decide +kernel
theorem d_M_code_51 : decode b_M_code 51 = .ok (.iload_n 2, 1) := by decide +kernel
theorem d_M_code_52 : decode b_M_code 52 = .ok (.iload_n 1, 1) := by decide +kernel
theorem d_M_code_53 : decode b_M_code 53 = .ok (.aload_n 0, 1) := by decide +kernel
theorem d_M_code_54 : decode b_M_code 54 = .ok (.getfield 56, 3) := by decide +kernel
theorem d_M_code_57 : decode b_M_code 57 = .ok (.invokevirtual 86, 3) := by decide +kernel
theorem d_M_code_60 : decode b_M_code 60 = .ok (.aload_n 0, 1) := by decide +kernel
theorem d_M_code_61 : decode b_M_code 61 = .ok (.aload_n 0, 1) := by decide +kernel
theorem d_M_code_62 : decode b_M_code 62 = .ok (.invokevirtual 90, 3) := by decide +kernel
theorem d_M_code_65 : decode b_M_code 65 = .ok (.ifCond .eq 7, 3) := by decide +kernel
theorem d_M_code_68 : decode b_M_code 68 = .ok (.iconst 0, 1) := by decide +kernel
theorem d_M_code_69 : decode b_M_code 69 = .ok (.goto 4, 3) := by decide +kernel
theorem d_M_code_72 : decode b_M_code 72 = .ok (.iconst 2, 1) := by decide +kernel
theorem d_M_code_73 : decode b_M_code 73 = .ok (.putfield 62, 3) := by decide +kernel
theorem d_M_code_76 : decode b_M_code 76 = .ok (.aload_n 0, 1) := by decide +kernel
theorem d_M_code_77 : decode b_M_code 77 = .ok (.getfield 62, 3) := by decide +kernel
theorem d_M_code_80 : decode b_M_code 80 = .ok (.ifCond .le 7, 3) := by decide +kernel
theorem d_M_code_83 : decode b_M_code 83 = .ok (.iconst 0, 1) := by decide +kernel
theorem d_M_code_84 : decode b_M_code 84 = .ok (.goto 7, 3) := by decide +kernel
theorem d_M_code_87 : decode b_M_code 87 = .ok (.aload_n 0, 1) := by decide +kernel
theorem d_M_code_88 : decode b_M_code 88 = .ok (.invokevirtual 94, 3) := by decide +kernel
theorem d_M_code_91 : decode b_M_code 91 = .ok (.ireturn, 1) := by decide +kernel
theorem d_M_layNumber_0 : decode b_M_layNumber 0 = .ok (.iload_n 1, 1) := by decide +kernel
theorem d_M_layNumber_1 : decode b_M_layNumber 1 = .ok (.iload_n 2, 1) := by decide +kernel
theorem d_M_layNumber_2 : decode b_M_layNumber 2 = .ok (.ishr, 1) := by decide +kernel
theorem d_M_layNumber_3 : decode b_M_layNumber 3 = .ok (.istore 4, 2) := by decide +kernel
theorem d_M_layNumber_5 : decode b_M_layNumber 5 = .ok (.iload_n 3, 1) := by decide +kernel
theorem d_M_layNumber_6 : decode b_M_layNumber 6 = .ok (.aload_n 0, 1) := by decide +kernel
theorem d_M_layNumber_7 : decode b_M_layNumber 7 = .ok (.getfield 53, 3) := by decide +kernel
theorem d_M_layNumber_10 : decode b_M_layNumber 10 = .ok (.isub, 1) := by decide +kernel
theorem d_M_layNumber_11 : decode b_M_layNumber 11 = .ok (.iconst 1, 1) := by decide +kernel
theorem d_M_layNumber_12 : decode b_M_layNumber 12 = .ok (.isub, 1) := by decide +kernel
theorem d_M_layNumber_13 : decode b_M_layNumber 13 = .ok (.istore 5, 2) := by decide +kernel
theorem d_M_layNumber_15 : decode b_M_layNumber 15 = .ok (.iload 4, 2) := by decide +kernel
theorem d_M_layNumber_17 : decode b_M_layNumber 17 = .ok (.iload 5, 2) := by decide +kernel
theorem d_M_layNumber_19 : decode b_M_layNumber 19 = .ok (.if_icmp .ge 36, 3) := by decide +kernel
theorem d_M_layNumber_22 : decode b_M_layNumber 22 = .ok (.iconst 0, 1) := by decide +kernel
theorem d_M_layNumber_23 : decode b_M_layNumber 23 = .ok (.istore 6, 2) := by decide +kernel
theorem d_M_layNumber_25 : decode b_M_layNumber 25 = .ok (.iload 6, 2) := by decide +kernel
theorem d_M_layNumber_27 : decode b_M_layNumber 27 = .ok (.iload 4, 2) := by decide +kernel
theorem d_M_layNumber_29 : decode b_M_layNumber 29 = .ok (.if_icmp .ge 14, 3) := by decide +kernel
theorem d_M_layNumber_32 : decode b_M_layNumber 32 = .ok (.aload_n 0, 1) := by decide +kernel
theorem d_M_layNumber_33 : decode b_M_layNumber 33 = .ok (.iconst 0, 1) := by decide +kernel
theorem d_M_layNumber_34 : decode b_M_layNumber 34 = .ok (.invokevirtual 78, 3) := by decide +kernel
theorem d_M_layNumber_37 : decode b_M_layNumber 37 = .ok (.iinc 6 1, 3) := by decide +kernel
theorem d_M_layNumber_40 : decode b_M_layNumber 40 = .ok (.goto (-15), 3) := by decide +kernel
theorem d_M_layNumber_43 : decode b_M_layNumber 43 = .ok (.aload_n 0, 1) := by decide +kernel
theorem d_M_layNumber_44 : decode b_M_layNumber 44 = .ok (.iconst 1, 1) := by decide +kernel
theorem d_M_layNumber_45 : decode b_M_layNumber 45 = .ok (.invokevirtual 78, 3) := by decide +kernel
theorem d_M_layNumber_48 : decode b_M_layNumber 48 = .ok (.aload_n 0, 1) := by decide +kernel
theorem d_M_layNumber_49 : decode b_M_layNumber 49 = .ok (.iload_n 1, 1) := by decide +kernel
theorem d_M_layNumber_50 : decode b_M_layNumber 50 = .ok (.iload_n 2, 1) := by decide +kernel
theorem d_M_layNumber_51 : decode b_M_layNumber 51 = .ok (.invokevirtual 82, 3) := by decide +kernel
theorem d_M_layNumber_54 : decode b_M_layNumber 54 = .ok (.return_, 1) := by decide +kernel
theorem d_M_layNumber_55 : decode b_M_layNumber 55 = .ok (.iconst 0, 1) := by decide +kernel
theorem d_M_layNumber_56 : decode b_M_layNumber 56 = .ok (.istore 6, 2) := by decide +kernel
theorem d_M_layNumber_58 : decode b_M_layNumber 58 = .ok (.iload 6, 2) := by decide +kernel
theorem d_M_layNumber_60 : decode b_M_layNumber 60 = .ok (.iload 5, 2) := by decide +kernel
theorem d_M_layNumber_62 : decode b_M_layNumber 62 = .ok (.if_icmp .ge 14, 3) := by decide +kernel
theorem d_M_layNumber_65 : decode b_M_layNumber 65 = .ok (.aload_n 0, 1) := by decide +kernel
theorem d_M_layNumber_66 : decode b_M_layNumber 66 = .ok (.iconst 0, 1) := by decide +kernel
theorem d_M_layNumber_67 : decode b_M_layNumber 67 = .ok (.invokevirtual 78, 3) := by decide +kernel
theorem d_M_layNumber_70 : decode b_M_layNumber 70 = .ok (.iinc 6 1, 3) := by decide +kernel
theorem d_M_layNumber_73 : decode b_M_layNumber 73 = .ok (.goto (-15), 3) := by decide +kernel
theorem d_M_layNumber_76 : decode b_M_layNumber 76 = .ok (.aload_n 0, 1) := by decide +kernel
theorem d_M_layNumber_77 : decode b_M_layNumber 77 = .ok (.iconst 1, 1) := by decide +kernel
theorem d_M_layNumber_78 : decode b_M_layNumber 78 = .ok (.invokevirtual 78, 3) := by decide +kernel
theorem d_M_layNumber_81 : decode b_M_layNumber 81 = .ok (.aload_n 0, 1) := by decide +kernel
theorem d_M_layNumber_82 : decode b_M_layNumber 82 = .ok (.iload_n 1, 1) := by decide +kernel
theorem d_M_layNumber_83 : decode b_M_layNumber 83 = .ok (.iconst 1, 1) := by decide +kernel
theorem d_M_layNumber_84 : decode b_M_layNumber 84 = .ok (.isub, 1) := by decide +kernel
theorem d_M_layNumber_85 : decode b_M_layNumber 85 = .ok (.aload_n 0, 1) := by decide +kernel
theorem d_M_layNumber_86 : decode b_M_layNumber 86 = .ok (.getfield 53, 3) := by decide +kernel
theorem d_M_layNumber_89 : decode b_M_layNumber 89 = .ok (.invokevirtual 82, 3) := by decide +kernel
theorem d_M_layNumber_92 : decode b_M_layNumber 92 = .ok (.return_, 1) := by decide +kernel
theorem d_M_lay_0 : decode b_M_lay 0 = .ok (.aload_n 0, 1) := by decide +kernel
theorem d_M_lay_1 : decode b_M_lay 1 = .ok (.getfield 32, 3) := by decide +kernel
theorem d_M_lay_4 : decode b_M_lay 4 = .ok (.aload_n 0, 1) := by decide +kernel
theorem d_M_lay_5 : decode b_M_lay 5 = .ok (.getfield 75, 3) := by decide +kernel
theorem d_M_lay_8 : decode b_M_lay 8 = .ok (.iload_n 1, 1) := by decide +kernel
theorem d_M_lay_9 : decode b_M_lay 9 = .ok (.i2b, 1) := by decide +kernel
theorem d_M_lay_10 : decode b_M_lay 10 = .ok (.bastore, 1) := by decide +kernel
theorem d_M_lay_11 : decode b_M_lay 11 = .ok (.aload_n 0, 1) := by decide +kernel
theorem d_M_lay_12 : decode b_M_lay 12 = .ok (.dup, 1) := by decide +kernel
theorem d_M_lay_13 : decode b_M_lay 13 = .ok (.getfield 75, 3) := by decide +kernel
theorem d_M_lay_16 : decode b_M_lay 16 = .ok (.iconst 1, 1) := by decide +kernel
theorem d_M_lay_17 : decode b_M_lay 17 = .ok (.iadd, 1) := by decide +kernel
theorem d_M_lay_18 : decode b_M_lay 18 = .ok (.putfield 75, 3) := by decide +kernel
theorem d_M_lay_21 : decode b_M_lay 21 = .ok (.return_, 1) := by decide +kernel
theorem d_M_layLow_0 : decode b_M_layLow 0 = .ok (.iload_n 2, 1) := by decide +kernel
theorem d_M_layLow_1 : decode b_M_layLow 1 = .ok (.iconst 1, 1) := by decide +kernel
theorem d_M_layLow_2 : decode b_M_layLow 2 = .ok (.isub, 1) := by decide +kernel
theorem d_M_layLow_3 : decode b_M_layLow 3 = .ok (.istore_n 3, 1) := by decide +kernel
theorem d_M_layLow_4 : decode b_M_layLow 4 = .ok (.iload_n 3, 1) := by decide +kernel
theorem d_M_layLow_5 : decode b_M_layLow 5 = .ok (.ifCond .lt 18, 3) := by decide +kernel
theorem d_M_layLow_8 : decode b_M_layLow 8 = .ok (.aload_n 0, 1) := by decide +kernel
theorem d_M_layLow_9 : decode b_M_layLow 9 = .ok (.iload_n 1, 1) := by decide +kernel
theorem d_M_layLow_10 : decode b_M_layLow 10 = .ok (.iload_n 3, 1) := by decide +kernel
theorem d_M_layLow_11 : decode b_M_layLow 11 = .ok (.ishr, 1) := by decide +kernel
theorem d_M_layLow_12 : decode b_M_layLow 12 = .ok (.iconst 1, 1) := by decide +kernel
theorem d_M_layLow_13 : decode b_M_layLow 13 = .ok (.iand, 1) := by decide +kernel
theorem d_M_layLow_14 : decode b_M_layLow 14 = .ok (.invokevirtual 78, 3) := by decide +kernel
theorem d_M_layLow_17 : decode b_M_layLow 17 = .ok (.iinc 3 (-1), 3) := by decide +kernel
theorem d_M_layLow_20 : decode b_M_layLow 20 = .ok (.goto (-16), 3) := by decide +kernel
theorem d_M_layLow_23 : decode b_M_layLow 23 = .ok (.return_, 1) := by decide +kernel
theorem d_M_hasRoom_0 : decode b_M_hasRoom 0 = .ok (.aload_n 0, 1) := by decide +kernel
theorem d_M_hasRoom_1 : decode b_M_hasRoom 1 = .ok (.getfield 69, 3) := by decide +kernel
theorem d_M_hasRoom_4 : decode b_M_hasRoom 4 = .ok (.aload_n 0, 1) := by decide +kernel
theorem d_M_hasRoom_5 : decode b_M_hasRoom 5 = .ok (.getfield 75, 3) := by decide +kernel
theorem d_M_hasRoom_8 : decode b_M_hasRoom 8 = .ok (.iadd, 1) := by decide +kernel
theorem d_M_hasRoom_9 : decode b_M_hasRoom 9 = .ok (.sipush 6000, 3) := by decide +kernel
theorem d_M_hasRoom_12 : decode b_M_hasRoom 12 = .ok (.if_icmp .gt 7, 3) := by decide +kernel
theorem d_M_hasRoom_15 : decode b_M_hasRoom 15 = .ok (.iconst 1, 1) := by decide +kernel
theorem d_M_hasRoom_16 : decode b_M_hasRoom 16 = .ok (.goto 4, 3) := by decide +kernel
theorem d_M_hasRoom_19 : decode b_M_hasRoom 19 = .ok (.iconst 0, 1) := by decide +kernel
theorem d_M_hasRoom_20 : decode b_M_hasRoom 20 = .ok (.ireturn, 1) := by decide +kernel
theorem d_M_write_0 : decode b_M_write 0 = .ok (.iconst 0, 1) := by decide +kernel
theorem d_M_write_1 : decode b_M_write 1 = .ok (.istore_n 1, 1) := by decide +kernel
theorem d_M_write_2 : decode b_M_write 2 = .ok (.iload_n 1, 1) := by decide +kernel
theorem d_M_write_3 : decode b_M_write 3 = .ok (.aload_n 0, 1) := by decide +kernel
theorem d_M_write_4 : decode b_M_write 4 = .ok (.getfield 75, 3) := by decide +kernel
theorem d_M_write_7 : decode b_M_write 7 = .ok (.if_icmp .ge 26, 3) := by decide +kernel
theorem d_M_write_10 : decode b_M_write 10 = .ok (.aload_n 0, 1) := by decide +kernel
theorem d_M_write_11 : decode b_M_write 11 = .ok (.getfield 25, 3) := by decide +kernel
theorem d_M_write_14 : decode b_M_write 14 = .ok (.aload_n 0, 1) := by decide +kernel
theorem d_M_write_15 : decode b_M_write 15 = .ok (.getfield 69, 3) := by decide +kernel
theorem d_M_write_18 : decode b_M_write 18 = .ok (.iload_n 1, 1) := by decide +kernel
theorem d_M_write_19 : decode b_M_write 19 = .ok (.iadd, 1) := by decide +kernel
theorem d_M_write_20 : decode b_M_write 20 = .ok (.aload_n 0, 1) := by decide +kernel
theorem d_M_write_21 : decode b_M_write 21 = .ok (.getfield 32, 3) := by decide +kernel
theorem d_M_write_24 : decode b_M_write 24 = .ok (.iload_n 1, 1) := by decide +kernel
theorem d_M_write_25 : decode b_M_write 25 = .ok (.baload, 1) := by decide +kernel
theorem d_M_write_26 : decode b_M_write 26 = .ok (.bastore, 1) := by decide +kernel
theorem d_M_write_27 : decode b_M_write 27 = .ok (.iinc 1 1, 3) := by decide +kernel
theorem d_M_write_30 : decode b_M_write 30 = .ok (.goto (-28), 3) := by decide +kernel
theorem d_M_write_33 : decode b_M_write 33 = .ok (.aload_n 0, 1) := by decide +kernel
theorem d_M_write_34 : decode b_M_write 34 = .ok (.aload_n 0, 1) := by decide +kernel
theorem d_M_write_35 : decode b_M_write 35 = .ok (.getfield 69, 3) := by decide +kernel
theorem d_M_write_38 : decode b_M_write 38 = .ok (.aload_n 0, 1) := by decide +kernel
theorem d_M_write_39 : decode b_M_write 39 = .ok (.getfield 75, 3) := by decide +kernel
theorem d_M_write_42 : decode b_M_write 42 = .ok (.iadd, 1) := by decide +kernel
theorem d_M_write_43 : decode b_M_write 43 = .ok (.putfield 69, 3) := by decide +kernel
theorem d_M_write_46 : decode b_M_write 46 = .ok (.aload_n 0, 1) := by decide +kernel
theorem d_M_write_47 : decode b_M_write 47 = .ok (.getfield 75, 3) := by decide +kernel
theorem d_M_write_50 : decode b_M_write 50 = .ok (.ireturn, 1) := by decide +kernel
theorem d_M_run_0 : decode b_M_run 0 = .ok (.aload_n 0, 1) := by decide +kernel
theorem d_M_run_1 : decode b_M_run 1 = .ok (.iload_n 1, 1) := by decide +kernel
theorem d_M_run_2 : decode b_M_run 2 = .ok (.ifCond .lt 9, 3) := by decide +kernel
theorem d_M_run_5 : decode b_M_run 5 = .ok (.iload_n 1, 1) := by decide +kernel
theorem d_M_run_6 : decode b_M_run 6 = .ok (.ldc 98, 2) := by decide +kernel
theorem d_M_run_8 : decode b_M_run 8 = .ok (.if_icmp .le 7, 3) := by decide +kernel
theorem d_M_run_11 : decode b_M_run 11 = .ok (.iconst 1, 1) := by decide +kernel
theorem d_M_run_12 : decode b_M_run 12 = .ok (.goto 4, 3) := by decide +kernel
theorem d_M_run_15 : decode b_M_run 15 = .ok (.iconst 0, 1) := by decide +kernel
theorem d_M_run_16 : decode b_M_run 16 = .ok (.putfield 62, 3) := by decide +kernel
theorem d_M_run_19 : decode b_M_run 19 = .ok (.aload_n 0, 1) := by decide +kernel
theorem d_M_run_20 : decode b_M_run 20 = .ok (.getfield 62, 3) := by decide +kernel
theorem d_M_run_23 : decode b_M_run 23 = .ok (.ifCond .le 5, 3) := by decide +kernel
theorem d_M_run_26 : decode b_M_run 26 = .ok (.iconst 0, 1) := by decide +kernel
theorem d_M_run_27 : decode b_M_run 27 = .ok (.ireturn, 1) := by decide +kernel
theorem d_M_run_28 : decode b_M_run 28 = .ok (.aload_n 0, 1) := by decide +kernel
theorem d_M_run_29 : decode b_M_run 29 = .ok (.iconst 0, 1) := by decide +kernel
theorem d_M_run_30 : decode b_M_run 30 = .ok (.putfield 75, 3) := by decide +kernel
theorem d_M_run_33 : decode b_M_run 33 = .ok (.iload_n 1, 1) := by decide +kernel
theorem d_M_run_34 : decode b_M_run 34 = .ok (.istore_n 3, 1) := by decide +kernel
theorem d_M_run_35 : decode b_M_run 35 = .ok (.aload_n 0, 1) := by decide +kernel
theorem d_M_run_36 : decode b_M_run 36 = .ok (.getfield 7, 3) := by decide +kernel
theorem d_M_run_39 : decode b_M_run 39 = .ok (.iconst 0, 1) := by decide +kernel
theorem d_M_run_40 : decode b_M_run 40 = .ok (.iaload, 1) := by decide +kernel
theorem d_M_run_41 : decode b_M_run 41 = .ok (.istore 4, 2) := by decide +kernel
theorem d_M_run_43 : decode b_M_run 43 = .ok (.iload_n 3, 1) := by decide +kernel
theorem d_M_run_44 : decode b_M_run 44 = .ok (.iload 4, 2) := by decide +kernel
theorem d_M_run_46 : decode b_M_run 46 = .ok (.invokestatic 99, 3) := by decide +kernel
theorem d_M_run_49 : decode b_M_run 49 = .ok (.invokestatic 43, 3) := by decide +kernel
theorem d_M_run_52 : decode b_M_run 52 = .ok (.if_icmp .lt 40, 3) := by decide +kernel
theorem d_M_run_55 : decode b_M_run 55 = .ok (.aload_n 0, 1) := by decide +kernel
theorem d_M_run_56 : decode b_M_run 56 = .ok (.iconst 1, 1) := by decide +kernel
theorem d_M_run_57 : decode b_M_run 57 = .ok (.invokevirtual 78, 3) := by decide +kernel
theorem d_M_run_60 : decode b_M_run 60 = .ok (.iload_n 3, 1) := by decide +kernel
theorem d_M_run_61 : decode b_M_run 61 = .ok (.iload 4, 2) := by decide +kernel
theorem d_M_run_63 : decode b_M_run 63 = .ok (.invokestatic 99, 3) := by decide +kernel
theorem d_M_run_66 : decode b_M_run 66 = .ok (.invokestatic 43, 3) := by decide +kernel
theorem d_M_run_69 : decode b_M_run 69 = .ok (.isub, 1) := by decide +kernel
theorem d_M_run_70 : decode b_M_run 70 = .ok (.istore_n 3, 1) := by decide +kernel
theorem d_M_run_71 : decode b_M_run 71 = .ok (.iload 4, 2) := by decide +kernel
theorem d_M_run_73 : decode b_M_run 73 = .ok (.bipush 31, 2) := by decide +kernel
theorem d_M_run_75 : decode b_M_run 75 = .ok (.if_icmp .ge 10, 3) := by decide +kernel
theorem d_M_run_78 : decode b_M_run 78 = .ok (.iload 4, 2) := by decide +kernel
theorem d_M_run_80 : decode b_M_run 80 = .ok (.iconst 1, 1) := by decide +kernel
theorem d_M_run_81 : decode b_M_run 81 = .ok (.iadd, 1) := by decide +kernel
theorem d_M_run_82 : decode b_M_run 82 = .ok (.goto 5, 3) := by decide +kernel
theorem d_M_run_85 : decode b_M_run 85 = .ok (.iload 4, 2) := by decide +kernel
theorem d_M_run_87 : decode b_M_run 87 = .ok (.istore 4, 2) := by decide +kernel
theorem d_M_run_89 : decode b_M_run 89 = .ok (.goto (-46), 3) := by decide +kernel
theorem d_M_run_92 : decode b_M_run 92 = .ok (.iload 4, 2) := by decide +kernel
theorem d_M_run_94 : decode b_M_run 94 = .ok (.invokestatic 99, 3) := by decide +kernel
theorem d_M_run_97 : decode b_M_run 97 = .ok (.istore 5, 2) := by decide +kernel
theorem d_M_run_99 : decode b_M_run 99 = .ok (.iload_n 2, 1) := by decide +kernel
theorem d_M_run_100 : decode b_M_run 100 = .ok (.ifCond .eq 15, 3) := by decide +kernel
theorem d_M_run_103 : decode b_M_run 103 = .ok (.iload_n 3, 1) := by decide +kernel
theorem d_M_run_104 : decode b_M_run 104 = .ok (.ifCond .le 39, 3) := by decide +kernel
theorem d_M_run_107 : decode b_M_run 107 = .ok (.aload_n 0, 1) := by decide +kernel
theorem d_M_run_108 : decode b_M_run 108 = .ok (.iconst 1, 1) := by decide +kernel
theorem d_M_run_109 : decode b_M_run 109 = .ok (.invokevirtual 78, 3) := by decide +kernel
theorem d_M_run_112 : decode b_M_run 112 = .ok (.goto 31, 3) := by decide +kernel
theorem d_M_run_115 : decode b_M_run 115 = .ok (.aload_n 0, 1) := by decide +kernel
theorem d_M_run_116 : decode b_M_run 116 = .ok (.iconst 0, 1) := by decide +kernel
theorem d_M_run_117 : decode b_M_run 117 = .ok (.invokevirtual 78, 3) := by decide +kernel
theorem d_M_run_120 : decode b_M_run 120 = .ok (.aload_n 0, 1) := by decide +kernel
theorem d_M_run_121 : decode b_M_run 121 = .ok (.iload_n 3, 1) := by decide +kernel
theorem d_M_run_122 : decode b_M_run 122 = .ok (.iload 5, 2) := by decide +kernel
theorem d_M_run_124 : decode b_M_run 124 = .ok (.invokevirtual 82, 3) := by decide +kernel
theorem d_M_run_127 : decode b_M_run 127 = .ok (.iload 4, 2) := by decide +kernel
theorem d_M_run_129 : decode b_M_run 129 = .ok (.ifCond .le 10, 3) := by decide +kernel
theorem d_M_run_132 : decode b_M_run 132 = .ok (.iload 4, 2) := by decide +kernel
theorem d_M_run_134 : decode b_M_run 134 = .ok (.iconst 1, 1) := by decide +kernel
theorem d_M_run_135 : decode b_M_run 135 = .ok (.isub, 1) := by decide +kernel
theorem d_M_run_136 : decode b_M_run 136 = .ok (.goto 5, 3) := by decide +kernel
theorem d_M_run_139 : decode b_M_run 139 = .ok (.iload 4, 2) := by decide +kernel
theorem d_M_run_141 : decode b_M_run 141 = .ok (.istore 4, 2) := by decide +kernel
theorem d_M_run_143 : decode b_M_run 143 = .ok (.aload_n 0, 1) := by decide +kernel
theorem d_M_run_144 : decode b_M_run 144 = .ok (.aload_n 0, 1) := by decide +kernel
theorem d_M_run_145 : decode b_M_run 145 = .ok (.invokevirtual 90, 3) := by decide +kernel
theorem d_M_run_148 : decode b_M_run 148 = .ok (.ifCond .eq 7, 3) := by decide +kernel
theorem d_M_run_151 : decode b_M_run 151 = .ok (.iconst 0, 1) := by decide +kernel
theorem d_M_run_152 : decode b_M_run 152 = .ok (.goto 4, 3) := by decide +kernel
theorem d_M_run_155 : decode b_M_run 155 = .ok (.iconst 2, 1) := by decide +kernel
theorem d_M_run_156 : decode b_M_run 156 = .ok (.putfield 62, 3) := by decide +kernel
theorem d_M_run_159 : decode b_M_run 159 = .ok (.aload_n 0, 1) := by decide +kernel
theorem d_M_run_160 : decode b_M_run 160 = .ok (.getfield 62, 3) := by decide +kernel
theorem d_M_run_163 : decode b_M_run 163 = .ok (.ifCond .le 5, 3) := by decide +kernel
theorem d_M_run_166 : decode b_M_run 166 = .ok (.iconst 0, 1) := by decide +kernel
theorem d_M_run_167 : decode b_M_run 167 = .ok (.ireturn, 1) := by decide +kernel
theorem d_M_run_168 : decode b_M_run 168 = .ok (.aload_n 0, 1) := by decide +kernel
theorem d_M_run_169 : decode b_M_run 169 = .ok (.getfield 7, 3) := by decide +kernel
theorem d_M_run_172 : decode b_M_run 172 = .ok (.iconst 0, 1) := by decide +kernel
theorem d_M_run_173 : decode b_M_run 173 = .ok (.iload 4, 2) := by decide +kernel
theorem d_M_run_175 : decode b_M_run 175 = .ok (.iastore, 1) := by decide +kernel
theorem d_M_run_176 : decode b_M_run 176 = .ok (.aload_n 0, 1) := by decide +kernel
theorem d_M_run_177 : decode b_M_run 177 = .ok (.getfield 13, 3) := by decide +kernel
theorem d_M_run_180 : decode b_M_run 180 = .ok (.iconst 0, 1) := by decide +kernel
theorem d_M_run_181 : decode b_M_run 181 = .ok (.iload 5, 2) := by decide +kernel
theorem d_M_run_183 : decode b_M_run 183 = .ok (.iastore, 1) := by decide +kernel
theorem d_M_run_184 : decode b_M_run 184 = .ok (.aload_n 0, 1) := by decide +kernel
theorem d_M_run_185 : decode b_M_run 185 = .ok (.invokevirtual 94, 3) := by decide +kernel
theorem d_M_run_188 : decode b_M_run 188 = .ok (.ireturn, 1) := by decide +kernel
theorem d_M_widthOf_0 : decode b_M_widthOf 0 = .ok (.iload_n 0, 1) := by decide +kernel
theorem d_M_widthOf_1 : decode b_M_widthOf 1 = .ok (.bipush 16, 2) := by decide +kernel
theorem d_M_widthOf_3 : decode b_M_widthOf 3 = .ok (.if_icmp .ge 9, 3) := by decide +kernel
theorem d_M_widthOf_6 : decode b_M_widthOf 6 = .ok (.iload_n 0, 1) := by decide +kernel
theorem d_M_widthOf_7 : decode b_M_widthOf 7 = .ok (.iconst 4, 1) := by decide +kernel
theorem d_M_widthOf_8 : decode b_M_widthOf 8 = .ok (.idiv, 1) := by decide +kernel
theorem d_M_widthOf_9 : decode b_M_widthOf 9 = .ok (.goto 24, 3) := by decide +kernel
theorem d_M_widthOf_12 : decode b_M_widthOf 12 = .ok (.iload_n 0, 1) := by decide +kernel
theorem d_M_widthOf_13 : decode b_M_widthOf 13 = .ok (.bipush 24, 2) := by decide +kernel
theorem d_M_widthOf_15 : decode b_M_widthOf 15 = .ok (.if_icmp .ge 14, 3) := by decide +kernel
theorem d_M_widthOf_18 : decode b_M_widthOf 18 = .ok (.iconst 4, 1) := by decide +kernel
theorem d_M_widthOf_19 : decode b_M_widthOf 19 = .ok (.iload_n 0, 1) := by decide +kernel
theorem d_M_widthOf_20 : decode b_M_widthOf 20 = .ok (.bipush 16, 2) := by decide +kernel
theorem d_M_widthOf_22 : decode b_M_widthOf 22 = .ok (.isub, 1) := by decide +kernel
theorem d_M_widthOf_23 : decode b_M_widthOf 23 = .ok (.iconst 2, 1) := by decide +kernel
theorem d_M_widthOf_24 : decode b_M_widthOf 24 = .ok (.idiv, 1) := by decide +kernel
theorem d_M_widthOf_25 : decode b_M_widthOf 25 = .ok (.iadd, 1) := by decide +kernel
theorem d_M_widthOf_26 : decode b_M_widthOf 26 = .ok (.goto 7, 3) := by decide +kernel
theorem d_M_widthOf_29 : decode b_M_widthOf 29 = .ok (.iload_n 0, 1) := by decide +kernel
theorem d_M_widthOf_30 : decode b_M_widthOf 30 = .ok (.bipush 16, 2) := by decide +kernel
theorem d_M_widthOf_32 : decode b_M_widthOf 32 = .ok (.isub, 1) := by decide +kernel
theorem d_M_widthOf_33 : decode b_M_widthOf 33 = .ok (.ireturn, 1) := by decide +kernel
theorem d_M_interrupt_0 : decode b_M_interrupt 0 = .ok (.aload_n 0, 1) := by decide +kernel
theorem d_M_interrupt_1 : decode b_M_interrupt 1 = .ok (.aload_n 0, 1) := by decide +kernel
theorem d_M_interrupt_2 : decode b_M_interrupt 2 = .ok (.iload_n 1, 1) := by decide +kernel
theorem d_M_interrupt_3 : decode b_M_interrupt 3 = .ok (.invokevirtual 105, 3) := by decide +kernel
theorem d_M_interrupt_6 : decode b_M_interrupt 6 = .ok (.ifCond .ne 7, 3) := by decide +kernel
theorem d_M_interrupt_9 : decode b_M_interrupt 9 = .ok (.iconst 1, 1) := by decide +kernel
theorem d_M_interrupt_10 : decode b_M_interrupt 10 = .ok (.goto 17, 3) := by decide +kernel
theorem d_M_interrupt_13 : decode b_M_interrupt 13 = .ok (.aload_n 0, 1) := by decide +kernel
theorem d_M_interrupt_14 : decode b_M_interrupt 14 = .ok (.iload_n 1, 1) := by decide +kernel
theorem d_M_interrupt_15 : decode b_M_interrupt 15 = .ok (.iload_n 2, 1) := by decide +kernel
theorem d_M_interrupt_16 : decode b_M_interrupt 16 = .ok (.invokevirtual 109, 3) := by decide +kernel
theorem d_M_interrupt_19 : decode b_M_interrupt 19 = .ok (.ifCond .ne 7, 3) := by decide +kernel
theorem d_M_interrupt_22 : decode b_M_interrupt 22 = .ok (.iconst 2, 1) := by decide +kernel
theorem d_M_interrupt_23 : decode b_M_interrupt 23 = .ok (.goto 4, 3) := by decide +kernel
theorem d_M_interrupt_26 : decode b_M_interrupt 26 = .ok (.iconst 0, 1) := by decide +kernel
theorem d_M_interrupt_27 : decode b_M_interrupt 27 = .ok (.putfield 62, 3) := by decide +kernel
theorem d_M_interrupt_30 : decode b_M_interrupt 30 = .ok (.aload_n 0, 1) := by decide +kernel
theorem d_M_interrupt_31 : decode b_M_interrupt 31 = .ok (.getfield 62, 3) := by decide +kernel
theorem d_M_interrupt_34 : decode b_M_interrupt 34 = .ok (.ifCond .le 5, 3) := by decide +kernel
theorem d_M_interrupt_37 : decode b_M_interrupt 37 = .ok (.iconst 0, 1) := by decide +kernel
theorem d_M_interrupt_38 : decode b_M_interrupt 38 = .ok (.ireturn, 1) := by decide +kernel
theorem d_M_interrupt_39 : decode b_M_interrupt 39 = .ok (.aload_n 0, 1) := by decide +kernel
theorem d_M_interrupt_40 : decode b_M_interrupt 40 = .ok (.iload_n 1, 1) := by decide +kernel
theorem d_M_interrupt_41 : decode b_M_interrupt 41 = .ok (.invokevirtual 113, 3) := by decide +kernel
theorem d_M_interrupt_44 : decode b_M_interrupt 44 = .ok (.ifCond .eq 15, 3) := by decide +kernel
theorem d_M_interrupt_47 : decode b_M_interrupt 47 = .ok (.iload_n 2, 1) := by decide +kernel
theorem d_M_interrupt_48 : decode b_M_interrupt 48 = .ok (.ifCond .le 7, 3) := by decide +kernel
theorem d_M_interrupt_51 : decode b_M_interrupt 51 = .ok (.iconst 1, 1) := by decide +kernel
theorem d_M_interrupt_52 : decode b_M_interrupt 52 = .ok (.goto 16, 3) := by decide +kernel
theorem d_M_interrupt_55 : decode b_M_interrupt 55 = .ok (.iconst 0, 1) := by decide +kernel
theorem d_M_interrupt_56 : decode b_M_interrupt 56 = .ok (.goto 12, 3) := by decide +kernel
theorem d_M_interrupt_59 : decode b_M_interrupt 59 = .ok (.iload_n 2, 1) := by decide +kernel
theorem d_M_interrupt_60 : decode b_M_interrupt 60 = .ok (.ifCond .ge 7, 3) := by decide +kernel
theorem d_M_interrupt_63 : decode b_M_interrupt 63 = .ok (.iconst 1, 1) := by decide +kernel
theorem d_M_interrupt_64 : decode b_M_interrupt 64 = .ok (.goto 4, 3) := by decide +kernel
theorem d_M_interrupt_67 : decode b_M_interrupt 67 = .ok (.iconst 0, 1) := by decide +kernel
theorem d_M_interrupt_68 : decode b_M_interrupt 68 = .ok (.istore_n 3, 1) := by decide +kernel
theorem d_M_interrupt_69 : decode b_M_interrupt 69 = .ok (.iconst 2, 1) := by decide +kernel
theorem d_M_interrupt_70 : decode b_M_interrupt 70 = .ok (.iload_n 2, 1) := by decide +kernel
theorem d_M_interrupt_71 : decode b_M_interrupt 71 = .ok (.ifCond .ge 8, 3) := by decide +kernel
theorem d_M_interrupt_74 : decode b_M_interrupt 74 = .ok (.iload_n 2, 1) := by decide +kernel
theorem d_M_interrupt_75 : decode b_M_interrupt 75 = .ok (.ineg, 1) := by decide +kernel
theorem d_M_interrupt_76 : decode b_M_interrupt 76 = .ok (.goto 4, 3) := by decide +kernel
theorem d_M_interrupt_79 : decode b_M_interrupt 79 = .ok (.iload_n 2, 1) := by decide +kernel
theorem d_M_interrupt_80 : decode b_M_interrupt 80 = .ok (.imul, 1) := by decide +kernel
theorem d_M_interrupt_81 : decode b_M_interrupt 81 = .ok (.iload_n 1, 1) := by decide +kernel
theorem d_M_interrupt_82 : decode b_M_interrupt 82 = .ok (.isub, 1) := by decide +kernel
theorem d_M_interrupt_83 : decode b_M_interrupt 83 = .ok (.iload_n 3, 1) := by decide +kernel
theorem d_M_interrupt_84 : decode b_M_interrupt 84 = .ok (.ifCond .eq 7, 3) := by decide +kernel
theorem d_M_interrupt_87 : decode b_M_interrupt 87 = .ok (.iconst 1, 1) := by decide +kernel
theorem d_M_interrupt_88 : decode b_M_interrupt 88 = .ok (.goto 4, 3) := by decide +kernel
theorem d_M_interrupt_91 : decode b_M_interrupt 91 = .ok (.iconst 0, 1) := by decide +kernel
theorem d_M_interrupt_92 : decode b_M_interrupt 92 = .ok (.isub, 1) := by decide +kernel
theorem d_M_interrupt_93 : decode b_M_interrupt 93 = .ok (.istore 4, 2) := by decide +kernel
theorem d_M_interrupt_95 : decode b_M_interrupt 95 = .ok (.aload_n 0, 1) := by decide +kernel
theorem d_M_interrupt_96 : decode b_M_interrupt 96 = .ok (.iconst 0, 1) := by decide +kernel
theorem d_M_interrupt_97 : decode b_M_interrupt 97 = .ok (.putfield 75, 3) := by decide +kernel
theorem d_M_interrupt_100 : decode b_M_interrupt 100 = .ok (.aload_n 0, 1) := by decide +kernel
theorem d_M_interrupt_101 : decode b_M_interrupt 101 = .ok (.iload 4, 2) := by decide +kernel
theorem d_M_interrupt_103 : decode b_M_interrupt 103 = .ok (.aload_n 0, 1) := by decide +kernel
theorem d_M_interrupt_104 : decode b_M_interrupt 104 = .ok (.iload_n 1, 1) := by decide +kernel
theorem d_M_interrupt_105 : decode b_M_interrupt 105 = .ok (.invokevirtual 102, 3) := by decide +kernel
theorem d_M_interrupt_108 : decode b_M_interrupt 108 = .ok (.aload_n 0, 1) := by decide +kernel
theorem d_M_interrupt_109 : decode b_M_interrupt 109 = .ok (.iconst 0, 1) := by decide +kernel
theorem d_M_interrupt_110 : decode b_M_interrupt 110 = .ok (.invokevirtual 116, 3) := by decide +kernel
theorem d_M_interrupt_113 : decode b_M_interrupt 113 = .ok (.invokevirtual 86, 3) := by decide +kernel
theorem d_M_interrupt_116 : decode b_M_interrupt 116 = .ok (.aload_n 0, 1) := by decide +kernel
theorem d_M_interrupt_117 : decode b_M_interrupt 117 = .ok (.aload_n 0, 1) := by decide +kernel
theorem d_M_interrupt_118 : decode b_M_interrupt 118 = .ok (.invokevirtual 90, 3) := by decide +kernel
theorem d_M_interrupt_121 : decode b_M_interrupt 121 = .ok (.ifCond .eq 7, 3) := by decide +kernel
theorem d_M_interrupt_124 : decode b_M_interrupt 124 = .ok (.iconst 0, 1) := by decide +kernel
theorem d_M_interrupt_125 : decode b_M_interrupt 125 = .ok (.goto 4, 3) := by decide +kernel
theorem d_M_interrupt_128 : decode b_M_interrupt 128 = .ok (.iconst 3, 1) := by decide +kernel
theorem d_M_interrupt_129 : decode b_M_interrupt 129 = .ok (.putfield 62, 3) := by decide +kernel
theorem d_M_interrupt_132 : decode b_M_interrupt 132 = .ok (.aload_n 0, 1) := by decide +kernel
theorem d_M_interrupt_133 : decode b_M_interrupt 133 = .ok (.getfield 62, 3) := by decide +kernel
theorem d_M_interrupt_136 : decode b_M_interrupt 136 = .ok (.ifCond .le 5, 3) := by decide +kernel
theorem d_M_interrupt_139 : decode b_M_interrupt 139 = .ok (.iconst 0, 1) := by decide +kernel
theorem d_M_interrupt_140 : decode b_M_interrupt 140 = .ok (.ireturn, 1) := by decide +kernel
theorem d_M_interrupt_141 : decode b_M_interrupt 141 = .ok (.aload_n 0, 1) := by decide +kernel
theorem d_M_interrupt_142 : decode b_M_interrupt 142 = .ok (.iload_n 1, 1) := by decide +kernel
theorem d_M_interrupt_143 : decode b_M_interrupt 143 = .ok (.iload_n 1, 1) := by decide +kernel
theorem d_M_interrupt_144 : decode b_M_interrupt 144 = .ok (.iload 4, 2) := by decide +kernel
theorem d_M_interrupt_146 : decode b_M_interrupt 146 = .ok (.iload_n 2, 1) := by decide +kernel
theorem d_M_interrupt_147 : decode b_M_interrupt 147 = .ok (.invokevirtual 119, 3) := by decide +kernel
theorem d_M_interrupt_150 : decode b_M_interrupt 150 = .ok (.aload_n 0, 1) := by decide +kernel
theorem d_M_interrupt_151 : decode b_M_interrupt 151 = .ok (.invokevirtual 94, 3) := by decide +kernel
theorem d_M_interrupt_154 : decode b_M_interrupt 154 = .ok (.ireturn, 1) := by decide +kernel
theorem d_M_isKind_0 : decode b_M_isKind 0 = .ok (.iload_n 1, 1) := by decide +kernel
theorem d_M_isKind_1 : decode b_M_isKind 1 = .ok (.ifCond .eq 8, 3) := by decide +kernel
theorem d_M_isKind_4 : decode b_M_isKind 4 = .ok (.iload_n 1, 1) := by decide +kernel
theorem d_M_isKind_5 : decode b_M_isKind 5 = .ok (.iconst 1, 1) := by decide +kernel
theorem d_M_isKind_6 : decode b_M_isKind 6 = .ok (.if_icmp .ne 7, 3) := by decide +kernel
theorem d_M_isKind_9 : decode b_M_isKind 9 = .ok (.iconst 1, 1) := by decide +kernel
theorem d_M_isKind_10 : decode b_M_isKind 10 = .ok (.goto 4, 3) := by decide +kernel
theorem d_M_isKind_13 : decode b_M_isKind 13 = .ok (.iconst 0, 1) := by decide +kernel
theorem d_M_isKind_14 : decode b_M_isKind 14 = .ok (.ireturn, 1) := by decide +kernel
theorem d_M_isError_0 : decode b_M_isError 0 = .ok (.iload_n 2, 1) := by decide +kernel
theorem d_M_isError_1 : decode b_M_isError 1 = .ok (.aload_n 0, 1) := by decide +kernel
theorem d_M_isError_2 : decode b_M_isError 2 = .ok (.getfield 50, 3) := by decide +kernel
theorem d_M_isError_5 : decode b_M_isError 5 = .ok (.iconst 2, 1) := by decide +kernel
theorem d_M_isError_6 : decode b_M_isError 6 = .ok (.idiv, 1) := by decide +kernel
theorem d_M_isError_7 : decode b_M_isError 7 = .ok (.ineg, 1) := by decide +kernel
theorem d_M_isError_8 : decode b_M_isError 8 = .ok (.if_icmp .lt 25, 3) := by decide +kernel
theorem d_M_isError_11 : decode b_M_isError 11 = .ok (.iload_n 2, 1) := by decide +kernel
theorem d_M_isError_12 : decode b_M_isError 12 = .ok (.aload_n 0, 1) := by decide +kernel
theorem d_M_isError_13 : decode b_M_isError 13 = .ok (.getfield 50, 3) := by decide +kernel
theorem d_M_isError_16 : decode b_M_isError 16 = .ok (.iconst 2, 1) := by decide +kernel
theorem d_M_isError_17 : decode b_M_isError 17 = .ok (.idiv, 1) := by decide +kernel
theorem d_M_isError_18 : decode b_M_isError 18 = .ok (.if_icmp .gt 15, 3) := by decide +kernel
theorem d_M_isError_21 : decode b_M_isError 21 = .ok (.iload_n 1, 1) := by decide +kernel
theorem d_M_isError_22 : decode b_M_isError 22 = .ok (.ifCond .eq 7, 3) := by decide +kernel
theorem d_M_isError_25 : decode b_M_isError 25 = .ok (.iload_n 2, 1) := by decide +kernel
theorem d_M_isError_26 : decode b_M_isError 26 = .ok (.ifCond .eq 7, 3) := by decide +kernel
theorem d_M_isError_29 : decode b_M_isError 29 = .ok (.iconst 1, 1) := by decide +kernel
theorem d_M_isError_30 : decode b_M_isError 30 = .ok (.goto 4, 3) := by decide +kernel
theorem d_M_isError_33 : decode b_M_isError 33 = .ok (.iconst 0, 1) := by decide +kernel
theorem d_M_isError_34 : decode b_M_isError 34 = .ok (.ireturn, 1) := by decide +kernel
theorem d_M_isUp_0 : decode b_M_isUp 0 = .ok (.aload_n 0, 1) := by decide +kernel
theorem d_M_isUp_1 : decode b_M_isUp 1 = .ok (.iload_n 1, 1) := by decide +kernel
theorem d_M_isUp_2 : decode b_M_isUp 2 = .ok (.invokevirtual 102, 3) := by decide +kernel
theorem d_M_isUp_5 : decode b_M_isUp 5 = .ok (.ifCond .ne 24, 3) := by decide +kernel
theorem d_M_isUp_8 : decode b_M_isUp 8 = .ok (.iconst 2, 1) := by decide +kernel
theorem d_M_isUp_9 : decode b_M_isUp 9 = .ok (.aload_n 0, 1) := by decide +kernel
theorem d_M_isUp_10 : decode b_M_isUp 10 = .ok (.getfield 22, 3) := by decide +kernel
theorem d_M_isUp_13 : decode b_M_isUp 13 = .ok (.iload_n 1, 1) := by decide +kernel
theorem d_M_isUp_14 : decode b_M_isUp 14 = .ok (.iaload, 1) := by decide +kernel
theorem d_M_isUp_15 : decode b_M_isUp 15 = .ok (.imul, 1) := by decide +kernel
theorem d_M_isUp_16 : decode b_M_isUp 16 = .ok (.aload_n 0, 1) := by decide +kernel
theorem d_M_isUp_17 : decode b_M_isUp 17 = .ok (.getfield 19, 3) := by decide +kernel
theorem d_M_isUp_20 : decode b_M_isUp 20 = .ok (.iload_n 1, 1) := by decide +kernel
theorem d_M_isUp_21 : decode b_M_isUp 21 = .ok (.iaload, 1) := by decide +kernel
theorem d_M_isUp_22 : decode b_M_isUp 22 = .ok (.if_icmp .ge 7, 3) := by decide +kernel
theorem d_M_isUp_25 : decode b_M_isUp 25 = .ok (.iconst 1, 1) := by decide +kernel
theorem d_M_isUp_26 : decode b_M_isUp 26 = .ok (.goto 4, 3) := by decide +kernel
theorem d_M_isUp_29 : decode b_M_isUp 29 = .ok (.iconst 0, 1) := by decide +kernel
theorem d_M_isUp_30 : decode b_M_isUp 30 = .ok (.ireturn, 1) := by decide +kernel
theorem d_M_kOf_0 : decode b_M_kOf 0 = .ok (.aload_n 0, 1) := by decide +kernel
theorem d_M_kOf_1 : decode b_M_kOf 1 = .ok (.getfield 16, 3) := by decide +kernel
theorem d_M_kOf_4 : decode b_M_kOf 4 = .ok (.iload_n 1, 1) := by decide +kernel
theorem d_M_kOf_5 : decode b_M_kOf 5 = .ok (.iaload, 1) := by decide +kernel
theorem d_M_kOf_6 : decode b_M_kOf 6 = .ok (.iload_n 1, 1) := by decide +kernel
theorem d_M_kOf_7 : decode b_M_kOf 7 = .ok (.iconst 2, 1) := by decide +kernel
theorem d_M_kOf_8 : decode b_M_kOf 8 = .ok (.irem, 1) := by decide +kernel
theorem d_M_kOf_9 : decode b_M_kOf 9 = .ok (.iconst 1, 1) := by decide +kernel
theorem d_M_kOf_10 : decode b_M_kOf 10 = .ok (.if_icmp .ne 14, 3) := by decide +kernel
theorem d_M_kOf_13 : decode b_M_kOf 13 = .ok (.aload_n 0, 1) := by decide +kernel
theorem d_M_kOf_14 : decode b_M_kOf 14 = .ok (.getfield 19, 3) := by decide +kernel
theorem d_M_kOf_17 : decode b_M_kOf 17 = .ok (.iload_n 1, 1) := by decide +kernel
theorem d_M_kOf_18 : decode b_M_kOf 18 = .ok (.iaload, 1) := by decide +kernel
theorem d_M_kOf_19 : decode b_M_kOf 19 = .ok (.iconst 2, 1) := by decide +kernel
theorem d_M_kOf_20 : decode b_M_kOf 20 = .ok (.idiv, 1) := by decide +kernel
theorem d_M_kOf_21 : decode b_M_kOf 21 = .ok (.goto 4, 3) := by decide +kernel
theorem d_M_kOf_24 : decode b_M_kOf 24 = .ok (.iconst 0, 1) := by decide +kernel
theorem d_M_kOf_25 : decode b_M_kOf 25 = .ok (.iadd, 1) := by decide +kernel
theorem d_M_kOf_26 : decode b_M_kOf 26 = .ok (.istore_n 2, 1) := by decide +kernel
theorem d_M_kOf_27 : decode b_M_kOf 27 = .ok (.iconst 0, 1) := by decide +kernel
theorem d_M_kOf_28 : decode b_M_kOf 28 = .ok (.istore_n 3, 1) := by decide +kernel
theorem d_M_kOf_29 : decode b_M_kOf 29 = .ok (.aload_n 0, 1) := by decide +kernel
theorem d_M_kOf_30 : decode b_M_kOf 30 = .ok (.getfield 19, 3) := by decide +kernel
theorem d_M_kOf_33 : decode b_M_kOf 33 = .ok (.iload_n 1, 1) := by decide +kernel
theorem d_M_kOf_34 : decode b_M_kOf 34 = .ok (.iaload, 1) := by decide +kernel
theorem d_M_kOf_35 : decode b_M_kOf 35 = .ok (.i2l, 1) := by decide +kernel
theorem d_M_kOf_36 : decode b_M_kOf 36 = .ok (.iload_n 3, 1) := by decide +kernel
theorem d_M_kOf_37 : decode b_M_kOf 37 = .ok (.invokestatic 43, 3) := by decide +kernel
theorem d_M_kOf_40 : decode b_M_kOf 40 = .ok (.i2l, 1) := by decide +kernel
theorem d_M_kOf_41 : decode b_M_kOf 41 = .ok (.lmul, 1) := by decide +kernel
theorem d_M_kOf_42 : decode b_M_kOf 42 = .ok (.iload_n 2, 1) := by decide +kernel
theorem d_M_kOf_43 : decode b_M_kOf 43 = .ok (.i2l, 1) := by decide +kernel
theorem d_M_kOf_44 : decode b_M_kOf 44 = .ok (.lcmp, 1) := by decide +kernel
theorem d_M_kOf_45 : decode b_M_kOf 45 = .ok (.ifCond .ge 9, 3) := by decide +kernel
theorem d_M_kOf_48 : decode b_M_kOf 48 = .ok (.iinc 3 1, 3) := by decide +kernel
theorem d_M_kOf_51 : decode b_M_kOf 51 = .ok (.goto (-22), 3) := by decide +kernel
theorem d_M_kOf_54 : decode b_M_kOf 54 = .ok (.iload_n 3, 1) := by decide +kernel
theorem d_M_kOf_55 : decode b_M_kOf 55 = .ok (.ireturn, 1) := by decide +kernel
theorem d_M_limitFor_0 : decode b_M_limitFor 0 = .ok (.aload_n 0, 1) := by decide +kernel
theorem d_M_limitFor_1 : decode b_M_limitFor 1 = .ok (.getfield 56, 3) := by decide +kernel
theorem d_M_limitFor_4 : decode b_M_limitFor 4 = .ok (.iconst 1, 1) := by decide +kernel
theorem d_M_limitFor_5 : decode b_M_limitFor 5 = .ok (.isub, 1) := by decide +kernel
theorem d_M_limitFor_6 : decode b_M_limitFor 6 = .ok (.aload_n 0, 1) := by decide +kernel
theorem d_M_limitFor_7 : decode b_M_limitFor 7 = .ok (.getfield 13, 3) := by decide +kernel
theorem d_M_limitFor_10 : decode b_M_limitFor 10 = .ok (.iload_n 1, 1) := by decide +kernel
theorem d_M_limitFor_11 : decode b_M_limitFor 11 = .ok (.iaload, 1) := by decide +kernel
theorem d_M_limitFor_12 : decode b_M_limitFor 12 = .ok (.isub, 1) := by decide +kernel
theorem d_M_limitFor_13 : decode b_M_limitFor 13 = .ok (.ireturn, 1) := by decide +kernel
theorem d_M_learn_0 : decode b_M_learn 0 = .ok (.aload_n 0, 1) := by decide +kernel
theorem d_M_learn_1 : decode b_M_learn 1 = .ok (.getfield 22, 3) := by decide +kernel
theorem d_M_learn_4 : decode b_M_learn 4 = .ok (.iload_n 1, 1) := by decide +kernel
theorem d_M_learn_5 : decode b_M_learn 5 = .ok (.iload 4, 2) := by decide +kernel
theorem d_M_learn_7 : decode b_M_learn 7 = .ok (.ifCond .ge 14, 3) := by decide +kernel
theorem d_M_learn_10 : decode b_M_learn 10 = .ok (.aload_n 0, 1) := by decide +kernel
theorem d_M_learn_11 : decode b_M_learn 11 = .ok (.getfield 22, 3) := by decide +kernel
theorem d_M_learn_14 : decode b_M_learn 14 = .ok (.iload_n 1, 1) := by decide +kernel
theorem d_M_learn_15 : decode b_M_learn 15 = .ok (.iaload, 1) := by decide +kernel
theorem d_M_learn_16 : decode b_M_learn 16 = .ok (.iconst 1, 1) := by decide +kernel
theorem d_M_learn_17 : decode b_M_learn 17 = .ok (.iadd, 1) := by decide +kernel
theorem d_M_learn_18 : decode b_M_learn 18 = .ok (.goto 9, 3) := by decide +kernel
theorem d_M_learn_21 : decode b_M_learn 21 = .ok (.aload_n 0, 1) := by decide +kernel
theorem d_M_learn_22 : decode b_M_learn 22 = .ok (.getfield 22, 3) := by decide +kernel
theorem d_M_learn_25 : decode b_M_learn 25 = .ok (.iload_n 1, 1) := by decide +kernel
theorem d_M_learn_26 : decode b_M_learn 26 = .ok (.iaload, 1) := by decide +kernel
theorem d_M_learn_27 : decode b_M_learn 27 = .ok (.iastore, 1) := by decide +kernel
theorem d_M_learn_28 : decode b_M_learn 28 = .ok (.aload_n 0, 1) := by decide +kernel
theorem d_M_learn_29 : decode b_M_learn 29 = .ok (.getfield 16, 3) := by decide +kernel
theorem d_M_learn_32 : decode b_M_learn 32 = .ok (.iload_n 1, 1) := by decide +kernel
theorem d_M_learn_33 : decode b_M_learn 33 = .ok (.aload_n 0, 1) := by decide +kernel
theorem d_M_learn_34 : decode b_M_learn 34 = .ok (.getfield 16, 3) := by decide +kernel
theorem d_M_learn_37 : decode b_M_learn 37 = .ok (.iload_n 1, 1) := by decide +kernel
theorem d_M_learn_38 : decode b_M_learn 38 = .ok (.iaload, 1) := by decide +kernel
theorem d_M_learn_39 : decode b_M_learn 39 = .ok (.iload_n 3, 1) := by decide +kernel
theorem d_M_learn_40 : decode b_M_learn 40 = .ok (.iconst 1, 1) := by decide +kernel
theorem d_M_learn_41 : decode b_M_learn 41 = .ok (.iadd, 1) := by decide +kernel
theorem d_M_learn_42 : decode b_M_learn 42 = .ok (.iload_n 2, 1) := by decide +kernel
theorem d_M_learn_43 : decode b_M_learn 43 = .ok (.isub, 1) := by decide +kernel
theorem d_M_learn_44 : decode b_M_learn 44 = .ok (.iconst 2, 1) := by decide +kernel
theorem d_M_learn_45 : decode b_M_learn 45 = .ok (.idiv, 1) := by decide +kernel
theorem d_M_learn_46 : decode b_M_learn 46 = .ok (.iadd, 1) := by decide +kernel
theorem d_M_learn_47 : decode b_M_learn 47 = .ok (.iastore, 1) := by decide +kernel
theorem d_M_learn_48 : decode b_M_learn 48 = .ok (.aload_n 0, 1) := by decide +kernel
theorem d_M_learn_49 : decode b_M_learn 49 = .ok (.getfield 19, 3) := by decide +kernel
theorem d_M_learn_52 : decode b_M_learn 52 = .ok (.iload_n 1, 1) := by decide +kernel
theorem d_M_learn_53 : decode b_M_learn 53 = .ok (.iaload, 1) := by decide +kernel
theorem d_M_learn_54 : decode b_M_learn 54 = .ok (.bipush 64, 2) := by decide +kernel
theorem d_M_learn_56 : decode b_M_learn 56 = .ok (.if_icmp .ne 45, 3) := by decide +kernel
theorem d_M_learn_59 : decode b_M_learn 59 = .ok (.aload_n 0, 1) := by decide +kernel
theorem d_M_learn_60 : decode b_M_learn 60 = .ok (.getfield 16, 3) := by decide +kernel
theorem d_M_learn_63 : decode b_M_learn 63 = .ok (.iload_n 1, 1) := by decide +kernel
theorem d_M_learn_64 : decode b_M_learn 64 = .ok (.aload_n 0, 1) := by decide +kernel
theorem d_M_learn_65 : decode b_M_learn 65 = .ok (.getfield 16, 3) := by decide +kernel
theorem d_M_learn_68 : decode b_M_learn 68 = .ok (.iload_n 1, 1) := by decide +kernel
theorem d_M_learn_69 : decode b_M_learn 69 = .ok (.iaload, 1) := by decide +kernel
theorem d_M_learn_70 : decode b_M_learn 70 = .ok (.iconst 2, 1) := by decide +kernel
theorem d_M_learn_71 : decode b_M_learn 71 = .ok (.idiv, 1) := by decide +kernel
theorem d_M_learn_72 : decode b_M_learn 72 = .ok (.iastore, 1) := by decide +kernel
theorem d_M_learn_73 : decode b_M_learn 73 = .ok (.aload_n 0, 1) := by decide +kernel
theorem d_M_learn_74 : decode b_M_learn 74 = .ok (.getfield 19, 3) := by decide +kernel
theorem d_M_learn_77 : decode b_M_learn 77 = .ok (.iload_n 1, 1) := by decide +kernel
theorem d_M_learn_78 : decode b_M_learn 78 = .ok (.aload_n 0, 1) := by decide +kernel
theorem d_M_learn_79 : decode b_M_learn 79 = .ok (.getfield 19, 3) := by decide +kernel
theorem d_M_learn_82 : decode b_M_learn 82 = .ok (.iload_n 1, 1) := by decide +kernel
theorem d_M_learn_83 : decode b_M_learn 83 = .ok (.iaload, 1) := by decide +kernel
theorem d_M_learn_84 : decode b_M_learn 84 = .ok (.iconst 2, 1) := by decide +kernel
theorem d_M_learn_85 : decode b_M_learn 85 = .ok (.idiv, 1) := by decide +kernel
theorem d_M_learn_86 : decode b_M_learn 86 = .ok (.iastore, 1) := by decide +kernel
theorem d_M_learn_87 : decode b_M_learn 87 = .ok (.aload_n 0, 1) := by decide +kernel
theorem d_M_learn_88 : decode b_M_learn 88 = .ok (.getfield 22, 3) := by decide +kernel
theorem d_M_learn_91 : decode b_M_learn 91 = .ok (.iload_n 1, 1) := by decide +kernel
theorem d_M_learn_92 : decode b_M_learn 92 = .ok (.aload_n 0, 1) := by decide +kernel
theorem d_M_learn_93 : decode b_M_learn 93 = .ok (.getfield 22, 3) := by decide +kernel
theorem d_M_learn_96 : decode b_M_learn 96 = .ok (.iload_n 1, 1) := by decide +kernel
theorem d_M_learn_97 : decode b_M_learn 97 = .ok (.iaload, 1) := by decide +kernel
theorem d_M_learn_98 : decode b_M_learn 98 = .ok (.iconst 2, 1) := by decide +kernel
theorem d_M_learn_99 : decode b_M_learn 99 = .ok (.idiv, 1) := by decide +kernel
theorem d_M_learn_100 : decode b_M_learn 100 = .ok (.iastore, 1) := by decide +kernel
theorem d_M_learn_101 : decode b_M_learn 101 = .ok (.aload_n 0, 1) := by decide +kernel
theorem d_M_learn_102 : decode b_M_learn 102 = .ok (.getfield 19, 3) := by decide +kernel
theorem d_M_learn_105 : decode b_M_learn 105 = .ok (.iload_n 1, 1) := by decide +kernel
theorem d_M_learn_106 : decode b_M_learn 106 = .ok (.dup2, 1) := by decide +kernel
theorem d_M_learn_107 : decode b_M_learn 107 = .ok (.iaload, 1) := by decide +kernel
theorem d_M_learn_108 : decode b_M_learn 108 = .ok (.iconst 1, 1) := by decide +kernel
theorem d_M_learn_109 : decode b_M_learn 109 = .ok (.iadd, 1) := by decide +kernel
theorem d_M_learn_110 : decode b_M_learn 110 = .ok (.iastore, 1) := by decide +kernel
theorem d_M_learn_111 : decode b_M_learn 111 = .ok (.return_, 1) := by decide +kernel
theorem d_M_bitAt_0 : decode b_M_bitAt 0 = .ok (.aload_n 0, 1) := by decide +kernel
theorem d_M_bitAt_1 : decode b_M_bitAt 1 = .ok (.iload_n 1, 1) := by decide +kernel
theorem d_M_bitAt_2 : decode b_M_bitAt 2 = .ok (.ifCond .lt 11, 3) := by decide +kernel
theorem d_M_bitAt_5 : decode b_M_bitAt 5 = .ok (.iload_n 1, 1) := by decide +kernel
theorem d_M_bitAt_6 : decode b_M_bitAt 6 = .ok (.aload_n 0, 1) := by decide +kernel
theorem d_M_bitAt_7 : decode b_M_bitAt 7 = .ok (.getfield 69, 3) := by decide +kernel
theorem d_M_bitAt_10 : decode b_M_bitAt 10 = .ok (.if_icmp .lt 7, 3) := by decide +kernel
theorem d_M_bitAt_13 : decode b_M_bitAt 13 = .ok (.iconst 1, 1) := by decide +kernel
theorem d_M_bitAt_14 : decode b_M_bitAt 14 = .ok (.goto 4, 3) := by decide +kernel
theorem d_M_bitAt_17 : decode b_M_bitAt 17 = .ok (.iconst 0, 1) := by decide +kernel
theorem d_M_bitAt_18 : decode b_M_bitAt 18 = .ok (.putfield 62, 3) := by decide +kernel
theorem d_M_bitAt_21 : decode b_M_bitAt 21 = .ok (.aload_n 0, 1) := by decide +kernel
theorem d_M_bitAt_22 : decode b_M_bitAt 22 = .ok (.getfield 62, 3) := by decide +kernel
theorem d_M_bitAt_25 : decode b_M_bitAt 25 = .ok (.ifCond .le 7, 3) := by decide +kernel
theorem d_M_bitAt_28 : decode b_M_bitAt 28 = .ok (.iconst 0, 1) := by decide +kernel
theorem d_M_bitAt_29 : decode b_M_bitAt 29 = .ok (.goto 9, 3) := by decide +kernel
theorem d_M_bitAt_32 : decode b_M_bitAt 32 = .ok (.aload_n 0, 1) := by decide +kernel
theorem d_M_bitAt_33 : decode b_M_bitAt 33 = .ok (.getfield 25, 3) := by decide +kernel
theorem d_M_bitAt_36 : decode b_M_bitAt 36 = .ok (.iload_n 1, 1) := by decide +kernel
theorem d_M_bitAt_37 : decode b_M_bitAt 37 = .ok (.baload, 1) := by decide +kernel
theorem d_M_bitAt_38 : decode b_M_bitAt 38 = .ok (.ireturn, 1) := by decide +kernel
theorem d_M_size_0 : decode b_M_size 0 = .ok (.aload_n 0, 1) := by decide +kernel
theorem d_M_size_1 : decode b_M_size 1 = .ok (.iconst 0, 1) := by decide +kernel
theorem d_M_size_2 : decode b_M_size 2 = .ok (.putfield 62, 3) := by decide +kernel
theorem d_M_size_5 : decode b_M_size 5 = .ok (.aload_n 0, 1) := by decide +kernel
theorem d_M_size_6 : decode b_M_size 6 = .ok (.getfield 69, 3) := by decide +kernel
theorem d_M_size_9 : decode b_M_size 9 = .ok (.ireturn, 1) := by decide +kernel
theorem d_M_feed_0 : decode b_M_feed 0 = .ok (.aload_n 0, 1) := by decide +kernel
theorem d_M_feed_1 : decode b_M_feed 1 = .ok (.iload_n 1, 1) := by decide +kernel
theorem d_M_feed_2 : decode b_M_feed 2 = .ok (.ifCond .eq 8, 3) := by decide +kernel
theorem d_M_feed_5 : decode b_M_feed 5 = .ok (.iload_n 1, 1) := by decide +kernel
theorem d_M_feed_6 : decode b_M_feed 6 = .ok (.iconst 1, 1) := by decide +kernel
theorem d_M_feed_7 : decode b_M_feed 7 = .ok (.if_icmp .ne 7, 3) := by decide +kernel
theorem d_M_feed_10 : decode b_M_feed 10 = .ok (.iconst 0, 1) := by decide +kernel
theorem d_M_feed_11 : decode b_M_feed 11 = .ok (.goto 4, 3) := by decide +kernel
theorem d_M_feed_14 : decode b_M_feed 14 = .ok (.iconst 1, 1) := by decide +kernel
theorem d_M_feed_15 : decode b_M_feed 15 = .ok (.putfield 62, 3) := by decide +kernel
theorem d_M_feed_18 : decode b_M_feed 18 = .ok (.aload_n 0, 1) := by decide +kernel
theorem d_M_feed_19 : decode b_M_feed 19 = .ok (.getfield 62, 3) := by decide +kernel
theorem d_M_feed_22 : decode b_M_feed 22 = .ok (.ifCond .ne 15, 3) := by decide +kernel
theorem d_M_feed_25 : decode b_M_feed 25 = .ok (.aload_n 0, 1) := by decide +kernel
theorem d_M_feed_26 : decode b_M_feed 26 = .ok (.iload_n 1, 1) := by decide +kernel
theorem d_M_feed_27 : decode b_M_feed 27 = .ok (.invokevirtual 123, 3) := by decide +kernel
theorem d_M_feed_30 : decode b_M_feed 30 = .ok (.ifCond .eq 7, 3) := by decide +kernel
theorem d_M_feed_33 : decode b_M_feed 33 = .ok (.iconst 1, 1) := by decide +kernel
theorem d_M_feed_34 : decode b_M_feed 34 = .ok (.goto 4, 3) := by decide +kernel
theorem d_M_feed_37 : decode b_M_feed 37 = .ok (.iconst 0, 1) := by decide +kernel
theorem d_M_feed_38 : decode b_M_feed 38 = .ok (.ireturn, 1) := by decide +kernel
theorem d_M_comes_0 : decode b_M_comes 0 = .ok (.aload_n 0, 1) := by decide +kernel
theorem d_M_comes_1 : decode b_M_comes 1 = .ok (.getfield 72, 3) := by decide +kernel
theorem d_M_comes_4 : decode b_M_comes 4 = .ok (.sipush 1000, 3) := by decide +kernel
theorem d_M_comes_7 : decode b_M_comes 7 = .ok (.if_icmp .ne 5, 3) := by decide +kernel
theorem d_M_comes_10 : decode b_M_comes 10 = .ok (.iconst 0, 1) := by decide +kernel
theorem d_M_comes_11 : decode b_M_comes 11 = .ok (.ireturn, 1) := by decide +kernel
theorem d_M_comes_12 : decode b_M_comes 12 = .ok (.aload_n 0, 1) := by decide +kernel
theorem d_M_comes_13 : decode b_M_comes 13 = .ok (.getfield 29, 3) := by decide +kernel
theorem d_M_comes_16 : decode b_M_comes 16 = .ok (.aload_n 0, 1) := by decide +kernel
theorem d_M_comes_17 : decode b_M_comes 17 = .ok (.getfield 72, 3) := by decide +kernel
theorem d_M_comes_20 : decode b_M_comes 20 = .ok (.iload_n 1, 1) := by decide +kernel
theorem d_M_comes_21 : decode b_M_comes 21 = .ok (.i2b, 1) := by decide +kernel
theorem d_M_comes_22 : decode b_M_comes 22 = .ok (.bastore, 1) := by decide +kernel
theorem d_M_comes_23 : decode b_M_comes 23 = .ok (.aload_n 0, 1) := by decide +kernel
theorem d_M_comes_24 : decode b_M_comes 24 = .ok (.dup, 1) := by decide +kernel
theorem d_M_comes_25 : decode b_M_comes 25 = .ok (.getfield 72, 3) := by decide +kernel
theorem d_M_comes_28 : decode b_M_comes 28 = .ok (.iconst 1, 1) := by decide +kernel
theorem d_M_comes_29 : decode b_M_comes 29 = .ok (.iadd, 1) := by decide +kernel
theorem d_M_comes_30 : decode b_M_comes 30 = .ok (.putfield 72, 3) := by decide +kernel
theorem d_M_comes_33 : decode b_M_comes 33 = .ok (.iconst 1, 1) := by decide +kernel
theorem d_M_comes_34 : decode b_M_comes 34 = .ok (.ireturn, 1) := by decide +kernel
theorem d_M_pass_0 : decode b_M_pass 0 = .ok (.aload_n 0, 1) := by decide +kernel
theorem d_M_pass_1 : decode b_M_pass 1 = .ok (.iload_n 1, 1) := by decide +kernel
theorem d_M_pass_2 : decode b_M_pass 2 = .ok (.ifCond .lt 11, 3) := by decide +kernel
theorem d_M_pass_5 : decode b_M_pass 5 = .ok (.iload_n 1, 1) := by decide +kernel
theorem d_M_pass_6 : decode b_M_pass 6 = .ok (.aload_n 0, 1) := by decide +kernel
theorem d_M_pass_7 : decode b_M_pass 7 = .ok (.getfield 69, 3) := by decide +kernel
theorem d_M_pass_10 : decode b_M_pass 10 = .ok (.if_icmp .le 7, 3) := by decide +kernel
theorem d_M_pass_13 : decode b_M_pass 13 = .ok (.iconst 1, 1) := by decide +kernel
theorem d_M_pass_14 : decode b_M_pass 14 = .ok (.goto 12, 3) := by decide +kernel
theorem d_M_pass_17 : decode b_M_pass 17 = .ok (.iload_n 2, 1) := by decide +kernel
theorem d_M_pass_18 : decode b_M_pass 18 = .ok (.ifCond .ge 7, 3) := by decide +kernel
theorem d_M_pass_21 : decode b_M_pass 21 = .ok (.iconst 2, 1) := by decide +kernel
theorem d_M_pass_22 : decode b_M_pass 22 = .ok (.goto 4, 3) := by decide +kernel
theorem d_M_pass_25 : decode b_M_pass 25 = .ok (.iconst 0, 1) := by decide +kernel
theorem d_M_pass_26 : decode b_M_pass 26 = .ok (.putfield 62, 3) := by decide +kernel
theorem d_M_pass_29 : decode b_M_pass 29 = .ok (.aload_n 0, 1) := by decide +kernel
theorem d_M_pass_30 : decode b_M_pass 30 = .ok (.getfield 62, 3) := by decide +kernel
theorem d_M_pass_33 : decode b_M_pass 33 = .ok (.ifCond .le 5, 3) := by decide +kernel
theorem d_M_pass_36 : decode b_M_pass 36 = .ok (.iconst 0, 1) := by decide +kernel
theorem d_M_pass_37 : decode b_M_pass 37 = .ok (.ireturn, 1) := by decide +kernel
theorem d_M_pass_38 : decode b_M_pass 38 = .ok (.iconst 0, 1) := by decide +kernel
theorem d_M_pass_39 : decode b_M_pass 39 = .ok (.istore_n 3, 1) := by decide +kernel
theorem d_M_pass_40 : decode b_M_pass 40 = .ok (.iload_n 3, 1) := by decide +kernel
theorem d_M_pass_41 : decode b_M_pass 41 = .ok (.iload_n 2, 1) := by decide +kernel
theorem d_M_pass_42 : decode b_M_pass 42 = .ok (.if_icmp .ge 43, 3) := by decide +kernel
theorem d_M_pass_45 : decode b_M_pass 45 = .ok (.iload_n 1, 1) := by decide +kernel
theorem d_M_pass_46 : decode b_M_pass 46 = .ok (.iload_n 3, 1) := by decide +kernel
theorem d_M_pass_47 : decode b_M_pass 47 = .ok (.iadd, 1) := by decide +kernel
theorem d_M_pass_48 : decode b_M_pass 48 = .ok (.aload_n 0, 1) := by decide +kernel
theorem d_M_pass_49 : decode b_M_pass 49 = .ok (.getfield 69, 3) := by decide +kernel
theorem d_M_pass_52 : decode b_M_pass 52 = .ok (.if_icmp .ge 33, 3) := by decide +kernel
theorem d_M_pass_55 : decode b_M_pass 55 = .ok (.aload_n 0, 1) := by decide +kernel
theorem d_M_pass_56 : decode b_M_pass 56 = .ok (.getfield 72, 3) := by decide +kernel
theorem d_M_pass_59 : decode b_M_pass 59 = .ok (.sipush 1000, 3) := by decide +kernel
theorem d_M_pass_62 : decode b_M_pass 62 = .ok (.if_icmp .ge 23, 3) := by decide +kernel
theorem d_M_pass_65 : decode b_M_pass 65 = .ok (.aload_n 0, 1) := by decide +kernel
theorem d_M_pass_66 : decode b_M_pass 66 = .ok (.aload_n 0, 1) := by decide +kernel
theorem d_M_pass_67 : decode b_M_pass 67 = .ok (.getfield 25, 3) := by decide +kernel
theorem d_M_pass_70 : decode b_M_pass 70 = .ok (.iload_n 1, 1) := by decide +kernel
theorem d_M_pass_71 : decode b_M_pass 71 = .ok (.iload_n 3, 1) := by decide +kernel
theorem d_M_pass_72 : decode b_M_pass 72 = .ok (.iadd, 1) := by decide +kernel
theorem d_M_pass_73 : decode b_M_pass 73 = .ok (.baload, 1) := by decide +kernel
theorem d_M_pass_74 : decode b_M_pass 74 = .ok (.invokevirtual 123, 3) := by decide +kernel
theorem d_M_pass_77 : decode b_M_pass 77 = .ok (.istore 4, 2) := by decide +kernel
theorem d_M_pass_79 : decode b_M_pass 79 = .ok (.iinc 3 1, 3) := by decide +kernel
theorem d_M_pass_82 : decode b_M_pass 82 = .ok (.goto (-42), 3) := by decide +kernel
theorem d_M_pass_85 : decode b_M_pass 85 = .ok (.iload_n 3, 1) := by decide +kernel
theorem d_M_pass_86 : decode b_M_pass 86 = .ok (.ireturn, 1) := by decide +kernel
theorem d_M_read_0 : decode b_M_read 0 = .ok (.aload_n 0, 1) := by decide +kernel
theorem d_M_read_1 : decode b_M_read 1 = .ok (.iload_n 1, 1) := by decide +kernel
theorem d_M_read_2 : decode b_M_read 2 = .ok (.ifCond .lt 11, 3) := by decide +kernel
theorem d_M_read_5 : decode b_M_read 5 = .ok (.iload_n 1, 1) := by decide +kernel
theorem d_M_read_6 : decode b_M_read 6 = .ok (.aload_n 0, 1) := by decide +kernel
theorem d_M_read_7 : decode b_M_read 7 = .ok (.getfield 53, 3) := by decide +kernel
theorem d_M_read_10 : decode b_M_read 10 = .ok (.if_icmp .le 7, 3) := by decide +kernel
theorem d_M_read_13 : decode b_M_read 13 = .ok (.iconst 1, 1) := by decide +kernel
theorem d_M_read_14 : decode b_M_read 14 = .ok (.goto 4, 3) := by decide +kernel
theorem d_M_read_17 : decode b_M_read 17 = .ok (.iconst 0, 1) := by decide +kernel
theorem d_M_read_18 : decode b_M_read 18 = .ok (.putfield 62, 3) := by decide +kernel
theorem d_M_read_21 : decode b_M_read 21 = .ok (.aload_n 0, 1) := by decide +kernel
theorem d_M_read_22 : decode b_M_read 22 = .ok (.getfield 62, 3) := by decide +kernel
theorem d_M_read_25 : decode b_M_read 25 = .ok (.ifCond .le 5, 3) := by decide +kernel
theorem d_M_read_28 : decode b_M_read 28 = .ok (.iconst 0, 1) := by decide +kernel
theorem d_M_read_29 : decode b_M_read 29 = .ok (.ireturn, 1) := by decide +kernel
theorem d_M_read_30 : decode b_M_read 30 = .ok (.aload_n 0, 1) := by decide +kernel
theorem d_M_read_31 : decode b_M_read 31 = .ok (.iload_n 1, 1) := by decide +kernel
theorem d_M_read_32 : decode b_M_read 32 = .ok (.aload_n 0, 1) := by decide +kernel
theorem d_M_read_33 : decode b_M_read 33 = .ok (.getfield 56, 3) := by decide +kernel
theorem d_M_read_36 : decode b_M_read 36 = .ok (.invokevirtual 138, 3) := by decide +kernel
theorem d_M_read_39 : decode b_M_read 39 = .ok (.istore_n 2, 1) := by decide +kernel
theorem d_M_read_40 : decode b_M_read 40 = .ok (.iload_n 2, 1) := by decide +kernel
theorem d_M_read_41 : decode b_M_read 41 = .ok (.iconst (-1), 1) := by decide +kernel
theorem d_M_read_42 : decode b_M_read 42 = .ok (.if_icmp .eq 11, 3) := by decide +kernel
theorem d_M_read_45 : decode b_M_read 45 = .ok (.aload_n 0, 1) := by decide +kernel
theorem d_M_read_46 : decode b_M_read 46 = .ok (.aload_n 0, 1) := by decide +kernel
theorem d_M_read_47 : decode b_M_read 47 = .ok (.getfield 126, 3) := by decide +kernel
theorem d_M_read_50 : decode b_M_read 50 = .ok (.invokevirtual 142, 3) := by decide +kernel
theorem d_M_read_53 : decode b_M_read 53 = .ok (.iload_n 2, 1) := by decide +kernel
theorem d_M_read_54 : decode b_M_read 54 = .ok (.ireturn, 1) := by decide +kernel
theorem d_M_look_0 : decode b_M_look 0 = .ok (.iload_n 2, 1) := by decide +kernel
theorem d_M_look_1 : decode b_M_look 1 = .ok (.aload_n 0, 1) := by decide +kernel
theorem d_M_look_2 : decode b_M_look 2 = .ok (.getfield 53, 3) := by decide +kernel
theorem d_M_look_5 : decode b_M_look 5 = .ok (.isub, 1) := by decide +kernel
theorem d_M_look_6 : decode b_M_look 6 = .ok (.iconst 1, 1) := by decide +kernel
theorem d_M_look_7 : decode b_M_look 7 = .ok (.isub, 1) := by decide +kernel
theorem d_M_look_8 : decode b_M_look 8 = .ok (.istore_n 3, 1) := by decide +kernel
theorem d_M_look_9 : decode b_M_look 9 = .ok (.aload_n 0, 1) := by decide +kernel
theorem d_M_look_10 : decode b_M_look 10 = .ok (.iconst 0, 1) := by decide +kernel
theorem d_M_look_11 : decode b_M_look 11 = .ok (.putfield 126, 3) := by decide +kernel
theorem d_M_look_14 : decode b_M_look 14 = .ok (.aload_n 0, 1) := by decide +kernel
theorem d_M_look_15 : decode b_M_look 15 = .ok (.iconst 0, 1) := by decide +kernel
theorem d_M_look_16 : decode b_M_look 16 = .ok (.putfield 129, 3) := by decide +kernel
theorem d_M_look_19 : decode b_M_look 19 = .ok (.iconst 0, 1) := by decide +kernel
theorem d_M_look_20 : decode b_M_look 20 = .ok (.istore 4, 2) := by decide +kernel
theorem d_M_look_22 : decode b_M_look 22 = .ok (.aload_n 0, 1) := by decide +kernel
theorem d_M_look_23 : decode b_M_look 23 = .ok (.invokevirtual 132, 3) := by decide +kernel
theorem d_M_look_26 : decode b_M_look 26 = .ok (.istore 5, 2) := by decide +kernel
theorem d_M_look_28 : decode b_M_look 28 = .ok (.aload_n 0, 1) := by decide +kernel
theorem d_M_look_29 : decode b_M_look 29 = .ok (.getfield 129, 3) := by decide +kernel
theorem d_M_look_32 : decode b_M_look 32 = .ok (.ifCond .ne 26, 3) := by decide +kernel
theorem d_M_look_35 : decode b_M_look 35 = .ok (.iload 5, 2) := by decide +kernel
theorem d_M_look_37 : decode b_M_look 37 = .ok (.ifCond .ne 21, 3) := by decide +kernel
theorem d_M_look_40 : decode b_M_look 40 = .ok (.iload 4, 2) := by decide +kernel
theorem d_M_look_42 : decode b_M_look 42 = .ok (.iload_n 3, 1) := by decide +kernel
theorem d_M_look_43 : decode b_M_look 43 = .ok (.if_icmp .ge 15, 3) := by decide +kernel
theorem d_M_look_46 : decode b_M_look 46 = .ok (.iinc 4 1, 3) := by decide +kernel
theorem d_M_look_49 : decode b_M_look 49 = .ok (.aload_n 0, 1) := by decide +kernel
theorem d_M_look_50 : decode b_M_look 50 = .ok (.invokevirtual 132, 3) := by decide +kernel
theorem d_M_look_53 : decode b_M_look 53 = .ok (.istore 5, 2) := by decide +kernel
theorem d_M_look_55 : decode b_M_look 55 = .ok (.goto (-27), 3) := by decide +kernel
theorem d_M_look_58 : decode b_M_look 58 = .ok (.aload_n 0, 1) := by decide +kernel
theorem d_M_look_59 : decode b_M_look 59 = .ok (.getfield 129, 3) := by decide +kernel
theorem d_M_look_62 : decode b_M_look 62 = .ok (.ifCond .eq 5, 3) := by decide +kernel
theorem d_M_look_65 : decode b_M_look 65 = .ok (.iconst (-1), 1) := by decide +kernel
theorem d_M_look_66 : decode b_M_look 66 = .ok (.ireturn, 1) := by decide +kernel
theorem d_M_look_67 : decode b_M_look 67 = .ok (.iload 5, 2) := by decide +kernel
theorem d_M_look_69 : decode b_M_look 69 = .ok (.ifCond .ne 6, 3) := by decide +kernel
theorem d_M_look_72 : decode b_M_look 72 = .ok (.bipush (-2), 2) := by decide +kernel
theorem d_M_look_74 : decode b_M_look 74 = .ok (.ireturn, 1) := by decide +kernel
theorem d_M_look_75 : decode b_M_look 75 = .ok (.iload 4, 2) := by decide +kernel
theorem d_M_look_77 : decode b_M_look 77 = .ok (.iload_n 3, 1) := by decide +kernel
theorem d_M_look_78 : decode b_M_look 78 = .ok (.if_icmp .ge 11, 3) := by decide +kernel
theorem d_M_look_81 : decode b_M_look 81 = .ok (.aload_n 0, 1) := by decide +kernel
theorem d_M_look_82 : decode b_M_look 82 = .ok (.iload_n 1, 1) := by decide +kernel
theorem d_M_look_83 : decode b_M_look 83 = .ok (.invokevirtual 135, 3) := by decide +kernel
theorem d_M_look_86 : decode b_M_look 86 = .ok (.goto 11, 3) := by decide +kernel
theorem d_M_look_89 : decode b_M_look 89 = .ok (.aload_n 0, 1) := by decide +kernel
theorem d_M_look_90 : decode b_M_look 90 = .ok (.aload_n 0, 1) := by decide +kernel
theorem d_M_look_91 : decode b_M_look 91 = .ok (.getfield 53, 3) := by decide +kernel
theorem d_M_look_94 : decode b_M_look 94 = .ok (.invokevirtual 135, 3) := by decide +kernel
theorem d_M_look_97 : decode b_M_look 97 = .ok (.istore 6, 2) := by decide +kernel
theorem d_M_look_99 : decode b_M_look 99 = .ok (.aload_n 0, 1) := by decide +kernel
theorem d_M_look_100 : decode b_M_look 100 = .ok (.getfield 129, 3) := by decide +kernel
theorem d_M_look_103 : decode b_M_look 103 = .ok (.ifCond .eq 5, 3) := by decide +kernel
theorem d_M_look_106 : decode b_M_look 106 = .ok (.iconst (-1), 1) := by decide +kernel
theorem d_M_look_107 : decode b_M_look 107 = .ok (.ireturn, 1) := by decide +kernel
theorem d_M_look_108 : decode b_M_look 108 = .ok (.iload 4, 2) := by decide +kernel
theorem d_M_look_110 : decode b_M_look 110 = .ok (.iload_n 3, 1) := by decide +kernel
theorem d_M_look_111 : decode b_M_look 111 = .ok (.if_icmp .ge 16, 3) := by decide +kernel
theorem d_M_look_114 : decode b_M_look 114 = .ok (.iload 4, 2) := by decide +kernel
theorem d_M_look_116 : decode b_M_look 116 = .ok (.iload_n 1, 1) := by decide +kernel
theorem d_M_look_117 : decode b_M_look 117 = .ok (.invokestatic 43, 3) := by decide +kernel
theorem d_M_look_120 : decode b_M_look 120 = .ok (.imul, 1) := by decide +kernel
theorem d_M_look_121 : decode b_M_look 121 = .ok (.iload 6, 2) := by decide +kernel
theorem d_M_look_123 : decode b_M_look 123 = .ok (.iadd, 1) := by decide +kernel
theorem d_M_look_124 : decode b_M_look 124 = .ok (.goto 7, 3) := by decide +kernel
theorem d_M_look_127 : decode b_M_look 127 = .ok (.iload 6, 2) := by decide +kernel
theorem d_M_look_129 : decode b_M_look 129 = .ok (.iconst 1, 1) := by decide +kernel
theorem d_M_look_130 : decode b_M_look 130 = .ok (.iadd, 1) := by decide +kernel
theorem d_M_look_131 : decode b_M_look 131 = .ok (.ireturn, 1) := by decide +kernel
theorem d_M_next_0 : decode b_M_next 0 = .ok (.aload_n 0, 1) := by decide +kernel
theorem d_M_next_1 : decode b_M_next 1 = .ok (.getfield 126, 3) := by decide +kernel
theorem d_M_next_4 : decode b_M_next 4 = .ok (.aload_n 0, 1) := by decide +kernel
theorem d_M_next_5 : decode b_M_next 5 = .ok (.getfield 72, 3) := by decide +kernel
theorem d_M_next_8 : decode b_M_next 8 = .ok (.if_icmp .lt 10, 3) := by decide +kernel
theorem d_M_next_11 : decode b_M_next 11 = .ok (.aload_n 0, 1) := by decide +kernel
theorem d_M_next_12 : decode b_M_next 12 = .ok (.iconst 1, 1) := by decide +kernel
theorem d_M_next_13 : decode b_M_next 13 = .ok (.putfield 129, 3) := by decide +kernel
theorem d_M_next_16 : decode b_M_next 16 = .ok (.iconst 0, 1) := by decide +kernel
theorem d_M_next_17 : decode b_M_next 17 = .ok (.ireturn, 1) := by decide +kernel
theorem d_M_next_18 : decode b_M_next 18 = .ok (.aload_n 0, 1) := by decide +kernel
theorem d_M_next_19 : decode b_M_next 19 = .ok (.dup, 1) := by decide +kernel
theorem d_M_next_20 : decode b_M_next 20 = .ok (.getfield 126, 3) := by decide +kernel
theorem d_M_next_23 : decode b_M_next 23 = .ok (.iconst 1, 1) := by decide +kernel
theorem d_M_next_24 : decode b_M_next 24 = .ok (.iadd, 1) := by decide +kernel
theorem d_M_next_25 : decode b_M_next 25 = .ok (.putfield 126, 3) := by decide +kernel
theorem d_M_next_28 : decode b_M_next 28 = .ok (.aload_n 0, 1) := by decide +kernel
theorem d_M_next_29 : decode b_M_next 29 = .ok (.getfield 29, 3) := by decide +kernel
theorem d_M_next_32 : decode b_M_next 32 = .ok (.aload_n 0, 1) := by decide +kernel
theorem d_M_next_33 : decode b_M_next 33 = .ok (.getfield 126, 3) := by decide +kernel
theorem d_M_next_36 : decode b_M_next 36 = .ok (.iconst 1, 1) := by decide +kernel
theorem d_M_next_37 : decode b_M_next 37 = .ok (.isub, 1) := by decide +kernel
theorem d_M_next_38 : decode b_M_next 38 = .ok (.baload, 1) := by decide +kernel
theorem d_M_next_39 : decode b_M_next 39 = .ok (.ireturn, 1) := by decide +kernel
theorem d_M_nextLow_0 : decode b_M_nextLow 0 = .ok (.iconst 0, 1) := by decide +kernel
theorem d_M_nextLow_1 : decode b_M_nextLow 1 = .ok (.istore_n 2, 1) := by decide +kernel
theorem d_M_nextLow_2 : decode b_M_nextLow 2 = .ok (.iconst 0, 1) := by decide +kernel
theorem d_M_nextLow_3 : decode b_M_nextLow 3 = .ok (.istore_n 3, 1) := by decide +kernel
theorem d_M_nextLow_4 : decode b_M_nextLow 4 = .ok (.iload_n 3, 1) := by decide +kernel
theorem d_M_nextLow_5 : decode b_M_nextLow 5 = .ok (.iload_n 1, 1) := by decide +kernel
theorem d_M_nextLow_6 : decode b_M_nextLow 6 = .ok (.if_icmp .ge 18, 3) := by decide +kernel
theorem d_M_nextLow_9 : decode b_M_nextLow 9 = .ok (.iconst 2, 1) := by decide +kernel
theorem d_M_nextLow_10 : decode b_M_nextLow 10 = .ok (.iload_n 2, 1) := by decide +kernel
theorem d_M_nextLow_11 : decode b_M_nextLow 11 = .ok (.imul, 1) := by decide +kernel
theorem d_M_nextLow_12 : decode b_M_nextLow 12 = .ok (.aload_n 0, 1) := by decide +kernel
theorem d_M_nextLow_13 : decode b_M_nextLow 13 = .ok (.invokevirtual 132, 3) := by decide +kernel
theorem d_M_nextLow_16 : decode b_M_nextLow 16 = .ok (.iadd, 1) := by decide +kernel
theorem d_M_nextLow_17 : decode b_M_nextLow 17 = .ok (.istore_n 2, 1) := by decide +kernel
theorem d_M_nextLow_18 : decode b_M_nextLow 18 = .ok (.iinc 3 1, 3) := by decide +kernel
theorem d_M_nextLow_21 : decode b_M_nextLow 21 = .ok (.goto (-17), 3) := by decide +kernel
theorem d_M_nextLow_24 : decode b_M_nextLow 24 = .ok (.iload_n 2, 1) := by decide +kernel
theorem d_M_nextLow_25 : decode b_M_nextLow 25 = .ok (.ireturn, 1) := by decide +kernel
theorem d_M_go_0 : decode b_M_go 0 = .ok (.aload_n 0, 1) := by decide +kernel
theorem d_M_go_1 : decode b_M_go 1 = .ok (.aload_n 0, 1) := by decide +kernel
theorem d_M_go_2 : decode b_M_go 2 = .ok (.getfield 72, 3) := by decide +kernel
theorem d_M_go_5 : decode b_M_go 5 = .ok (.iload_n 1, 1) := by decide +kernel
theorem d_M_go_6 : decode b_M_go 6 = .ok (.isub, 1) := by decide +kernel
theorem d_M_go_7 : decode b_M_go 7 = .ok (.putfield 72, 3) := by decide +kernel
theorem d_M_go_10 : decode b_M_go 10 = .ok (.iconst 0, 1) := by decide +kernel
theorem d_M_go_11 : decode b_M_go 11 = .ok (.istore_n 2, 1) := by decide +kernel
theorem d_M_go_12 : decode b_M_go 12 = .ok (.iload_n 2, 1) := by decide +kernel
theorem d_M_go_13 : decode b_M_go 13 = .ok (.aload_n 0, 1) := by decide +kernel
theorem d_M_go_14 : decode b_M_go 14 = .ok (.getfield 72, 3) := by decide +kernel
theorem d_M_go_17 : decode b_M_go 17 = .ok (.if_icmp .ge 23, 3) := by decide +kernel
theorem d_M_go_20 : decode b_M_go 20 = .ok (.aload_n 0, 1) := by decide +kernel
theorem d_M_go_21 : decode b_M_go 21 = .ok (.getfield 29, 3) := by decide +kernel
theorem d_M_go_24 : decode b_M_go 24 = .ok (.iload_n 2, 1) := by decide +kernel
theorem d_M_go_25 : decode b_M_go 25 = .ok (.aload_n 0, 1) := by decide +kernel
theorem d_M_go_26 : decode b_M_go 26 = .ok (.getfield 29, 3) := by decide +kernel
theorem d_M_go_29 : decode b_M_go 29 = .ok (.iload_n 2, 1) := by decide +kernel
theorem d_M_go_30 : decode b_M_go 30 = .ok (.iload_n 1, 1) := by decide +kernel
theorem d_M_go_31 : decode b_M_go 31 = .ok (.iadd, 1) := by decide +kernel
theorem d_M_go_32 : decode b_M_go 32 = .ok (.baload, 1) := by decide +kernel
theorem d_M_go_33 : decode b_M_go 33 = .ok (.bastore, 1) := by decide +kernel
theorem d_M_go_34 : decode b_M_go 34 = .ok (.iinc 2 1, 3) := by decide +kernel
theorem d_M_go_37 : decode b_M_go 37 = .ok (.goto (-25), 3) := by decide +kernel
theorem d_M_go_40 : decode b_M_go 40 = .ok (.return_, 1) := by decide +kernel
theorem d_M_readRun_0 : decode b_M_readRun 0 = .ok (.aload_n 0, 1) := by decide +kernel
theorem d_M_readRun_1 : decode b_M_readRun 1 = .ok (.iload_n 1, 1) := by decide +kernel
theorem d_M_readRun_2 : decode b_M_readRun 2 = .ok (.iconst 1, 1) := by decide +kernel
theorem d_M_readRun_3 : decode b_M_readRun 3 = .ok (.if_icmp .lt 9, 3) := by decide +kernel
theorem d_M_readRun_6 : decode b_M_readRun 6 = .ok (.iload_n 1, 1) := by decide +kernel
theorem d_M_readRun_7 : decode b_M_readRun 7 = .ok (.ldc 98, 2) := by decide +kernel
theorem d_M_readRun_9 : decode b_M_readRun 9 = .ok (.if_icmp .le 7, 3) := by decide +kernel
theorem d_M_readRun_12 : decode b_M_readRun 12 = .ok (.iconst 1, 1) := by decide +kernel
theorem d_M_readRun_13 : decode b_M_readRun 13 = .ok (.goto 4, 3) := by decide +kernel
theorem d_M_readRun_16 : decode b_M_readRun 16 = .ok (.iconst 0, 1) := by decide +kernel
theorem d_M_readRun_17 : decode b_M_readRun 17 = .ok (.putfield 62, 3) := by decide +kernel
theorem d_M_readRun_20 : decode b_M_readRun 20 = .ok (.aload_n 0, 1) := by decide +kernel
theorem d_M_readRun_21 : decode b_M_readRun 21 = .ok (.getfield 62, 3) := by decide +kernel
theorem d_M_readRun_24 : decode b_M_readRun 24 = .ok (.ifCond .le 5, 3) := by decide +kernel
theorem d_M_readRun_27 : decode b_M_readRun 27 = .ok (.iconst 0, 1) := by decide +kernel
theorem d_M_readRun_28 : decode b_M_readRun 28 = .ok (.ireturn, 1) := by decide +kernel
theorem d_M_readRun_29 : decode b_M_readRun 29 = .ok (.aload_n 0, 1) := by decide +kernel
theorem d_M_readRun_30 : decode b_M_readRun 30 = .ok (.iconst 0, 1) := by decide +kernel
theorem d_M_readRun_31 : decode b_M_readRun 31 = .ok (.putfield 126, 3) := by decide +kernel
theorem d_M_readRun_34 : decode b_M_readRun 34 = .ok (.aload_n 0, 1) := by decide +kernel
theorem d_M_readRun_35 : decode b_M_readRun 35 = .ok (.iconst 0, 1) := by decide +kernel
theorem d_M_readRun_36 : decode b_M_readRun 36 = .ok (.putfield 129, 3) := by decide +kernel
theorem d_M_readRun_39 : decode b_M_readRun 39 = .ok (.iload_n 1, 1) := by decide +kernel
theorem d_M_readRun_40 : decode b_M_readRun 40 = .ok (.istore_n 2, 1) := by decide +kernel
theorem d_M_readRun_41 : decode b_M_readRun 41 = .ok (.aload_n 0, 1) := by decide +kernel
theorem d_M_readRun_42 : decode b_M_readRun 42 = .ok (.getfield 7, 3) := by decide +kernel
theorem d_M_readRun_45 : decode b_M_readRun 45 = .ok (.iconst 1, 1) := by decide +kernel
theorem d_M_readRun_46 : decode b_M_readRun 46 = .ok (.iaload, 1) := by decide +kernel
theorem d_M_readRun_47 : decode b_M_readRun 47 = .ok (.istore_n 3, 1) := by decide +kernel
theorem d_M_readRun_48 : decode b_M_readRun 48 = .ok (.iconst 1, 1) := by decide +kernel
theorem d_M_readRun_49 : decode b_M_readRun 49 = .ok (.istore 4, 2) := by decide +kernel
theorem d_M_readRun_51 : decode b_M_readRun 51 = .ok (.iconst 0, 1) := by decide +kernel
theorem d_M_readRun_52 : decode b_M_readRun 52 = .ok (.istore 5, 2) := by decide +kernel
theorem d_M_readRun_54 : decode b_M_readRun 54 = .ok (.iload_n 3, 1) := by decide +kernel
theorem d_M_readRun_55 : decode b_M_readRun 55 = .ok (.invokestatic 99, 3) := by decide +kernel
theorem d_M_readRun_58 : decode b_M_readRun 58 = .ok (.istore 6, 2) := by decide +kernel
theorem d_M_readRun_60 : decode b_M_readRun 60 = .ok (.iload 4, 2) := by decide +kernel
theorem d_M_readRun_62 : decode b_M_readRun 62 = .ok (.ifCond .eq 138, 3) := by decide +kernel
theorem d_M_readRun_65 : decode b_M_readRun 65 = .ok (.aload_n 0, 1) := by decide +kernel
theorem d_M_readRun_66 : decode b_M_readRun 66 = .ok (.getfield 129, 3) := by decide +kernel
theorem d_M_readRun_69 : decode b_M_readRun 69 = .ok (.ifCond .ne 131, 3) := by decide +kernel
theorem d_M_readRun_72 : decode b_M_readRun 72 = .ok (.iload_n 3, 1) := by decide +kernel
theorem d_M_readRun_73 : decode b_M_readRun 73 = .ok (.invokestatic 99, 3) := by decide +kernel
theorem d_M_readRun_76 : decode b_M_readRun 76 = .ok (.istore 6, 2) := by decide +kernel
theorem d_M_readRun_78 : decode b_M_readRun 78 = .ok (.aload_n 0, 1) := by decide +kernel
theorem d_M_readRun_79 : decode b_M_readRun 79 = .ok (.invokevirtual 132, 3) := by decide +kernel
theorem d_M_readRun_82 : decode b_M_readRun 82 = .ok (.iconst 1, 1) := by decide +kernel
theorem d_M_readRun_83 : decode b_M_readRun 83 = .ok (.if_icmp .ne 59, 3) := by decide +kernel
theorem d_M_readRun_86 : decode b_M_readRun 86 = .ok (.iload 6, 2) := by decide +kernel
theorem d_M_readRun_88 : decode b_M_readRun 88 = .ok (.invokestatic 43, 3) := by decide +kernel
theorem d_M_readRun_91 : decode b_M_readRun 91 = .ok (.iload_n 2, 1) := by decide +kernel
theorem d_M_readRun_92 : decode b_M_readRun 92 = .ok (.if_icmp .gt 34, 3) := by decide +kernel
theorem d_M_readRun_95 : decode b_M_readRun 95 = .ok (.iload_n 2, 1) := by decide +kernel
theorem d_M_readRun_96 : decode b_M_readRun 96 = .ok (.iload 6, 2) := by decide +kernel
theorem d_M_readRun_98 : decode b_M_readRun 98 = .ok (.invokestatic 43, 3) := by decide +kernel
theorem d_M_readRun_101 : decode b_M_readRun 101 = .ok (.isub, 1) := by decide +kernel
theorem d_M_readRun_102 : decode b_M_readRun 102 = .ok (.istore_n 2, 1) := by decide +kernel
theorem d_M_readRun_103 : decode b_M_readRun 103 = .ok (.iload_n 3, 1) := by decide +kernel
theorem d_M_readRun_104 : decode b_M_readRun 104 = .ok (.bipush 31, 2) := by decide +kernel
theorem d_M_readRun_106 : decode b_M_readRun 106 = .ok (.if_icmp .ge 9, 3) := by decide +kernel
theorem d_M_readRun_109 : decode b_M_readRun 109 = .ok (.iload_n 3, 1) := by decide +kernel
theorem d_M_readRun_110 : decode b_M_readRun 110 = .ok (.iconst 1, 1) := by decide +kernel
theorem d_M_readRun_111 : decode b_M_readRun 111 = .ok (.iadd, 1) := by decide +kernel
theorem d_M_readRun_112 : decode b_M_readRun 112 = .ok (.goto 4, 3) := by decide +kernel
theorem d_M_readRun_115 : decode b_M_readRun 115 = .ok (.iload_n 3, 1) := by decide +kernel
theorem d_M_readRun_116 : decode b_M_readRun 116 = .ok (.istore_n 3, 1) := by decide +kernel
theorem d_M_readRun_117 : decode b_M_readRun 117 = .ok (.iload_n 3, 1) := by decide +kernel
theorem d_M_readRun_118 : decode b_M_readRun 118 = .ok (.invokestatic 99, 3) := by decide +kernel
theorem d_M_readRun_121 : decode b_M_readRun 121 = .ok (.istore 6, 2) := by decide +kernel
theorem d_M_readRun_123 : decode b_M_readRun 123 = .ok (.goto 5, 3) := by decide +kernel
theorem d_M_readRun_126 : decode b_M_readRun 126 = .ok (.iconst 0, 1) := by decide +kernel
theorem d_M_readRun_127 : decode b_M_readRun 127 = .ok (.istore_n 2, 1) := by decide +kernel
theorem d_M_readRun_128 : decode b_M_readRun 128 = .ok (.iload_n 2, 1) := by decide +kernel
theorem d_M_readRun_129 : decode b_M_readRun 129 = .ok (.ifCond .le 7, 3) := by decide +kernel
theorem d_M_readRun_132 : decode b_M_readRun 132 = .ok (.iconst 1, 1) := by decide +kernel
theorem d_M_readRun_133 : decode b_M_readRun 133 = .ok (.goto 4, 3) := by decide +kernel
theorem d_M_readRun_136 : decode b_M_readRun 136 = .ok (.iconst 0, 1) := by decide +kernel
theorem d_M_readRun_137 : decode b_M_readRun 137 = .ok (.istore 4, 2) := by decide +kernel
theorem d_M_readRun_139 : decode b_M_readRun 139 = .ok (.goto (-79), 3) := by decide +kernel
theorem d_M_readRun_142 : decode b_M_readRun 142 = .ok (.aload_n 0, 1) := by decide +kernel
theorem d_M_readRun_143 : decode b_M_readRun 143 = .ok (.iload 6, 2) := by decide +kernel
theorem d_M_readRun_145 : decode b_M_readRun 145 = .ok (.invokevirtual 135, 3) := by decide +kernel
theorem d_M_readRun_148 : decode b_M_readRun 148 = .ok (.istore 7, 2) := by decide +kernel
theorem d_M_readRun_150 : decode b_M_readRun 150 = .ok (.aload_n 0, 1) := by decide +kernel
theorem d_M_readRun_151 : decode b_M_readRun 151 = .ok (.getfield 129, 3) := by decide +kernel
theorem d_M_readRun_154 : decode b_M_readRun 154 = .ok (.ifCond .ne 20, 3) := by decide +kernel
theorem d_M_readRun_157 : decode b_M_readRun 157 = .ok (.iload 7, 2) := by decide +kernel
theorem d_M_readRun_159 : decode b_M_readRun 159 = .ok (.iload_n 2, 1) := by decide +kernel
theorem d_M_readRun_160 : decode b_M_readRun 160 = .ok (.if_icmp .lt 14, 3) := by decide +kernel
theorem d_M_readRun_163 : decode b_M_readRun 163 = .ok (.aload_n 0, 1) := by decide +kernel
theorem d_M_readRun_164 : decode b_M_readRun 164 = .ok (.aload_n 0, 1) := by decide +kernel
theorem d_M_readRun_165 : decode b_M_readRun 165 = .ok (.getfield 126, 3) := by decide +kernel
theorem d_M_readRun_168 : decode b_M_readRun 168 = .ok (.invokevirtual 142, 3) := by decide +kernel
theorem d_M_readRun_171 : decode b_M_readRun 171 = .ok (.bipush (-2), 2) := by decide +kernel
theorem d_M_readRun_173 : decode b_M_readRun 173 = .ok (.ireturn, 1) := by decide +kernel
theorem d_M_readRun_174 : decode b_M_readRun 174 = .ok (.iload_n 2, 1) := by decide +kernel
theorem d_M_readRun_175 : decode b_M_readRun 175 = .ok (.iload 7, 2) := by decide +kernel
theorem d_M_readRun_177 : decode b_M_readRun 177 = .ok (.isub, 1) := by decide +kernel
theorem d_M_readRun_178 : decode b_M_readRun 178 = .ok (.istore_n 2, 1) := by decide +kernel
theorem d_M_readRun_179 : decode b_M_readRun 179 = .ok (.iload_n 3, 1) := by decide +kernel
theorem d_M_readRun_180 : decode b_M_readRun 180 = .ok (.ifCond .le 9, 3) := by decide +kernel
theorem d_M_readRun_183 : decode b_M_readRun 183 = .ok (.iload_n 3, 1) := by decide +kernel
theorem d_M_readRun_184 : decode b_M_readRun 184 = .ok (.iconst 1, 1) := by decide +kernel
theorem d_M_readRun_185 : decode b_M_readRun 185 = .ok (.isub, 1) := by decide +kernel
theorem d_M_readRun_186 : decode b_M_readRun 186 = .ok (.goto 4, 3) := by decide +kernel
theorem d_M_readRun_189 : decode b_M_readRun 189 = .ok (.iload_n 3, 1) := by decide +kernel
theorem d_M_readRun_190 : decode b_M_readRun 190 = .ok (.istore_n 3, 1) := by decide +kernel
theorem d_M_readRun_191 : decode b_M_readRun 191 = .ok (.iconst 0, 1) := by decide +kernel
theorem d_M_readRun_192 : decode b_M_readRun 192 = .ok (.istore 4, 2) := by decide +kernel
theorem d_M_readRun_194 : decode b_M_readRun 194 = .ok (.iconst 1, 1) := by decide +kernel
theorem d_M_readRun_195 : decode b_M_readRun 195 = .ok (.istore 5, 2) := by decide +kernel
theorem d_M_readRun_197 : decode b_M_readRun 197 = .ok (.goto (-137), 3) := by decide +kernel
theorem d_M_readRun_200 : decode b_M_readRun 200 = .ok (.aload_n 0, 1) := by decide +kernel
theorem d_M_readRun_201 : decode b_M_readRun 201 = .ok (.getfield 129, 3) := by decide +kernel
theorem d_M_readRun_204 : decode b_M_readRun 204 = .ok (.ifCond .eq 5, 3) := by decide +kernel
theorem d_M_readRun_207 : decode b_M_readRun 207 = .ok (.iconst (-1), 1) := by decide +kernel
theorem d_M_readRun_208 : decode b_M_readRun 208 = .ok (.ireturn, 1) := by decide +kernel
theorem d_M_readRun_209 : decode b_M_readRun 209 = .ok (.aload_n 0, 1) := by decide +kernel
theorem d_M_readRun_210 : decode b_M_readRun 210 = .ok (.aload_n 0, 1) := by decide +kernel
theorem d_M_readRun_211 : decode b_M_readRun 211 = .ok (.getfield 126, 3) := by decide +kernel
theorem d_M_readRun_214 : decode b_M_readRun 214 = .ok (.invokevirtual 142, 3) := by decide +kernel
theorem d_M_readRun_217 : decode b_M_readRun 217 = .ok (.aload_n 0, 1) := by decide +kernel
theorem d_M_readRun_218 : decode b_M_readRun 218 = .ok (.getfield 7, 3) := by decide +kernel
theorem d_M_readRun_221 : decode b_M_readRun 221 = .ok (.iconst 1, 1) := by decide +kernel
theorem d_M_readRun_222 : decode b_M_readRun 222 = .ok (.iload_n 3, 1) := by decide +kernel
theorem d_M_readRun_223 : decode b_M_readRun 223 = .ok (.iastore, 1) := by decide +kernel
theorem d_M_readRun_224 : decode b_M_readRun 224 = .ok (.aload_n 0, 1) := by decide +kernel
theorem d_M_readRun_225 : decode b_M_readRun 225 = .ok (.getfield 13, 3) := by decide +kernel
theorem d_M_readRun_228 : decode b_M_readRun 228 = .ok (.iconst 1, 1) := by decide +kernel
theorem d_M_readRun_229 : decode b_M_readRun 229 = .ok (.iload 6, 2) := by decide +kernel
theorem d_M_readRun_231 : decode b_M_readRun 231 = .ok (.iastore, 1) := by decide +kernel
theorem d_M_readRun_232 : decode b_M_readRun 232 = .ok (.aload_n 0, 1) := by decide +kernel
theorem d_M_readRun_233 : decode b_M_readRun 233 = .ok (.iload 5, 2) := by decide +kernel
theorem d_M_readRun_235 : decode b_M_readRun 235 = .ok (.putfield 65, 3) := by decide +kernel
theorem d_M_readRun_238 : decode b_M_readRun 238 = .ok (.iload_n 1, 1) := by decide +kernel
theorem d_M_readRun_239 : decode b_M_readRun 239 = .ok (.iload_n 2, 1) := by decide +kernel
theorem d_M_readRun_240 : decode b_M_readRun 240 = .ok (.isub, 1) := by decide +kernel
theorem d_M_readRun_241 : decode b_M_readRun 241 = .ok (.ireturn, 1) := by decide +kernel
theorem d_M_readInterrupt_0 : decode b_M_readInterrupt 0 = .ok (.aload_n 0, 1) := by decide +kernel
theorem d_M_readInterrupt_1 : decode b_M_readInterrupt 1 = .ok (.aload_n 0, 1) := by decide +kernel
theorem d_M_readInterrupt_2 : decode b_M_readInterrupt 2 = .ok (.iload_n 1, 1) := by decide +kernel
theorem d_M_readInterrupt_3 : decode b_M_readInterrupt 3 = .ok (.invokevirtual 105, 3) := by decide +kernel
theorem d_M_readInterrupt_6 : decode b_M_readInterrupt 6 = .ok (.ifCond .eq 7, 3) := by decide +kernel
theorem d_M_readInterrupt_9 : decode b_M_readInterrupt 9 = .ok (.iconst 0, 1) := by decide +kernel
theorem d_M_readInterrupt_10 : decode b_M_readInterrupt 10 = .ok (.goto 4, 3) := by decide +kernel
theorem d_M_readInterrupt_13 : decode b_M_readInterrupt 13 = .ok (.iconst 1, 1) := by decide +kernel
theorem d_M_readInterrupt_14 : decode b_M_readInterrupt 14 = .ok (.putfield 62, 3) := by decide +kernel
theorem d_M_readInterrupt_17 : decode b_M_readInterrupt 17 = .ok (.aload_n 0, 1) := by decide +kernel
theorem d_M_readInterrupt_18 : decode b_M_readInterrupt 18 = .ok (.getfield 62, 3) := by decide +kernel
theorem d_M_readInterrupt_21 : decode b_M_readInterrupt 21 = .ok (.ifCond .le 5, 3) := by decide +kernel
theorem d_M_readInterrupt_24 : decode b_M_readInterrupt 24 = .ok (.iconst 0, 1) := by decide +kernel
theorem d_M_readInterrupt_25 : decode b_M_readInterrupt 25 = .ok (.ireturn, 1) := by decide +kernel
theorem d_M_readInterrupt_26 : decode b_M_readInterrupt 26 = .ok (.iconst 2, 1) := by decide +kernel
theorem d_M_readInterrupt_27 : decode b_M_readInterrupt 27 = .ok (.iload_n 1, 1) := by decide +kernel
theorem d_M_readInterrupt_28 : decode b_M_readInterrupt 28 = .ok (.iadd, 1) := by decide +kernel
theorem d_M_readInterrupt_29 : decode b_M_readInterrupt 29 = .ok (.istore_n 2, 1) := by decide +kernel
theorem d_M_readInterrupt_30 : decode b_M_readInterrupt 30 = .ok (.aload_n 0, 1) := by decide +kernel
theorem d_M_readInterrupt_31 : decode b_M_readInterrupt 31 = .ok (.aload_n 0, 1) := by decide +kernel
theorem d_M_readInterrupt_32 : decode b_M_readInterrupt 32 = .ok (.iload_n 2, 1) := by decide +kernel
theorem d_M_readInterrupt_33 : decode b_M_readInterrupt 33 = .ok (.invokevirtual 102, 3) := by decide +kernel
theorem d_M_readInterrupt_36 : decode b_M_readInterrupt 36 = .ok (.aload_n 0, 1) := by decide +kernel
theorem d_M_readInterrupt_37 : decode b_M_readInterrupt 37 = .ok (.iconst 1, 1) := by decide +kernel
theorem d_M_readInterrupt_38 : decode b_M_readInterrupt 38 = .ok (.invokevirtual 116, 3) := by decide +kernel
theorem d_M_readInterrupt_41 : decode b_M_readInterrupt 41 = .ok (.invokevirtual 138, 3) := by decide +kernel
theorem d_M_readInterrupt_44 : decode b_M_readInterrupt 44 = .ok (.istore_n 3, 1) := by decide +kernel
theorem d_M_readInterrupt_45 : decode b_M_readInterrupt 45 = .ok (.iload_n 3, 1) := by decide +kernel
theorem d_M_readInterrupt_46 : decode b_M_readInterrupt 46 = .ok (.iconst (-1), 1) := by decide +kernel
theorem d_M_readInterrupt_47 : decode b_M_readInterrupt 47 = .ok (.if_icmp .ne 6, 3) := by decide +kernel
theorem d_M_readInterrupt_50 : decode b_M_readInterrupt 50 = .ok (.ldc 145, 2) := by decide +kernel
theorem d_M_readInterrupt_52 : decode b_M_readInterrupt 52 = .ok (.ireturn, 1) := by decide +kernel
theorem d_M_readInterrupt_53 : decode b_M_readInterrupt 53 = .ok (.aload_n 0, 1) := by decide +kernel
theorem d_M_readInterrupt_54 : decode b_M_readInterrupt 54 = .ok (.aload_n 0, 1) := by decide +kernel
theorem d_M_readInterrupt_55 : decode b_M_readInterrupt 55 = .ok (.getfield 126, 3) := by decide +kernel
theorem d_M_readInterrupt_58 : decode b_M_readInterrupt 58 = .ok (.invokevirtual 142, 3) := by decide +kernel
theorem d_M_readInterrupt_61 : decode b_M_readInterrupt 61 = .ok (.iload_n 3, 1) := by decide +kernel
theorem d_M_readInterrupt_62 : decode b_M_readInterrupt 62 = .ok (.bipush (-2), 2) := by decide +kernel
theorem d_M_readInterrupt_64 : decode b_M_readInterrupt 64 = .ok (.if_icmp .ne 6, 3) := by decide +kernel
theorem d_M_readInterrupt_67 : decode b_M_readInterrupt 67 = .ok (.ldc 145, 2) := by decide +kernel
theorem d_M_readInterrupt_69 : decode b_M_readInterrupt 69 = .ok (.ireturn, 1) := by decide +kernel
theorem d_M_readInterrupt_70 : decode b_M_readInterrupt 70 = .ok (.iload_n 3, 1) := by decide +kernel
theorem d_M_readInterrupt_71 : decode b_M_readInterrupt 71 = .ok (.iload_n 1, 1) := by decide +kernel
theorem d_M_readInterrupt_72 : decode b_M_readInterrupt 72 = .ok (.iadd, 1) := by decide +kernel
theorem d_M_readInterrupt_73 : decode b_M_readInterrupt 73 = .ok (.iconst 2, 1) := by decide +kernel
theorem d_M_readInterrupt_74 : decode b_M_readInterrupt 74 = .ok (.irem, 1) := by decide +kernel
theorem d_M_readInterrupt_75 : decode b_M_readInterrupt 75 = .ok (.iconst 1, 1) := by decide +kernel
theorem d_M_readInterrupt_76 : decode b_M_readInterrupt 76 = .ok (.if_icmp .ne 7, 3) := by decide +kernel
theorem d_M_readInterrupt_79 : decode b_M_readInterrupt 79 = .ok (.iconst 1, 1) := by decide +kernel
theorem d_M_readInterrupt_80 : decode b_M_readInterrupt 80 = .ok (.goto 4, 3) := by decide +kernel
theorem d_M_readInterrupt_83 : decode b_M_readInterrupt 83 = .ok (.iconst 0, 1) := by decide +kernel
theorem d_M_readInterrupt_84 : decode b_M_readInterrupt 84 = .ok (.istore 4, 2) := by decide +kernel
theorem d_M_readInterrupt_86 : decode b_M_readInterrupt 86 = .ok (.iload_n 3, 1) := by decide +kernel
theorem d_M_readInterrupt_87 : decode b_M_readInterrupt 87 = .ok (.iload_n 1, 1) := by decide +kernel
theorem d_M_readInterrupt_88 : decode b_M_readInterrupt 88 = .ok (.iadd, 1) := by decide +kernel
theorem d_M_readInterrupt_89 : decode b_M_readInterrupt 89 = .ok (.iload 4, 2) := by decide +kernel
theorem d_M_readInterrupt_91 : decode b_M_readInterrupt 91 = .ok (.ifCond .eq 7, 3) := by decide +kernel
theorem d_M_readInterrupt_94 : decode b_M_readInterrupt 94 = .ok (.iconst 1, 1) := by decide +kernel
theorem d_M_readInterrupt_95 : decode b_M_readInterrupt 95 = .ok (.goto 4, 3) := by decide +kernel
theorem d_M_readInterrupt_98 : decode b_M_readInterrupt 98 = .ok (.iconst 0, 1) := by decide +kernel
theorem d_M_readInterrupt_99 : decode b_M_readInterrupt 99 = .ok (.iadd, 1) := by decide +kernel
theorem d_M_readInterrupt_100 : decode b_M_readInterrupt 100 = .ok (.iconst 2, 1) := by decide +kernel
theorem d_M_readInterrupt_101 : decode b_M_readInterrupt 101 = .ok (.idiv, 1) := by decide +kernel
theorem d_M_readInterrupt_102 : decode b_M_readInterrupt 102 = .ok (.istore 5, 2) := by decide +kernel
theorem d_M_readInterrupt_104 : decode b_M_readInterrupt 104 = .ok (.aload_n 0, 1) := by decide +kernel
theorem d_M_readInterrupt_105 : decode b_M_readInterrupt 105 = .ok (.iload_n 2, 1) := by decide +kernel
theorem d_M_readInterrupt_106 : decode b_M_readInterrupt 106 = .ok (.invokevirtual 113, 3) := by decide +kernel
theorem d_M_readInterrupt_109 : decode b_M_readInterrupt 109 = .ok (.iload 4, 2) := by decide +kernel
theorem d_M_readInterrupt_111 : decode b_M_readInterrupt 111 = .ok (.if_icmp .ne 8, 3) := by decide +kernel
theorem d_M_readInterrupt_114 : decode b_M_readInterrupt 114 = .ok (.iload 5, 2) := by decide +kernel
theorem d_M_readInterrupt_116 : decode b_M_readInterrupt 116 = .ok (.goto 6, 3) := by decide +kernel
theorem d_M_readInterrupt_119 : decode b_M_readInterrupt 119 = .ok (.iload 5, 2) := by decide +kernel
theorem d_M_readInterrupt_121 : decode b_M_readInterrupt 121 = .ok (.ineg, 1) := by decide +kernel
theorem d_M_readInterrupt_122 : decode b_M_readInterrupt 122 = .ok (.istore 6, 2) := by decide +kernel
theorem d_M_readInterrupt_124 : decode b_M_readInterrupt 124 = .ok (.aload_n 0, 1) := by decide +kernel
theorem d_M_readInterrupt_125 : decode b_M_readInterrupt 125 = .ok (.iload_n 1, 1) := by decide +kernel
theorem d_M_readInterrupt_126 : decode b_M_readInterrupt 126 = .ok (.iload 6, 2) := by decide +kernel
theorem d_M_readInterrupt_128 : decode b_M_readInterrupt 128 = .ok (.invokevirtual 109, 3) := by decide +kernel
theorem d_M_readInterrupt_131 : decode b_M_readInterrupt 131 = .ok (.ifCond .ne 6, 3) := by decide +kernel
theorem d_M_readInterrupt_134 : decode b_M_readInterrupt 134 = .ok (.ldc 145, 2) := by decide +kernel
theorem d_M_readInterrupt_136 : decode b_M_readInterrupt 136 = .ok (.ireturn, 1) := by decide +kernel
theorem d_M_readInterrupt_137 : decode b_M_readInterrupt 137 = .ok (.aload_n 0, 1) := by decide +kernel
theorem d_M_readInterrupt_138 : decode b_M_readInterrupt 138 = .ok (.iload_n 2, 1) := by decide +kernel
theorem d_M_readInterrupt_139 : decode b_M_readInterrupt 139 = .ok (.iload_n 1, 1) := by decide +kernel
theorem d_M_readInterrupt_140 : decode b_M_readInterrupt 140 = .ok (.iload_n 3, 1) := by decide +kernel
theorem d_M_readInterrupt_141 : decode b_M_readInterrupt 141 = .ok (.iload 6, 2) := by decide +kernel
theorem d_M_readInterrupt_143 : decode b_M_readInterrupt 143 = .ok (.invokevirtual 119, 3) := by decide +kernel
theorem d_M_readInterrupt_146 : decode b_M_readInterrupt 146 = .ok (.iload 6, 2) := by decide +kernel
theorem d_M_readInterrupt_148 : decode b_M_readInterrupt 148 = .ok (.ireturn, 1) := by decide +kernel
theorem d_M_wasEnded_0 : decode b_M_wasEnded 0 = .ok (.aload_n 0, 1) := by decide +kernel
theorem d_M_wasEnded_1 : decode b_M_wasEnded 1 = .ok (.iconst 0, 1) := by decide +kernel
theorem d_M_wasEnded_2 : decode b_M_wasEnded 2 = .ok (.putfield 62, 3) := by decide +kernel
theorem d_M_wasEnded_5 : decode b_M_wasEnded 5 = .ok (.aload_n 0, 1) := by decide +kernel
theorem d_M_wasEnded_6 : decode b_M_wasEnded 6 = .ok (.getfield 65, 3) := by decide +kernel
theorem d_M_wasEnded_9 : decode b_M_wasEnded 9 = .ok (.ireturn, 1) := by decide +kernel
theorem d_M_waiting_0 : decode b_M_waiting 0 = .ok (.aload_n 0, 1) := by decide +kernel
theorem d_M_waiting_1 : decode b_M_waiting 1 = .ok (.iconst 0, 1) := by decide +kernel
theorem d_M_waiting_2 : decode b_M_waiting 2 = .ok (.putfield 62, 3) := by decide +kernel
theorem d_M_waiting_5 : decode b_M_waiting 5 = .ok (.aload_n 0, 1) := by decide +kernel
theorem d_M_waiting_6 : decode b_M_waiting 6 = .ok (.getfield 72, 3) := by decide +kernel
theorem d_M_waiting_9 : decode b_M_waiting 9 = .ok (.ireturn, 1) := by decide +kernel
theorem d_M_map_0 : decode b_M_map 0 = .ok (.aload_n 0, 1) := by decide +kernel
theorem d_M_map_1 : decode b_M_map 1 = .ok (.iload_n 1, 1) := by decide +kernel
theorem d_M_map_2 : decode b_M_map 2 = .ok (.ldc 146, 2) := by decide +kernel
theorem d_M_map_4 : decode b_M_map 4 = .ok (.if_icmp .lt 9, 3) := by decide +kernel
theorem d_M_map_7 : decode b_M_map 7 = .ok (.iload_n 1, 1) := by decide +kernel
theorem d_M_map_8 : decode b_M_map 8 = .ok (.ldc 147, 2) := by decide +kernel
theorem d_M_map_10 : decode b_M_map 10 = .ok (.if_icmp .le 7, 3) := by decide +kernel
theorem d_M_map_13 : decode b_M_map 13 = .ok (.iconst 1, 1) := by decide +kernel
theorem d_M_map_14 : decode b_M_map 14 = .ok (.goto 4, 3) := by decide +kernel
theorem d_M_map_17 : decode b_M_map 17 = .ok (.iconst 0, 1) := by decide +kernel
theorem d_M_map_18 : decode b_M_map 18 = .ok (.putfield 62, 3) := by decide +kernel
theorem d_M_map_21 : decode b_M_map 21 = .ok (.aload_n 0, 1) := by decide +kernel
theorem d_M_map_22 : decode b_M_map 22 = .ok (.getfield 62, 3) := by decide +kernel
theorem d_M_map_25 : decode b_M_map 25 = .ok (.ifCond .le 5, 3) := by decide +kernel
theorem d_M_map_28 : decode b_M_map 28 = .ok (.iconst 0, 1) := by decide +kernel
theorem d_M_map_29 : decode b_M_map 29 = .ok (.ireturn, 1) := by decide +kernel
theorem d_M_map_30 : decode b_M_map 30 = .ok (.iload_n 1, 1) := by decide +kernel
theorem d_M_map_31 : decode b_M_map 31 = .ok (.ifCond .ge 20, 3) := by decide +kernel
theorem d_M_map_34 : decode b_M_map 34 = .ok (.bipush (-2), 2) := by decide +kernel
theorem d_M_map_36 : decode b_M_map 36 = .ok (.iload_n 1, 1) := by decide +kernel
theorem d_M_map_37 : decode b_M_map 37 = .ok (.imul, 1) := by decide +kernel
theorem d_M_map_38 : decode b_M_map 38 = .ok (.iload_n 2, 1) := by decide +kernel
theorem d_M_map_39 : decode b_M_map 39 = .ok (.ifCond .eq 7, 3) := by decide +kernel
theorem d_M_map_42 : decode b_M_map 42 = .ok (.iconst 2, 1) := by decide +kernel
theorem d_M_map_43 : decode b_M_map 43 = .ok (.goto 4, 3) := by decide +kernel
theorem d_M_map_46 : decode b_M_map 46 = .ok (.iconst 1, 1) := by decide +kernel
theorem d_M_map_47 : decode b_M_map 47 = .ok (.isub, 1) := by decide +kernel
theorem d_M_map_48 : decode b_M_map 48 = .ok (.goto 16, 3) := by decide +kernel
theorem d_M_map_51 : decode b_M_map 51 = .ok (.iconst 2, 1) := by decide +kernel
theorem d_M_map_52 : decode b_M_map 52 = .ok (.iload_n 1, 1) := by decide +kernel
theorem d_M_map_53 : decode b_M_map 53 = .ok (.imul, 1) := by decide +kernel
theorem d_M_map_54 : decode b_M_map 54 = .ok (.iload_n 2, 1) := by decide +kernel
theorem d_M_map_55 : decode b_M_map 55 = .ok (.ifCond .eq 7, 3) := by decide +kernel
theorem d_M_map_58 : decode b_M_map 58 = .ok (.iconst 1, 1) := by decide +kernel
theorem d_M_map_59 : decode b_M_map 59 = .ok (.goto 4, 3) := by decide +kernel
theorem d_M_map_62 : decode b_M_map 62 = .ok (.iconst 0, 1) := by decide +kernel
theorem d_M_map_63 : decode b_M_map 63 = .ok (.iadd, 1) := by decide +kernel
theorem d_M_map_64 : decode b_M_map 64 = .ok (.ireturn, 1) := by decide +kernel
theorem d_M_unmap_0 : decode b_M_unmap 0 = .ok (.iload_n 2, 1) := by decide +kernel
theorem d_M_unmap_1 : decode b_M_unmap 1 = .ok (.ifCond .eq 8, 3) := by decide +kernel
theorem d_M_unmap_4 : decode b_M_unmap 4 = .ok (.ldc 148, 2) := by decide +kernel
theorem d_M_unmap_6 : decode b_M_unmap 6 = .ok (.goto 5, 3) := by decide +kernel
theorem d_M_unmap_9 : decode b_M_unmap 9 = .ok (.ldc 149, 2) := by decide +kernel
theorem d_M_unmap_11 : decode b_M_unmap 11 = .ok (.istore_n 3, 1) := by decide +kernel
theorem d_M_unmap_12 : decode b_M_unmap 12 = .ok (.aload_n 0, 1) := by decide +kernel
theorem d_M_unmap_13 : decode b_M_unmap 13 = .ok (.iload_n 1, 1) := by decide +kernel
theorem d_M_unmap_14 : decode b_M_unmap 14 = .ok (.ifCond .lt 18, 3) := by decide +kernel
theorem d_M_unmap_17 : decode b_M_unmap 17 = .ok (.iload_n 1, 1) := by decide +kernel
theorem d_M_unmap_18 : decode b_M_unmap 18 = .ok (.iload_n 3, 1) := by decide +kernel
theorem d_M_unmap_19 : decode b_M_unmap 19 = .ok (.if_icmp .gt 13, 3) := by decide +kernel
theorem d_M_unmap_22 : decode b_M_unmap 22 = .ok (.iload_n 2, 1) := by decide +kernel
theorem d_M_unmap_23 : decode b_M_unmap 23 = .ok (.ifCond .eq 13, 3) := by decide +kernel
theorem d_M_unmap_26 : decode b_M_unmap 26 = .ok (.iload_n 1, 1) := by decide +kernel
theorem d_M_unmap_27 : decode b_M_unmap 27 = .ok (.ldc 149, 2) := by decide +kernel
theorem d_M_unmap_29 : decode b_M_unmap 29 = .ok (.if_icmp .ne 7, 3) := by decide +kernel
theorem d_M_unmap_32 : decode b_M_unmap 32 = .ok (.iconst 1, 1) := by decide +kernel
theorem d_M_unmap_33 : decode b_M_unmap 33 = .ok (.goto 4, 3) := by decide +kernel
theorem d_M_unmap_36 : decode b_M_unmap 36 = .ok (.iconst 0, 1) := by decide +kernel
theorem d_M_unmap_37 : decode b_M_unmap 37 = .ok (.putfield 62, 3) := by decide +kernel
theorem d_M_unmap_40 : decode b_M_unmap 40 = .ok (.aload_n 0, 1) := by decide +kernel
theorem d_M_unmap_41 : decode b_M_unmap 41 = .ok (.getfield 62, 3) := by decide +kernel
theorem d_M_unmap_44 : decode b_M_unmap 44 = .ok (.ifCond .le 5, 3) := by decide +kernel
theorem d_M_unmap_47 : decode b_M_unmap 47 = .ok (.iconst 0, 1) := by decide +kernel
theorem d_M_unmap_48 : decode b_M_unmap 48 = .ok (.ireturn, 1) := by decide +kernel
theorem d_M_unmap_49 : decode b_M_unmap 49 = .ok (.iload_n 1, 1) := by decide +kernel
theorem d_M_unmap_50 : decode b_M_unmap 50 = .ok (.iconst 2, 1) := by decide +kernel
theorem d_M_unmap_51 : decode b_M_unmap 51 = .ok (.irem, 1) := by decide +kernel
theorem d_M_unmap_52 : decode b_M_unmap 52 = .ok (.ifCond .ne 7, 3) := by decide +kernel
theorem d_M_unmap_55 : decode b_M_unmap 55 = .ok (.iconst 1, 1) := by decide +kernel
theorem d_M_unmap_56 : decode b_M_unmap 56 = .ok (.goto 4, 3) := by decide +kernel
theorem d_M_unmap_59 : decode b_M_unmap 59 = .ok (.iconst 0, 1) := by decide +kernel
theorem d_M_unmap_60 : decode b_M_unmap 60 = .ok (.iload_n 2, 1) := by decide +kernel
theorem d_M_unmap_61 : decode b_M_unmap 61 = .ok (.if_icmp .eq 7, 3) := by decide +kernel
theorem d_M_unmap_64 : decode b_M_unmap 64 = .ok (.iconst 1, 1) := by decide +kernel
theorem d_M_unmap_65 : decode b_M_unmap 65 = .ok (.goto 4, 3) := by decide +kernel
theorem d_M_unmap_68 : decode b_M_unmap 68 = .ok (.iconst 0, 1) := by decide +kernel
theorem d_M_unmap_69 : decode b_M_unmap 69 = .ok (.istore 4, 2) := by decide +kernel
theorem d_M_unmap_71 : decode b_M_unmap 71 = .ok (.iload 4, 2) := by decide +kernel
theorem d_M_unmap_73 : decode b_M_unmap 73 = .ok (.ifCond .eq 9, 3) := by decide +kernel
theorem d_M_unmap_76 : decode b_M_unmap 76 = .ok (.iload_n 1, 1) := by decide +kernel
theorem d_M_unmap_77 : decode b_M_unmap 77 = .ok (.iconst 2, 1) := by decide +kernel
theorem d_M_unmap_78 : decode b_M_unmap 78 = .ok (.idiv, 1) := by decide +kernel
theorem d_M_unmap_79 : decode b_M_unmap 79 = .ok (.goto 17, 3) := by decide +kernel
theorem d_M_unmap_82 : decode b_M_unmap 82 = .ok (.iload_n 1, 1) := by decide +kernel
theorem d_M_unmap_83 : decode b_M_unmap 83 = .ok (.iload_n 2, 1) := by decide +kernel
theorem d_M_unmap_84 : decode b_M_unmap 84 = .ok (.ifCond .eq 7, 3) := by decide +kernel
theorem d_M_unmap_87 : decode b_M_unmap 87 = .ok (.iconst 2, 1) := by decide +kernel
theorem d_M_unmap_88 : decode b_M_unmap 88 = .ok (.goto 4, 3) := by decide +kernel
theorem d_M_unmap_91 : decode b_M_unmap 91 = .ok (.iconst 1, 1) := by decide +kernel
theorem d_M_unmap_92 : decode b_M_unmap 92 = .ok (.iadd, 1) := by decide +kernel
theorem d_M_unmap_93 : decode b_M_unmap 93 = .ok (.iconst 2, 1) := by decide +kernel
theorem d_M_unmap_94 : decode b_M_unmap 94 = .ok (.idiv, 1) := by decide +kernel
theorem d_M_unmap_95 : decode b_M_unmap 95 = .ok (.ineg, 1) := by decide +kernel
theorem d_M_unmap_96 : decode b_M_unmap 96 = .ok (.ireturn, 1) := by decide +kernel
theorem d_M_step_0 : decode b_M_step 0 = .ok (.aload_n 0, 1) := by decide +kernel
theorem d_M_step_1 : decode b_M_step 1 = .ok (.iconst 0, 1) := by decide +kernel
theorem d_M_step_2 : decode b_M_step 2 = .ok (.putfield 62, 3) := by decide +kernel
theorem d_M_step_5 : decode b_M_step 5 = .ok (.aload_n 0, 1) := by decide +kernel
theorem d_M_step_6 : decode b_M_step 6 = .ok (.getfield 7, 3) := by decide +kernel
theorem d_M_step_9 : decode b_M_step 9 = .ok (.iload_n 1, 1) := by decide +kernel
theorem d_M_step_10 : decode b_M_step 10 = .ok (.ifCond .eq 7, 3) := by decide +kernel
theorem d_M_step_13 : decode b_M_step 13 = .ok (.iconst 1, 1) := by decide +kernel
theorem d_M_step_14 : decode b_M_step 14 = .ok (.goto 4, 3) := by decide +kernel
theorem d_M_step_17 : decode b_M_step 17 = .ok (.iconst 0, 1) := by decide +kernel
theorem d_M_step_18 : decode b_M_step 18 = .ok (.iaload, 1) := by decide +kernel
theorem d_M_step_19 : decode b_M_step 19 = .ok (.ireturn, 1) := by decide +kernel
theorem d_M_state_0 : decode b_M_state 0 = .ok (.aload_n 0, 1) := by decide +kernel
theorem d_M_state_1 : decode b_M_state 1 = .ok (.aload_n 0, 1) := by decide +kernel
theorem d_M_state_2 : decode b_M_state 2 = .ok (.iload_n 2, 1) := by decide +kernel
theorem d_M_state_3 : decode b_M_state 3 = .ok (.invokevirtual 105, 3) := by decide +kernel
theorem d_M_state_6 : decode b_M_state 6 = .ok (.ifCond .ne 7, 3) := by decide +kernel
theorem d_M_state_9 : decode b_M_state 9 = .ok (.iconst 1, 1) := by decide +kernel
theorem d_M_state_10 : decode b_M_state 10 = .ok (.goto 17, 3) := by decide +kernel
theorem d_M_state_13 : decode b_M_state 13 = .ok (.iload_n 3, 1) := by decide +kernel
theorem d_M_state_14 : decode b_M_state 14 = .ok (.ifCond .lt 8, 3) := by decide +kernel
theorem d_M_state_17 : decode b_M_state 17 = .ok (.iload_n 3, 1) := by decide +kernel
theorem d_M_state_18 : decode b_M_state 18 = .ok (.iconst 3, 1) := by decide +kernel
theorem d_M_state_19 : decode b_M_state 19 = .ok (.if_icmp .le 7, 3) := by decide +kernel
theorem d_M_state_22 : decode b_M_state 22 = .ok (.iconst 2, 1) := by decide +kernel
theorem d_M_state_23 : decode b_M_state 23 = .ok (.goto 4, 3) := by decide +kernel
theorem d_M_state_26 : decode b_M_state 26 = .ok (.iconst 0, 1) := by decide +kernel
theorem d_M_state_27 : decode b_M_state 27 = .ok (.putfield 62, 3) := by decide +kernel
theorem d_M_state_30 : decode b_M_state 30 = .ok (.aload_n 0, 1) := by decide +kernel
theorem d_M_state_31 : decode b_M_state 31 = .ok (.getfield 62, 3) := by decide +kernel
theorem d_M_state_34 : decode b_M_state 34 = .ok (.ifCond .le 5, 3) := by decide +kernel
theorem d_M_state_37 : decode b_M_state 37 = .ok (.iconst 0, 1) := by decide +kernel
theorem d_M_state_38 : decode b_M_state 38 = .ok (.ireturn, 1) := by decide +kernel
theorem d_M_state_39 : decode b_M_state 39 = .ok (.iload_n 1, 1) := by decide +kernel
theorem d_M_state_40 : decode b_M_state 40 = .ok (.ifCond .eq 7, 3) := by decide +kernel
theorem d_M_state_43 : decode b_M_state 43 = .ok (.iconst 2, 1) := by decide +kernel
theorem d_M_state_44 : decode b_M_state 44 = .ok (.goto 4, 3) := by decide +kernel
theorem d_M_state_47 : decode b_M_state 47 = .ok (.iconst 0, 1) := by decide +kernel
theorem d_M_state_48 : decode b_M_state 48 = .ok (.iload_n 2, 1) := by decide +kernel
theorem d_M_state_49 : decode b_M_state 49 = .ok (.iadd, 1) := by decide +kernel
theorem d_M_state_50 : decode b_M_state 50 = .ok (.istore 4, 2) := by decide +kernel
theorem d_M_state_52 : decode b_M_state 52 = .ok (.iload_n 3, 1) := by decide +kernel
theorem d_M_state_53 : decode b_M_state 53 = .ok (.ifCond .ne 13, 3) := by decide +kernel
theorem d_M_state_56 : decode b_M_state 56 = .ok (.aload_n 0, 1) := by decide +kernel
theorem d_M_state_57 : decode b_M_state 57 = .ok (.getfield 16, 3) := by decide +kernel
theorem d_M_state_60 : decode b_M_state 60 = .ok (.iload 4, 2) := by decide +kernel
theorem d_M_state_62 : decode b_M_state 62 = .ok (.iaload, 1) := by decide +kernel
theorem d_M_state_63 : decode b_M_state 63 = .ok (.goto 39, 3) := by decide +kernel
theorem d_M_state_66 : decode b_M_state 66 = .ok (.iload_n 3, 1) := by decide +kernel
theorem d_M_state_67 : decode b_M_state 67 = .ok (.iconst 1, 1) := by decide +kernel
theorem d_M_state_68 : decode b_M_state 68 = .ok (.if_icmp .ne 13, 3) := by decide +kernel
theorem d_M_state_71 : decode b_M_state 71 = .ok (.aload_n 0, 1) := by decide +kernel
theorem d_M_state_72 : decode b_M_state 72 = .ok (.getfield 19, 3) := by decide +kernel
theorem d_M_state_75 : decode b_M_state 75 = .ok (.iload 4, 2) := by decide +kernel
theorem d_M_state_77 : decode b_M_state 77 = .ok (.iaload, 1) := by decide +kernel
theorem d_M_state_78 : decode b_M_state 78 = .ok (.goto 24, 3) := by decide +kernel
theorem d_M_state_81 : decode b_M_state 81 = .ok (.iload_n 3, 1) := by decide +kernel
theorem d_M_state_82 : decode b_M_state 82 = .ok (.iconst 2, 1) := by decide +kernel
theorem d_M_state_83 : decode b_M_state 83 = .ok (.if_icmp .ne 13, 3) := by decide +kernel
theorem d_M_state_86 : decode b_M_state 86 = .ok (.aload_n 0, 1) := by decide +kernel
theorem d_M_state_87 : decode b_M_state 87 = .ok (.getfield 22, 3) := by decide +kernel
theorem d_M_state_90 : decode b_M_state 90 = .ok (.iload 4, 2) := by decide +kernel
theorem d_M_state_92 : decode b_M_state 92 = .ok (.iaload, 1) := by decide +kernel
theorem d_M_state_93 : decode b_M_state 93 = .ok (.goto 9, 3) := by decide +kernel
theorem d_M_state_96 : decode b_M_state 96 = .ok (.aload_n 0, 1) := by decide +kernel
theorem d_M_state_97 : decode b_M_state 97 = .ok (.iload 4, 2) := by decide +kernel
theorem d_M_state_99 : decode b_M_state 99 = .ok (.invokevirtual 102, 3) := by decide +kernel
theorem d_M_state_102 : decode b_M_state 102 = .ok (.ireturn, 1) := by decide +kernel
theorem d_M_told_0 : decode b_M_told 0 = .ok (.aload_n 0, 1) := by decide +kernel
theorem d_M_told_1 : decode b_M_told 1 = .ok (.iconst 0, 1) := by decide +kernel
theorem d_M_told_2 : decode b_M_told 2 = .ok (.putfield 62, 3) := by decide +kernel
theorem d_M_told_5 : decode b_M_told 5 = .ok (.iload_n 1, 1) := by decide +kernel
theorem d_M_told_6 : decode b_M_told 6 = .ok (.ifCond .ne 10, 3) := by decide +kernel
theorem d_M_told_9 : decode b_M_told 9 = .ok (.aload_n 0, 1) := by decide +kernel
theorem d_M_told_10 : decode b_M_told 10 = .ok (.getfield 39, 3) := by decide +kernel
theorem d_M_told_13 : decode b_M_told 13 = .ok (.goto 53, 3) := by decide +kernel
theorem d_M_told_16 : decode b_M_told 16 = .ok (.iload_n 1, 1) := by decide +kernel
theorem d_M_told_17 : decode b_M_told 17 = .ok (.iconst 1, 1) := by decide +kernel
theorem d_M_told_18 : decode b_M_told 18 = .ok (.if_icmp .ne 10, 3) := by decide +kernel
theorem d_M_told_21 : decode b_M_told 21 = .ok (.aload_n 0, 1) := by decide +kernel
theorem d_M_told_22 : decode b_M_told 22 = .ok (.getfield 47, 3) := by decide +kernel
theorem d_M_told_25 : decode b_M_told 25 = .ok (.goto 41, 3) := by decide +kernel
theorem d_M_told_28 : decode b_M_told 28 = .ok (.iload_n 1, 1) := by decide +kernel
theorem d_M_told_29 : decode b_M_told 29 = .ok (.iconst 2, 1) := by decide +kernel
theorem d_M_told_30 : decode b_M_told 30 = .ok (.if_icmp .ne 10, 3) := by decide +kernel
theorem d_M_told_33 : decode b_M_told 33 = .ok (.aload_n 0, 1) := by decide +kernel
theorem d_M_told_34 : decode b_M_told 34 = .ok (.getfield 56, 3) := by decide +kernel
theorem d_M_told_37 : decode b_M_told 37 = .ok (.goto 29, 3) := by decide +kernel
theorem d_M_told_40 : decode b_M_told 40 = .ok (.iload_n 1, 1) := by decide +kernel
theorem d_M_told_41 : decode b_M_told 41 = .ok (.iconst 3, 1) := by decide +kernel
theorem d_M_told_42 : decode b_M_told 42 = .ok (.if_icmp .ne 10, 3) := by decide +kernel
theorem d_M_told_45 : decode b_M_told 45 = .ok (.aload_n 0, 1) := by decide +kernel
theorem d_M_told_46 : decode b_M_told 46 = .ok (.getfield 50, 3) := by decide +kernel
theorem d_M_told_49 : decode b_M_told 49 = .ok (.goto 17, 3) := by decide +kernel
theorem d_M_told_52 : decode b_M_told 52 = .ok (.iload_n 1, 1) := by decide +kernel
theorem d_M_told_53 : decode b_M_told 53 = .ok (.iconst 4, 1) := by decide +kernel
theorem d_M_told_54 : decode b_M_told 54 = .ok (.if_icmp .ne 10, 3) := by decide +kernel
theorem d_M_told_57 : decode b_M_told 57 = .ok (.aload_n 0, 1) := by decide +kernel
theorem d_M_told_58 : decode b_M_told 58 = .ok (.getfield 53, 3) := by decide +kernel
theorem d_M_told_61 : decode b_M_told 61 = .ok (.goto 5, 3) := by decide +kernel
theorem d_M_told_64 : decode b_M_told 64 = .ok (.bipush (-2), 2) := by decide +kernel
theorem d_M_told_66 : decode b_M_told 66 = .ok (.ireturn, 1) := by decide +kernel
theorem d_M_clear_0 : decode b_M_clear 0 = .ok (.aload_n 0, 1) := by decide +kernel
theorem d_M_clear_1 : decode b_M_clear 1 = .ok (.iconst 0, 1) := by decide +kernel
theorem d_M_clear_2 : decode b_M_clear 2 = .ok (.putfield 62, 3) := by decide +kernel
theorem d_M_clear_5 : decode b_M_clear 5 = .ok (.aload_n 0, 1) := by decide +kernel
theorem d_M_clear_6 : decode b_M_clear 6 = .ok (.invokevirtual 59, 3) := by decide +kernel
theorem d_M_clear_9 : decode b_M_clear 9 = .ok (.return_, 1) := by decide +kernel
