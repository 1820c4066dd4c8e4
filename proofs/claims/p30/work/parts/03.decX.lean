theorem dX0_init_0 : decode cX0_init 0 = .ok (.aload_n 0, 1) := by decide +kernel
theorem dX0_init_1 : decode cX0_init 1 = .ok (.invokespecial 3, 3) := by decide +kernel
theorem dX0_init_4 : decode cX0_init 4 = .ok (.aload_n 0, 1) := by decide +kernel
theorem dX0_init_5 : decode cX0_init 5 = .ok (.iconst 0, 1) := by decide +kernel
theorem dX0_init_6 : decode cX0_init 6 = .ok (.putfield 9, 3) := by decide +kernel
theorem dX0_init_9 : decode cX0_init 9 = .ok (.aload_n 0, 1) := by decide +kernel
theorem dX0_init_10 : decode cX0_init 10 = .ok (.iconst 0, 1) := by decide +kernel
theorem dX0_init_11 : decode cX0_init 11 = .ok (.putfield 15, 3) := by decide +kernel
theorem dX0_init_14 : decode cX0_init 14 = .ok (.aload_n 0, 1) := by decide +kernel
theorem dX0_init_15 : decode cX0_init 15 = .ok (.bipush 60, 2) := by decide +kernel
theorem dX0_init_17 : decode cX0_init 17 = .ok (.newarray .int, 2) := by decide +kernel
theorem dX0_init_19 : decode cX0_init 19 = .ok (.putfield 19, 3) := by decide +kernel
theorem dX0_init_22 : decode cX0_init 22 = .ok (.return_, 1) := by decide +kernel
theorem dX0_copyFrom_0 : decode cX0_copyFrom 0 = .ok (.aload_n 0, 1) := by decide +kernel
theorem dX0_copyFrom_1 : decode cX0_copyFrom 1 = .ok (.aload_n 1, 1) := by decide +kernel
theorem dX0_copyFrom_2 : decode cX0_copyFrom 2 = .ok (.getfield 9, 3) := by decide +kernel
theorem dX0_copyFrom_5 : decode cX0_copyFrom 5 = .ok (.putfield 9, 3) := by decide +kernel
theorem dX0_copyFrom_8 : decode cX0_copyFrom 8 = .ok (.aload_n 0, 1) := by decide +kernel
theorem dX0_copyFrom_9 : decode cX0_copyFrom 9 = .ok (.aload_n 1, 1) := by decide +kernel
theorem dX0_copyFrom_10 : decode cX0_copyFrom 10 = .ok (.getfield 15, 3) := by decide +kernel
theorem dX0_copyFrom_13 : decode cX0_copyFrom 13 = .ok (.putfield 15, 3) := by decide +kernel
theorem dX0_copyFrom_16 : decode cX0_copyFrom 16 = .ok (.aload_n 1, 1) := by decide +kernel
theorem dX0_copyFrom_17 : decode cX0_copyFrom 17 = .ok (.getfield 19, 3) := by decide +kernel
theorem dX0_copyFrom_20 : decode cX0_copyFrom 20 = .ok (.iconst 0, 1) := by decide +kernel
theorem dX0_copyFrom_21 : decode cX0_copyFrom 21 = .ok (.aload_n 0, 1) := by decide +kernel
theorem dX0_copyFrom_22 : decode cX0_copyFrom 22 = .ok (.getfield 19, 3) := by decide +kernel
theorem dX0_copyFrom_25 : decode cX0_copyFrom 25 = .ok (.iconst 0, 1) := by decide +kernel
theorem dX0_copyFrom_26 : decode cX0_copyFrom 26 = .ok (.bipush 60, 2) := by decide +kernel
theorem dX0_copyFrom_28 : decode cX0_copyFrom 28 = .ok (.invokestatic 23, 3) := by decide +kernel
theorem dX0_copyFrom_31 : decode cX0_copyFrom 31 = .ok (.return_, 1) := by decide +kernel
theorem dX0_isMet_0 : decode cX0_isMet 0 = .ok (.iconst 0, 1) := by decide +kernel
theorem dX0_isMet_1 : decode cX0_isMet 1 = .ok (.istore 4, 2) := by decide +kernel
theorem dX0_isMet_3 : decode cX0_isMet 3 = .ok (.iconst (-1), 1) := by decide +kernel
theorem dX0_isMet_4 : decode cX0_isMet 4 = .ok (.istore 5, 2) := by decide +kernel
theorem dX0_isMet_6 : decode cX0_isMet 6 = .ok (.iconst 0, 1) := by decide +kernel
theorem dX0_isMet_7 : decode cX0_isMet 7 = .ok (.istore 6, 2) := by decide +kernel
theorem dX0_isMet_9 : decode cX0_isMet 9 = .ok (.iload 6, 2) := by decide +kernel
theorem dX0_isMet_11 : decode cX0_isMet 11 = .ok (.aload_n 0, 1) := by decide +kernel
theorem dX0_isMet_12 : decode cX0_isMet 12 = .ok (.getfield 15, 3) := by decide +kernel
theorem dX0_isMet_15 : decode cX0_isMet 15 = .ok (.if_icmp .ge 152, 3) := by decide +kernel
theorem dX0_isMet_18 : decode cX0_isMet 18 = .ok (.aload_n 0, 1) := by decide +kernel
theorem dX0_isMet_19 : decode cX0_isMet 19 = .ok (.getfield 19, 3) := by decide +kernel
theorem dX0_isMet_22 : decode cX0_isMet 22 = .ok (.iload 6, 2) := by decide +kernel
theorem dX0_isMet_24 : decode cX0_isMet 24 = .ok (.iaload, 1) := by decide +kernel
theorem dX0_isMet_25 : decode cX0_isMet 25 = .ok (.bipush 15, 2) := by decide +kernel
theorem dX0_isMet_27 : decode cX0_isMet 27 = .ok (.iand, 1) := by decide +kernel
theorem dX0_isMet_28 : decode cX0_isMet 28 = .ok (.istore 7, 2) := by decide +kernel
theorem dX0_isMet_30 : decode cX0_isMet 30 = .ok (.iload 7, 2) := by decide +kernel
theorem dX0_isMet_32 : decode cX0_isMet 32 = .ok (.iconst 3, 1) := by decide +kernel
theorem dX0_isMet_33 : decode cX0_isMet 33 = .ok (.if_icmp .ne 18, 3) := by decide +kernel
theorem dX0_isMet_36 : decode cX0_isMet 36 = .ok (.iload 5, 2) := by decide +kernel
theorem dX0_isMet_38 : decode cX0_isMet 38 = .ok (.ifCond .ge 13, 3) := by decide +kernel
theorem dX0_isMet_41 : decode cX0_isMet 41 = .ok (.aload_n 1, 1) := by decide +kernel
theorem dX0_isMet_42 : decode cX0_isMet 42 = .ok (.iload_n 2, 1) := by decide +kernel
theorem dX0_isMet_43 : decode cX0_isMet 43 = .ok (.invokevirtual 29, 3) := by decide +kernel
theorem dX0_isMet_46 : decode cX0_isMet 46 = .ok (.invokestatic 35, 3) := by decide +kernel
theorem dX0_isMet_49 : decode cX0_isMet 49 = .ok (.istore 5, 2) := by decide +kernel
theorem dX0_isMet_51 : decode cX0_isMet 51 = .ok (.iload 7, 2) := by decide +kernel
theorem dX0_isMet_53 : decode cX0_isMet 53 = .ok (.iconst 3, 1) := by decide +kernel
theorem dX0_isMet_54 : decode cX0_isMet 54 = .ok (.if_icmp .gt 47, 3) := by decide +kernel
theorem dX0_isMet_57 : decode cX0_isMet 57 = .ok (.iload 4, 2) := by decide +kernel
theorem dX0_isMet_59 : decode cX0_isMet 59 = .ok (.aload_n 3, 1) := by decide +kernel
theorem dX0_isMet_60 : decode cX0_isMet 60 = .ok (.arraylength, 1) := by decide +kernel
theorem dX0_isMet_61 : decode cX0_isMet 61 = .ok (.if_icmp .ge 40, 3) := by decide +kernel
theorem dX0_isMet_64 : decode cX0_isMet 64 = .ok (.aload_n 3, 1) := by decide +kernel
theorem dX0_isMet_65 : decode cX0_isMet 65 = .ok (.iload 4, 2) := by decide +kernel
theorem dX0_isMet_67 : decode cX0_isMet 67 = .ok (.iload 7, 2) := by decide +kernel
theorem dX0_isMet_69 : decode cX0_isMet 69 = .ok (.iconst 3, 1) := by decide +kernel
theorem dX0_isMet_70 : decode cX0_isMet 70 = .ok (.if_icmp .ne 8, 3) := by decide +kernel
theorem dX0_isMet_73 : decode cX0_isMet 73 = .ok (.iload 5, 2) := by decide +kernel
theorem dX0_isMet_75 : decode cX0_isMet 75 = .ok (.goto 19, 3) := by decide +kernel
theorem dX0_isMet_78 : decode cX0_isMet 78 = .ok (.aload_n 1, 1) := by decide +kernel
theorem dX0_isMet_79 : decode cX0_isMet 79 = .ok (.iload_n 2, 1) := by decide +kernel
theorem dX0_isMet_80 : decode cX0_isMet 80 = .ok (.iload 7, 2) := by decide +kernel
theorem dX0_isMet_82 : decode cX0_isMet 82 = .ok (.aload_n 0, 1) := by decide +kernel
theorem dX0_isMet_83 : decode cX0_isMet 83 = .ok (.getfield 19, 3) := by decide +kernel
theorem dX0_isMet_86 : decode cX0_isMet 86 = .ok (.iload 6, 2) := by decide +kernel
theorem dX0_isMet_88 : decode cX0_isMet 88 = .ok (.iaload, 1) := by decide +kernel
theorem dX0_isMet_89 : decode cX0_isMet 89 = .ok (.iconst 4, 1) := by decide +kernel
theorem dX0_isMet_90 : decode cX0_isMet 90 = .ok (.ishr, 1) := by decide +kernel
theorem dX0_isMet_91 : decode cX0_isMet 91 = .ok (.invokestatic 40, 3) := by decide +kernel
theorem dX0_isMet_94 : decode cX0_isMet 94 = .ok (.iastore, 1) := by decide +kernel
theorem dX0_isMet_95 : decode cX0_isMet 95 = .ok (.iinc 4 1, 3) := by decide +kernel
theorem dX0_isMet_98 : decode cX0_isMet 98 = .ok (.goto 63, 3) := by decide +kernel
theorem dX0_isMet_101 : decode cX0_isMet 101 = .ok (.iload 7, 2) := by decide +kernel
theorem dX0_isMet_103 : decode cX0_isMet 103 = .ok (.bipush 11, 2) := by decide +kernel
theorem dX0_isMet_105 : decode cX0_isMet 105 = .ok (.if_icmp .ne 26, 3) := by decide +kernel
theorem dX0_isMet_108 : decode cX0_isMet 108 = .ok (.iload 4, 2) := by decide +kernel
theorem dX0_isMet_110 : decode cX0_isMet 110 = .ok (.iconst 1, 1) := by decide +kernel
theorem dX0_isMet_111 : decode cX0_isMet 111 = .ok (.if_icmp .lt 20, 3) := by decide +kernel
theorem dX0_isMet_114 : decode cX0_isMet 114 = .ok (.aload_n 3, 1) := by decide +kernel
theorem dX0_isMet_115 : decode cX0_isMet 115 = .ok (.iload 4, 2) := by decide +kernel
theorem dX0_isMet_117 : decode cX0_isMet 117 = .ok (.iconst 1, 1) := by decide +kernel
theorem dX0_isMet_118 : decode cX0_isMet 118 = .ok (.isub, 1) := by decide +kernel
theorem dX0_isMet_119 : decode cX0_isMet 119 = .ok (.iconst 1, 1) := by decide +kernel
theorem dX0_isMet_120 : decode cX0_isMet 120 = .ok (.aload_n 3, 1) := by decide +kernel
theorem dX0_isMet_121 : decode cX0_isMet 121 = .ok (.iload 4, 2) := by decide +kernel
theorem dX0_isMet_123 : decode cX0_isMet 123 = .ok (.iconst 1, 1) := by decide +kernel
theorem dX0_isMet_124 : decode cX0_isMet 124 = .ok (.isub, 1) := by decide +kernel
theorem dX0_isMet_125 : decode cX0_isMet 125 = .ok (.iaload, 1) := by decide +kernel
theorem dX0_isMet_126 : decode cX0_isMet 126 = .ok (.isub, 1) := by decide +kernel
theorem dX0_isMet_127 : decode cX0_isMet 127 = .ok (.iastore, 1) := by decide +kernel
theorem dX0_isMet_128 : decode cX0_isMet 128 = .ok (.goto 33, 3) := by decide +kernel
theorem dX0_isMet_131 : decode cX0_isMet 131 = .ok (.iload 4, 2) := by decide +kernel
theorem dX0_isMet_133 : decode cX0_isMet 133 = .ok (.iconst 2, 1) := by decide +kernel
theorem dX0_isMet_134 : decode cX0_isMet 134 = .ok (.if_icmp .lt 27, 3) := by decide +kernel
theorem dX0_isMet_137 : decode cX0_isMet 137 = .ok (.iinc 4 (-1), 3) := by decide +kernel
theorem dX0_isMet_140 : decode cX0_isMet 140 = .ok (.aload_n 3, 1) := by decide +kernel
theorem dX0_isMet_141 : decode cX0_isMet 141 = .ok (.iload 4, 2) := by decide +kernel
theorem dX0_isMet_143 : decode cX0_isMet 143 = .ok (.iconst 1, 1) := by decide +kernel
theorem dX0_isMet_144 : decode cX0_isMet 144 = .ok (.isub, 1) := by decide +kernel
theorem dX0_isMet_145 : decode cX0_isMet 145 = .ok (.iload 7, 2) := by decide +kernel
theorem dX0_isMet_147 : decode cX0_isMet 147 = .ok (.aload_n 3, 1) := by decide +kernel
theorem dX0_isMet_148 : decode cX0_isMet 148 = .ok (.iload 4, 2) := by decide +kernel
theorem dX0_isMet_150 : decode cX0_isMet 150 = .ok (.iconst 1, 1) := by decide +kernel
theorem dX0_isMet_151 : decode cX0_isMet 151 = .ok (.isub, 1) := by decide +kernel
theorem dX0_isMet_152 : decode cX0_isMet 152 = .ok (.iaload, 1) := by decide +kernel
theorem dX0_isMet_153 : decode cX0_isMet 153 = .ok (.aload_n 3, 1) := by decide +kernel
theorem dX0_isMet_154 : decode cX0_isMet 154 = .ok (.iload 4, 2) := by decide +kernel
theorem dX0_isMet_156 : decode cX0_isMet 156 = .ok (.iaload, 1) := by decide +kernel
theorem dX0_isMet_157 : decode cX0_isMet 157 = .ok (.invokestatic 44, 3) := by decide +kernel
theorem dX0_isMet_160 : decode cX0_isMet 160 = .ok (.iastore, 1) := by decide +kernel
theorem dX0_isMet_161 : decode cX0_isMet 161 = .ok (.iinc 6 1, 3) := by decide +kernel
theorem dX0_isMet_164 : decode cX0_isMet 164 = .ok (.goto (-155), 3) := by decide +kernel
theorem dX0_isMet_167 : decode cX0_isMet 167 = .ok (.iload 4, 2) := by decide +kernel
theorem dX0_isMet_169 : decode cX0_isMet 169 = .ok (.ifCond .le 14, 3) := by decide +kernel
theorem dX0_isMet_172 : decode cX0_isMet 172 = .ok (.aload_n 3, 1) := by decide +kernel
theorem dX0_isMet_173 : decode cX0_isMet 173 = .ok (.iconst 0, 1) := by decide +kernel
theorem dX0_isMet_174 : decode cX0_isMet 174 = .ok (.iaload, 1) := by decide +kernel
theorem dX0_isMet_175 : decode cX0_isMet 175 = .ok (.iconst 1, 1) := by decide +kernel
theorem dX0_isMet_176 : decode cX0_isMet 176 = .ok (.if_icmp .ne 7, 3) := by decide +kernel
theorem dX0_isMet_179 : decode cX0_isMet 179 = .ok (.iconst 1, 1) := by decide +kernel
theorem dX0_isMet_180 : decode cX0_isMet 180 = .ok (.goto 4, 3) := by decide +kernel
theorem dX0_isMet_183 : decode cX0_isMet 183 = .ok (.iconst 0, 1) := by decide +kernel
theorem dX0_isMet_184 : decode cX0_isMet 184 = .ok (.ireturn, 1) := by decide +kernel
theorem dX0_unit_0 : decode cX0_unit 0 = .ok (.iload_n 2, 1) := by decide +kernel
theorem dX0_unit_1 : decode cX0_unit 1 = .ok (.lookupswitch 44 #[(1, 27), (2, 34)], 27) := by decide +kernel
theorem dX0_unit_28 : decode cX0_unit 28 = .ok (.aload_n 0, 1) := by decide +kernel
theorem dX0_unit_29 : decode cX0_unit 29 = .ok (.iload_n 1, 1) := by decide +kernel
theorem dX0_unit_30 : decode cX0_unit 30 = .ok (.iload_n 3, 1) := by decide +kernel
theorem dX0_unit_31 : decode cX0_unit 31 = .ok (.invokevirtual 48, 3) := by decide +kernel
theorem dX0_unit_34 : decode cX0_unit 34 = .ok (.ireturn, 1) := by decide +kernel
theorem dX0_unit_35 : decode cX0_unit 35 = .ok (.iload_n 1, 1) := by decide +kernel
theorem dX0_unit_36 : decode cX0_unit 36 = .ok (.aload_n 0, 1) := by decide +kernel
theorem dX0_unit_37 : decode cX0_unit 37 = .ok (.iload_n 3, 1) := by decide +kernel
theorem dX0_unit_38 : decode cX0_unit 38 = .ok (.invokevirtual 52, 3) := by decide +kernel
theorem dX0_unit_41 : decode cX0_unit 41 = .ok (.invokestatic 55, 3) := by decide +kernel
theorem dX0_unit_44 : decode cX0_unit 44 = .ok (.ireturn, 1) := by decide +kernel
theorem dX0_unit_45 : decode cX0_unit 45 = .ok (.iload_n 3, 1) := by decide +kernel
theorem dX0_unit_46 : decode cX0_unit 46 = .ok (.ireturn, 1) := by decide +kernel
theorem dX0_combined_0 : decode cX0_combined 0 = .ok (.iload_n 0, 1) := by decide +kernel
theorem dX0_combined_1 : decode cX0_combined 1 = .ok (.tableswitch 84 4 9 #[39, 43, 47, 58, 69, 80], 39) := by decide +kernel
theorem dX0_combined_40 : decode cX0_combined 40 = .ok (.iload_n 1, 1) := by decide +kernel
theorem dX0_combined_41 : decode cX0_combined 41 = .ok (.iload_n 2, 1) := by decide +kernel
theorem dX0_combined_42 : decode cX0_combined 42 = .ok (.iadd, 1) := by decide +kernel
theorem dX0_combined_43 : decode cX0_combined 43 = .ok (.ireturn, 1) := by decide +kernel
theorem dX0_combined_44 : decode cX0_combined 44 = .ok (.iload_n 1, 1) := by decide +kernel
theorem dX0_combined_45 : decode cX0_combined 45 = .ok (.iload_n 2, 1) := by decide +kernel
theorem dX0_combined_46 : decode cX0_combined 46 = .ok (.isub, 1) := by decide +kernel
theorem dX0_combined_47 : decode cX0_combined 47 = .ok (.ireturn, 1) := by decide +kernel
theorem dX0_combined_48 : decode cX0_combined 48 = .ok (.iload_n 1, 1) := by decide +kernel
theorem dX0_combined_49 : decode cX0_combined 49 = .ok (.iload_n 2, 1) := by decide +kernel
theorem dX0_combined_50 : decode cX0_combined 50 = .ok (.if_icmp .ne 7, 3) := by decide +kernel
theorem dX0_combined_53 : decode cX0_combined 53 = .ok (.iconst 1, 1) := by decide +kernel
theorem dX0_combined_54 : decode cX0_combined 54 = .ok (.goto 4, 3) := by decide +kernel
theorem dX0_combined_57 : decode cX0_combined 57 = .ok (.iconst 0, 1) := by decide +kernel
theorem dX0_combined_58 : decode cX0_combined 58 = .ok (.ireturn, 1) := by decide +kernel
theorem dX0_combined_59 : decode cX0_combined 59 = .ok (.iload_n 1, 1) := by decide +kernel
theorem dX0_combined_60 : decode cX0_combined 60 = .ok (.iload_n 2, 1) := by decide +kernel
theorem dX0_combined_61 : decode cX0_combined 61 = .ok (.if_icmp .ge 7, 3) := by decide +kernel
theorem dX0_combined_64 : decode cX0_combined 64 = .ok (.iconst 1, 1) := by decide +kernel
theorem dX0_combined_65 : decode cX0_combined 65 = .ok (.goto 4, 3) := by decide +kernel
theorem dX0_combined_68 : decode cX0_combined 68 = .ok (.iconst 0, 1) := by decide +kernel
theorem dX0_combined_69 : decode cX0_combined 69 = .ok (.ireturn, 1) := by decide +kernel
theorem dX0_combined_70 : decode cX0_combined 70 = .ok (.iload_n 1, 1) := by decide +kernel
theorem dX0_combined_71 : decode cX0_combined 71 = .ok (.iload_n 2, 1) := by decide +kernel
theorem dX0_combined_72 : decode cX0_combined 72 = .ok (.if_icmp .le 7, 3) := by decide +kernel
theorem dX0_combined_75 : decode cX0_combined 75 = .ok (.iconst 1, 1) := by decide +kernel
theorem dX0_combined_76 : decode cX0_combined 76 = .ok (.goto 4, 3) := by decide +kernel
theorem dX0_combined_79 : decode cX0_combined 79 = .ok (.iconst 0, 1) := by decide +kernel
theorem dX0_combined_80 : decode cX0_combined 80 = .ok (.ireturn, 1) := by decide +kernel
theorem dX0_combined_81 : decode cX0_combined 81 = .ok (.iload_n 1, 1) := by decide +kernel
theorem dX0_combined_82 : decode cX0_combined 82 = .ok (.iload_n 2, 1) := by decide +kernel
theorem dX0_combined_83 : decode cX0_combined 83 = .ok (.iand, 1) := by decide +kernel
theorem dX0_combined_84 : decode cX0_combined 84 = .ok (.ireturn, 1) := by decide +kernel
theorem dX0_combined_85 : decode cX0_combined 85 = .ok (.iload_n 1, 1) := by decide +kernel
theorem dX0_combined_86 : decode cX0_combined 86 = .ok (.iload_n 2, 1) := by decide +kernel
theorem dX0_combined_87 : decode cX0_combined 87 = .ok (.ior, 1) := by decide +kernel
theorem dX0_combined_88 : decode cX0_combined 88 = .ok (.ireturn, 1) := by decide +kernel
theorem dX1_init_0 : decode cX1_init 0 = .ok (.aload_n 0, 1) := by decide +kernel
theorem dX1_init_1 : decode cX1_init 1 = .ok (.invokespecial 3, 3) := by decide +kernel
theorem dX1_init_4 : decode cX1_init 4 = .ok (.aload_n 0, 1) := by decide +kernel
theorem dX1_init_5 : decode cX1_init 5 = .ok (.iconst 0, 1) := by decide +kernel
theorem dX1_init_6 : decode cX1_init 6 = .ok (.putfield 9, 3) := by decide +kernel
theorem dX1_init_9 : decode cX1_init 9 = .ok (.aload_n 0, 1) := by decide +kernel
theorem dX1_init_10 : decode cX1_init 10 = .ok (.bipush 60, 2) := by decide +kernel
theorem dX1_init_12 : decode cX1_init 12 = .ok (.newarray .int, 2) := by decide +kernel
theorem dX1_init_14 : decode cX1_init 14 = .ok (.putfield 15, 3) := by decide +kernel
theorem dX1_init_17 : decode cX1_init 17 = .ok (.aload_n 0, 1) := by decide +kernel
theorem dX1_init_18 : decode cX1_init 18 = .ok (.aload_n 1, 1) := by decide +kernel
theorem dX1_init_19 : decode cX1_init 19 = .ok (.putfield 19, 3) := by decide +kernel
theorem dX1_init_22 : decode cX1_init 22 = .ok (.aload_n 0, 1) := by decide +kernel
theorem dX1_init_23 : decode cX1_init 23 = .ok (.aload_n 2, 1) := by decide +kernel
theorem dX1_init_24 : decode cX1_init 24 = .ok (.putfield 23, 3) := by decide +kernel
theorem dX1_init_27 : decode cX1_init 27 = .ok (.return_, 1) := by decide +kernel
theorem dX1_begin_0 : decode cX1_begin 0 = .ok (.aload_n 0, 1) := by decide +kernel
theorem dX1_begin_1 : decode cX1_begin 1 = .ok (.getfield 19, 3) := by decide +kernel
theorem dX1_begin_4 : decode cX1_begin 4 = .ok (.iconst 0, 1) := by decide +kernel
theorem dX1_begin_5 : decode cX1_begin 5 = .ok (.putfield 27, 3) := by decide +kernel
theorem dX1_begin_8 : decode cX1_begin 8 = .ok (.aload_n 0, 1) := by decide +kernel
theorem dX1_begin_9 : decode cX1_begin 9 = .ok (.iconst 0, 1) := by decide +kernel
theorem dX1_begin_10 : decode cX1_begin 10 = .ok (.putfield 9, 3) := by decide +kernel
theorem dX1_begin_13 : decode cX1_begin 13 = .ok (.return_, 1) := by decide +kernel
theorem dX1_handTo_0 : decode cX1_handTo 0 = .ok (.aload_n 1, 1) := by decide +kernel
theorem dX1_handTo_1 : decode cX1_handTo 1 = .ok (.iconst 1, 1) := by decide +kernel
theorem dX1_handTo_2 : decode cX1_handTo 2 = .ok (.putfield 32, 3) := by decide +kernel
theorem dX1_handTo_5 : decode cX1_handTo 5 = .ok (.aload_n 1, 1) := by decide +kernel
theorem dX1_handTo_6 : decode cX1_handTo 6 = .ok (.aload_n 0, 1) := by decide +kernel
theorem dX1_handTo_7 : decode cX1_handTo 7 = .ok (.getfield 9, 3) := by decide +kernel
theorem dX1_handTo_10 : decode cX1_handTo 10 = .ok (.putfield 38, 3) := by decide +kernel
theorem dX1_handTo_13 : decode cX1_handTo 13 = .ok (.aload_n 0, 1) := by decide +kernel
theorem dX1_handTo_14 : decode cX1_handTo 14 = .ok (.getfield 15, 3) := by decide +kernel
theorem dX1_handTo_17 : decode cX1_handTo 17 = .ok (.iconst 0, 1) := by decide +kernel
theorem dX1_handTo_18 : decode cX1_handTo 18 = .ok (.aload_n 1, 1) := by decide +kernel
theorem dX1_handTo_19 : decode cX1_handTo 19 = .ok (.getfield 39, 3) := by decide +kernel
theorem dX1_handTo_22 : decode cX1_handTo 22 = .ok (.iconst 0, 1) := by decide +kernel
theorem dX1_handTo_23 : decode cX1_handTo 23 = .ok (.bipush 60, 2) := by decide +kernel
theorem dX1_handTo_25 : decode cX1_handTo 25 = .ok (.invokestatic 40, 3) := by decide +kernel
theorem dX1_handTo_28 : decode cX1_handTo 28 = .ok (.return_, 1) := by decide +kernel
theorem dX1_add_0 : decode cX1_add 0 = .ok (.aload_n 0, 1) := by decide +kernel
theorem dX1_add_1 : decode cX1_add 1 = .ok (.getfield 9, 3) := by decide +kernel
theorem dX1_add_4 : decode cX1_add 4 = .ok (.bipush 60, 2) := by decide +kernel
theorem dX1_add_6 : decode cX1_add 6 = .ok (.if_icmp .ge 23, 3) := by decide +kernel
theorem dX1_add_9 : decode cX1_add 9 = .ok (.aload_n 0, 1) := by decide +kernel
theorem dX1_add_10 : decode cX1_add 10 = .ok (.getfield 15, 3) := by decide +kernel
theorem dX1_add_13 : decode cX1_add 13 = .ok (.aload_n 0, 1) := by decide +kernel
theorem dX1_add_14 : decode cX1_add 14 = .ok (.getfield 9, 3) := by decide +kernel
theorem dX1_add_17 : decode cX1_add 17 = .ok (.iload_n 1, 1) := by decide +kernel
theorem dX1_add_18 : decode cX1_add 18 = .ok (.iastore, 1) := by decide +kernel
theorem dX1_add_19 : decode cX1_add 19 = .ok (.aload_n 0, 1) := by decide +kernel
theorem dX1_add_20 : decode cX1_add 20 = .ok (.dup, 1) := by decide +kernel
theorem dX1_add_21 : decode cX1_add 21 = .ok (.getfield 9, 3) := by decide +kernel
theorem dX1_add_24 : decode cX1_add 24 = .ok (.iconst 1, 1) := by decide +kernel
theorem dX1_add_25 : decode cX1_add 25 = .ok (.iadd, 1) := by decide +kernel
theorem dX1_add_26 : decode cX1_add 26 = .ok (.putfield 9, 3) := by decide +kernel
theorem dX1_add_29 : decode cX1_add 29 = .ok (.return_, 1) := by decide +kernel
theorem dX1_readCondition_0 : decode cX1_readCondition 0 = .ok (.aload_n 0, 1) := by decide +kernel
theorem dX1_readCondition_1 : decode cX1_readCondition 1 = .ok (.iload_n 1, 1) := by decide +kernel
theorem dX1_readCondition_2 : decode cX1_readCondition 2 = .ok (.invokevirtual 46, 3) := by decide +kernel
theorem dX1_readCondition_5 : decode cX1_readCondition 5 = .ok (.ifCond .ne 5, 3) := by decide +kernel
theorem dX1_readCondition_8 : decode cX1_readCondition 8 = .ok (.iconst 0, 1) := by decide +kernel
theorem dX1_readCondition_9 : decode cX1_readCondition 9 = .ok (.ireturn, 1) := by decide +kernel
theorem dX1_readCondition_10 : decode cX1_readCondition 10 = .ok (.iconst 0, 1) := by decide +kernel
theorem dX1_readCondition_11 : decode cX1_readCondition 11 = .ok (.istore_n 2, 1) := by decide +kernel
theorem dX1_readCondition_12 : decode cX1_readCondition 12 = .ok (.iload_n 2, 1) := by decide +kernel
theorem dX1_readCondition_13 : decode cX1_readCondition 13 = .ok (.bipush 60, 2) := by decide +kernel
theorem dX1_readCondition_15 : decode cX1_readCondition 15 = .ok (.if_icmp .ge 37, 3) := by decide +kernel
theorem dX1_readCondition_18 : decode cX1_readCondition 18 = .ok (.aload_n 0, 1) := by decide +kernel
theorem dX1_readCondition_19 : decode cX1_readCondition 19 = .ok (.getfield 19, 3) := by decide +kernel
theorem dX1_readCondition_22 : decode cX1_readCondition 22 = .ok (.bipush 124, 2) := by decide +kernel
theorem dX1_readCondition_24 : decode cX1_readCondition 24 = .ok (.invokevirtual 50, 3) := by decide +kernel
theorem dX1_readCondition_27 : decode cX1_readCondition 27 = .ok (.ifCond .eq 25, 3) := by decide +kernel
theorem dX1_readCondition_30 : decode cX1_readCondition 30 = .ok (.aload_n 0, 1) := by decide +kernel
theorem dX1_readCondition_31 : decode cX1_readCondition 31 = .ok (.iload_n 1, 1) := by decide +kernel
theorem dX1_readCondition_32 : decode cX1_readCondition 32 = .ok (.invokevirtual 46, 3) := by decide +kernel
theorem dX1_readCondition_35 : decode cX1_readCondition 35 = .ok (.ifCond .ne 5, 3) := by decide +kernel
theorem dX1_readCondition_38 : decode cX1_readCondition 38 = .ok (.iconst 0, 1) := by decide +kernel
theorem dX1_readCondition_39 : decode cX1_readCondition 39 = .ok (.ireturn, 1) := by decide +kernel
theorem dX1_readCondition_40 : decode cX1_readCondition 40 = .ok (.aload_n 0, 1) := by decide +kernel
theorem dX1_readCondition_41 : decode cX1_readCondition 41 = .ok (.bipush 10, 2) := by decide +kernel
theorem dX1_readCondition_43 : decode cX1_readCondition 43 = .ok (.invokevirtual 53, 3) := by decide +kernel
theorem dX1_readCondition_46 : decode cX1_readCondition 46 = .ok (.iinc 2 1, 3) := by decide +kernel
theorem dX1_readCondition_49 : decode cX1_readCondition 49 = .ok (.goto (-37), 3) := by decide +kernel
theorem dX1_readCondition_52 : decode cX1_readCondition 52 = .ok (.iconst 1, 1) := by decide +kernel
theorem dX1_readCondition_53 : decode cX1_readCondition 53 = .ok (.ireturn, 1) := by decide +kernel
theorem dX1_readAll_0 : decode cX1_readAll 0 = .ok (.aload_n 0, 1) := by decide +kernel
theorem dX1_readAll_1 : decode cX1_readAll 1 = .ok (.iload_n 1, 1) := by decide +kernel
theorem dX1_readAll_2 : decode cX1_readAll 2 = .ok (.invokevirtual 57, 3) := by decide +kernel
theorem dX1_readAll_5 : decode cX1_readAll 5 = .ok (.ifCond .ne 5, 3) := by decide +kernel
theorem dX1_readAll_8 : decode cX1_readAll 8 = .ok (.iconst 0, 1) := by decide +kernel
theorem dX1_readAll_9 : decode cX1_readAll 9 = .ok (.ireturn, 1) := by decide +kernel
theorem dX1_readAll_10 : decode cX1_readAll 10 = .ok (.iconst 0, 1) := by decide +kernel
theorem dX1_readAll_11 : decode cX1_readAll 11 = .ok (.istore_n 2, 1) := by decide +kernel
theorem dX1_readAll_12 : decode cX1_readAll 12 = .ok (.iload_n 2, 1) := by decide +kernel
theorem dX1_readAll_13 : decode cX1_readAll 13 = .ok (.bipush 60, 2) := by decide +kernel
theorem dX1_readAll_15 : decode cX1_readAll 15 = .ok (.if_icmp .ge 37, 3) := by decide +kernel
theorem dX1_readAll_18 : decode cX1_readAll 18 = .ok (.aload_n 0, 1) := by decide +kernel
theorem dX1_readAll_19 : decode cX1_readAll 19 = .ok (.getfield 19, 3) := by decide +kernel
theorem dX1_readAll_22 : decode cX1_readAll 22 = .ok (.bipush 38, 2) := by decide +kernel
theorem dX1_readAll_24 : decode cX1_readAll 24 = .ok (.invokevirtual 50, 3) := by decide +kernel
theorem dX1_readAll_27 : decode cX1_readAll 27 = .ok (.ifCond .eq 25, 3) := by decide +kernel
theorem dX1_readAll_30 : decode cX1_readAll 30 = .ok (.aload_n 0, 1) := by decide +kernel
theorem dX1_readAll_31 : decode cX1_readAll 31 = .ok (.iload_n 1, 1) := by decide +kernel
theorem dX1_readAll_32 : decode cX1_readAll 32 = .ok (.invokevirtual 57, 3) := by decide +kernel
theorem dX1_readAll_35 : decode cX1_readAll 35 = .ok (.ifCond .ne 5, 3) := by decide +kernel
theorem dX1_readAll_38 : decode cX1_readAll 38 = .ok (.iconst 0, 1) := by decide +kernel
theorem dX1_readAll_39 : decode cX1_readAll 39 = .ok (.ireturn, 1) := by decide +kernel
theorem dX1_readAll_40 : decode cX1_readAll 40 = .ok (.aload_n 0, 1) := by decide +kernel
theorem dX1_readAll_41 : decode cX1_readAll 41 = .ok (.bipush 9, 2) := by decide +kernel
theorem dX1_readAll_43 : decode cX1_readAll 43 = .ok (.invokevirtual 53, 3) := by decide +kernel
theorem dX1_readAll_46 : decode cX1_readAll 46 = .ok (.iinc 2 1, 3) := by decide +kernel
theorem dX1_readAll_49 : decode cX1_readAll 49 = .ok (.goto (-37), 3) := by decide +kernel
theorem dX1_readAll_52 : decode cX1_readAll 52 = .ok (.iconst 1, 1) := by decide +kernel
theorem dX1_readAll_53 : decode cX1_readAll 53 = .ok (.ireturn, 1) := by decide +kernel
theorem dX1_readTest_0 : decode cX1_readTest 0 = .ok (.aload_n 0, 1) := by decide +kernel
theorem dX1_readTest_1 : decode cX1_readTest 1 = .ok (.getfield 19, 3) := by decide +kernel
theorem dX1_readTest_4 : decode cX1_readTest 4 = .ok (.invokevirtual 60, 3) := by decide +kernel
theorem dX1_readTest_7 : decode cX1_readTest 7 = .ok (.istore_n 2, 1) := by decide +kernel
theorem dX1_readTest_8 : decode cX1_readTest 8 = .ok (.iload_n 2, 1) := by decide +kernel
theorem dX1_readTest_9 : decode cX1_readTest 9 = .ok (.bipush 33, 2) := by decide +kernel
theorem dX1_readTest_11 : decode cX1_readTest 11 = .ok (.if_icmp .eq 14, 3) := by decide +kernel
theorem dX1_readTest_14 : decode cX1_readTest 14 = .ok (.iload_n 2, 1) := by decide +kernel
theorem dX1_readTest_15 : decode cX1_readTest 15 = .ok (.bipush 40, 2) := by decide +kernel
theorem dX1_readTest_17 : decode cX1_readTest 17 = .ok (.if_icmp .eq 8, 3) := by decide +kernel
theorem dX1_readTest_20 : decode cX1_readTest 20 = .ok (.aload_n 0, 1) := by decide +kernel
theorem dX1_readTest_21 : decode cX1_readTest 21 = .ok (.invokevirtual 64, 3) := by decide +kernel
theorem dX1_readTest_24 : decode cX1_readTest 24 = .ok (.ireturn, 1) := by decide +kernel
theorem dX1_readTest_25 : decode cX1_readTest 25 = .ok (.iload_n 1, 1) := by decide +kernel
theorem dX1_readTest_26 : decode cX1_readTest 26 = .ok (.iconst 5, 1) := by decide +kernel
theorem dX1_readTest_27 : decode cX1_readTest 27 = .ok (.if_icmp .lt 5, 3) := by decide +kernel
theorem dX1_readTest_30 : decode cX1_readTest 30 = .ok (.iconst 0, 1) := by decide +kernel
theorem dX1_readTest_31 : decode cX1_readTest 31 = .ok (.ireturn, 1) := by decide +kernel
theorem dX1_readTest_32 : decode cX1_readTest 32 = .ok (.aload_n 0, 1) := by decide +kernel
theorem dX1_readTest_33 : decode cX1_readTest 33 = .ok (.getfield 19, 3) := by decide +kernel
theorem dX1_readTest_36 : decode cX1_readTest 36 = .ok (.iload_n 2, 1) := by decide +kernel
theorem dX1_readTest_37 : decode cX1_readTest 37 = .ok (.invokevirtual 50, 3) := by decide +kernel
theorem dX1_readTest_40 : decode cX1_readTest 40 = .ok (.pop, 1) := by decide +kernel
theorem dX1_readTest_41 : decode cX1_readTest 41 = .ok (.iload_n 2, 1) := by decide +kernel
theorem dX1_readTest_42 : decode cX1_readTest 42 = .ok (.bipush 40, 2) := by decide +kernel
theorem dX1_readTest_44 : decode cX1_readTest 44 = .ok (.if_icmp .ne 31, 3) := by decide +kernel
theorem dX1_readTest_47 : decode cX1_readTest 47 = .ok (.aload_n 0, 1) := by decide +kernel
theorem dX1_readTest_48 : decode cX1_readTest 48 = .ok (.iload_n 1, 1) := by decide +kernel
theorem dX1_readTest_49 : decode cX1_readTest 49 = .ok (.iconst 1, 1) := by decide +kernel
theorem dX1_readTest_50 : decode cX1_readTest 50 = .ok (.iadd, 1) := by decide +kernel
theorem dX1_readTest_51 : decode cX1_readTest 51 = .ok (.invokevirtual 68, 3) := by decide +kernel
theorem dX1_readTest_54 : decode cX1_readTest 54 = .ok (.ifCond .eq 19, 3) := by decide +kernel
theorem dX1_readTest_57 : decode cX1_readTest 57 = .ok (.aload_n 0, 1) := by decide +kernel
theorem dX1_readTest_58 : decode cX1_readTest 58 = .ok (.getfield 19, 3) := by decide +kernel
theorem dX1_readTest_61 : decode cX1_readTest 61 = .ok (.bipush 41, 2) := by decide +kernel
theorem dX1_readTest_63 : decode cX1_readTest 63 = .ok (.invokevirtual 50, 3) := by decide +kernel
theorem dX1_readTest_66 : decode cX1_readTest 66 = .ok (.ifCond .eq 7, 3) := by decide +kernel
theorem dX1_readTest_69 : decode cX1_readTest 69 = .ok (.iconst 1, 1) := by decide +kernel
theorem dX1_readTest_70 : decode cX1_readTest 70 = .ok (.goto 4, 3) := by decide +kernel
theorem dX1_readTest_73 : decode cX1_readTest 73 = .ok (.iconst 0, 1) := by decide +kernel
theorem dX1_readTest_74 : decode cX1_readTest 74 = .ok (.ireturn, 1) := by decide +kernel
theorem dX1_readTest_75 : decode cX1_readTest 75 = .ok (.aload_n 0, 1) := by decide +kernel
theorem dX1_readTest_76 : decode cX1_readTest 76 = .ok (.iload_n 1, 1) := by decide +kernel
theorem dX1_readTest_77 : decode cX1_readTest 77 = .ok (.iconst 1, 1) := by decide +kernel
theorem dX1_readTest_78 : decode cX1_readTest 78 = .ok (.iadd, 1) := by decide +kernel
theorem dX1_readTest_79 : decode cX1_readTest 79 = .ok (.invokevirtual 57, 3) := by decide +kernel
theorem dX1_readTest_82 : decode cX1_readTest 82 = .ok (.ifCond .ne 5, 3) := by decide +kernel
theorem dX1_readTest_85 : decode cX1_readTest 85 = .ok (.iconst 0, 1) := by decide +kernel
theorem dX1_readTest_86 : decode cX1_readTest 86 = .ok (.ireturn, 1) := by decide +kernel
theorem dX1_readTest_87 : decode cX1_readTest 87 = .ok (.aload_n 0, 1) := by decide +kernel
theorem dX1_readTest_88 : decode cX1_readTest 88 = .ok (.bipush 11, 2) := by decide +kernel
theorem dX1_readTest_90 : decode cX1_readTest 90 = .ok (.invokevirtual 53, 3) := by decide +kernel
theorem dX1_readTest_93 : decode cX1_readTest 93 = .ok (.iconst 1, 1) := by decide +kernel
theorem dX1_readTest_94 : decode cX1_readTest 94 = .ok (.ireturn, 1) := by decide +kernel
theorem dX1_readComparison_0 : decode cX1_readComparison 0 = .ok (.aload_n 0, 1) := by decide +kernel
theorem dX1_readComparison_1 : decode cX1_readComparison 1 = .ok (.invokevirtual 71, 3) := by decide +kernel
theorem dX1_readComparison_4 : decode cX1_readComparison 4 = .ok (.ifCond .ne 5, 3) := by decide +kernel
theorem dX1_readComparison_7 : decode cX1_readComparison 7 = .ok (.iconst 0, 1) := by decide +kernel
theorem dX1_readComparison_8 : decode cX1_readComparison 8 = .ok (.ireturn, 1) := by decide +kernel
theorem dX1_readComparison_9 : decode cX1_readComparison 9 = .ok (.aload_n 0, 1) := by decide +kernel
theorem dX1_readComparison_10 : decode cX1_readComparison 10 = .ok (.getfield 19, 3) := by decide +kernel
theorem dX1_readComparison_13 : decode cX1_readComparison 13 = .ok (.bipush 61, 2) := by decide +kernel
theorem dX1_readComparison_15 : decode cX1_readComparison 15 = .ok (.invokevirtual 50, 3) := by decide +kernel
theorem dX1_readComparison_18 : decode cX1_readComparison 18 = .ok (.ifCond .eq 8, 3) := by decide +kernel
theorem dX1_readComparison_21 : decode cX1_readComparison 21 = .ok (.bipush 6, 2) := by decide +kernel
theorem dX1_readComparison_23 : decode cX1_readComparison 23 = .ok (.goto 38, 3) := by decide +kernel
theorem dX1_readComparison_26 : decode cX1_readComparison 26 = .ok (.aload_n 0, 1) := by decide +kernel
theorem dX1_readComparison_27 : decode cX1_readComparison 27 = .ok (.getfield 19, 3) := by decide +kernel
theorem dX1_readComparison_30 : decode cX1_readComparison 30 = .ok (.bipush 60, 2) := by decide +kernel
theorem dX1_readComparison_32 : decode cX1_readComparison 32 = .ok (.invokevirtual 50, 3) := by decide +kernel
theorem dX1_readComparison_35 : decode cX1_readComparison 35 = .ok (.ifCond .eq 8, 3) := by decide +kernel
theorem dX1_readComparison_38 : decode cX1_readComparison 38 = .ok (.bipush 7, 2) := by decide +kernel
theorem dX1_readComparison_40 : decode cX1_readComparison 40 = .ok (.goto 21, 3) := by decide +kernel
theorem dX1_readComparison_43 : decode cX1_readComparison 43 = .ok (.aload_n 0, 1) := by decide +kernel
theorem dX1_readComparison_44 : decode cX1_readComparison 44 = .ok (.getfield 19, 3) := by decide +kernel
theorem dX1_readComparison_47 : decode cX1_readComparison 47 = .ok (.bipush 62, 2) := by decide +kernel
theorem dX1_readComparison_49 : decode cX1_readComparison 49 = .ok (.invokevirtual 50, 3) := by decide +kernel
theorem dX1_readComparison_52 : decode cX1_readComparison 52 = .ok (.ifCond .eq 8, 3) := by decide +kernel
theorem dX1_readComparison_55 : decode cX1_readComparison 55 = .ok (.bipush 8, 2) := by decide +kernel
theorem dX1_readComparison_57 : decode cX1_readComparison 57 = .ok (.goto 4, 3) := by decide +kernel
theorem dX1_readComparison_60 : decode cX1_readComparison 60 = .ok (.iconst (-1), 1) := by decide +kernel
theorem dX1_readComparison_61 : decode cX1_readComparison 61 = .ok (.istore_n 1, 1) := by decide +kernel
theorem dX1_readComparison_62 : decode cX1_readComparison 62 = .ok (.iload_n 1, 1) := by decide +kernel
theorem dX1_readComparison_63 : decode cX1_readComparison 63 = .ok (.ifCond .lt 10, 3) := by decide +kernel
theorem dX1_readComparison_66 : decode cX1_readComparison 66 = .ok (.aload_n 0, 1) := by decide +kernel
theorem dX1_readComparison_67 : decode cX1_readComparison 67 = .ok (.invokevirtual 71, 3) := by decide +kernel
theorem dX1_readComparison_70 : decode cX1_readComparison 70 = .ok (.ifCond .ne 5, 3) := by decide +kernel
theorem dX1_readComparison_73 : decode cX1_readComparison 73 = .ok (.iconst 0, 1) := by decide +kernel
theorem dX1_readComparison_74 : decode cX1_readComparison 74 = .ok (.ireturn, 1) := by decide +kernel
theorem dX1_readComparison_75 : decode cX1_readComparison 75 = .ok (.aload_n 0, 1) := by decide +kernel
theorem dX1_readComparison_76 : decode cX1_readComparison 76 = .ok (.iload_n 1, 1) := by decide +kernel
theorem dX1_readComparison_77 : decode cX1_readComparison 77 = .ok (.invokevirtual 53, 3) := by decide +kernel
theorem dX1_readComparison_80 : decode cX1_readComparison 80 = .ok (.iconst 1, 1) := by decide +kernel
theorem dX1_readComparison_81 : decode cX1_readComparison 81 = .ok (.ireturn, 1) := by decide +kernel
theorem dX1_readSum_0 : decode cX1_readSum 0 = .ok (.aload_n 0, 1) := by decide +kernel
theorem dX1_readSum_1 : decode cX1_readSum 1 = .ok (.invokevirtual 74, 3) := by decide +kernel
theorem dX1_readSum_4 : decode cX1_readSum 4 = .ok (.ifCond .ne 5, 3) := by decide +kernel
theorem dX1_readSum_7 : decode cX1_readSum 7 = .ok (.iconst 0, 1) := by decide +kernel
theorem dX1_readSum_8 : decode cX1_readSum 8 = .ok (.ireturn, 1) := by decide +kernel
theorem dX1_readSum_9 : decode cX1_readSum 9 = .ok (.iconst 0, 1) := by decide +kernel
theorem dX1_readSum_10 : decode cX1_readSum 10 = .ok (.istore_n 1, 1) := by decide +kernel
theorem dX1_readSum_11 : decode cX1_readSum 11 = .ok (.iload_n 1, 1) := by decide +kernel
theorem dX1_readSum_12 : decode cX1_readSum 12 = .ok (.bipush 60, 2) := by decide +kernel
theorem dX1_readSum_14 : decode cX1_readSum 14 = .ok (.if_icmp .ge 63, 3) := by decide +kernel
theorem dX1_readSum_17 : decode cX1_readSum 17 = .ok (.aload_n 0, 1) := by decide +kernel
theorem dX1_readSum_18 : decode cX1_readSum 18 = .ok (.getfield 19, 3) := by decide +kernel
theorem dX1_readSum_21 : decode cX1_readSum 21 = .ok (.bipush 43, 2) := by decide +kernel
theorem dX1_readSum_23 : decode cX1_readSum 23 = .ok (.invokevirtual 50, 3) := by decide +kernel
theorem dX1_readSum_26 : decode cX1_readSum 26 = .ok (.ifCond .eq 7, 3) := by decide +kernel
theorem dX1_readSum_29 : decode cX1_readSum 29 = .ok (.iconst 4, 1) := by decide +kernel
theorem dX1_readSum_30 : decode cX1_readSum 30 = .ok (.goto 20, 3) := by decide +kernel
theorem dX1_readSum_33 : decode cX1_readSum 33 = .ok (.aload_n 0, 1) := by decide +kernel
theorem dX1_readSum_34 : decode cX1_readSum 34 = .ok (.getfield 19, 3) := by decide +kernel
theorem dX1_readSum_37 : decode cX1_readSum 37 = .ok (.bipush 45, 2) := by decide +kernel
theorem dX1_readSum_39 : decode cX1_readSum 39 = .ok (.invokevirtual 50, 3) := by decide +kernel
theorem dX1_readSum_42 : decode cX1_readSum 42 = .ok (.ifCond .eq 7, 3) := by decide +kernel
theorem dX1_readSum_45 : decode cX1_readSum 45 = .ok (.iconst 5, 1) := by decide +kernel
theorem dX1_readSum_46 : decode cX1_readSum 46 = .ok (.goto 4, 3) := by decide +kernel
theorem dX1_readSum_49 : decode cX1_readSum 49 = .ok (.iconst (-1), 1) := by decide +kernel
theorem dX1_readSum_50 : decode cX1_readSum 50 = .ok (.istore_n 2, 1) := by decide +kernel
theorem dX1_readSum_51 : decode cX1_readSum 51 = .ok (.iload_n 2, 1) := by decide +kernel
theorem dX1_readSum_52 : decode cX1_readSum 52 = .ok (.ifCond .ge 5, 3) := by decide +kernel
theorem dX1_readSum_55 : decode cX1_readSum 55 = .ok (.iconst 1, 1) := by decide +kernel
theorem dX1_readSum_56 : decode cX1_readSum 56 = .ok (.ireturn, 1) := by decide +kernel
theorem dX1_readSum_57 : decode cX1_readSum 57 = .ok (.aload_n 0, 1) := by decide +kernel
theorem dX1_readSum_58 : decode cX1_readSum 58 = .ok (.invokevirtual 74, 3) := by decide +kernel
theorem dX1_readSum_61 : decode cX1_readSum 61 = .ok (.ifCond .ne 5, 3) := by decide +kernel
theorem dX1_readSum_64 : decode cX1_readSum 64 = .ok (.iconst 0, 1) := by decide +kernel
theorem dX1_readSum_65 : decode cX1_readSum 65 = .ok (.ireturn, 1) := by decide +kernel
theorem dX1_readSum_66 : decode cX1_readSum 66 = .ok (.aload_n 0, 1) := by decide +kernel
theorem dX1_readSum_67 : decode cX1_readSum 67 = .ok (.iload_n 2, 1) := by decide +kernel
theorem dX1_readSum_68 : decode cX1_readSum 68 = .ok (.invokevirtual 53, 3) := by decide +kernel
theorem dX1_readSum_71 : decode cX1_readSum 71 = .ok (.iinc 1 1, 3) := by decide +kernel
theorem dX1_readSum_74 : decode cX1_readSum 74 = .ok (.goto (-63), 3) := by decide +kernel
theorem dX1_readSum_77 : decode cX1_readSum 77 = .ok (.iconst 1, 1) := by decide +kernel
theorem dX1_readSum_78 : decode cX1_readSum 78 = .ok (.ireturn, 1) := by decide +kernel
theorem dX1_readUnit_0 : decode cX1_readUnit 0 = .ok (.aload_n 0, 1) := by decide +kernel
theorem dX1_readUnit_1 : decode cX1_readUnit 1 = .ok (.getfield 19, 3) := by decide +kernel
theorem dX1_readUnit_4 : decode cX1_readUnit 4 = .ok (.bipush 120, 2) := by decide +kernel
theorem dX1_readUnit_6 : decode cX1_readUnit 6 = .ok (.invokevirtual 50, 3) := by decide +kernel
theorem dX1_readUnit_9 : decode cX1_readUnit 9 = .ok (.ifCond .eq 7, 3) := by decide +kernel
theorem dX1_readUnit_12 : decode cX1_readUnit 12 = .ok (.iconst 1, 1) := by decide +kernel
theorem dX1_readUnit_13 : decode cX1_readUnit 13 = .ok (.goto 36, 3) := by decide +kernel
theorem dX1_readUnit_16 : decode cX1_readUnit 16 = .ok (.aload_n 0, 1) := by decide +kernel
theorem dX1_readUnit_17 : decode cX1_readUnit 17 = .ok (.getfield 19, 3) := by decide +kernel
theorem dX1_readUnit_20 : decode cX1_readUnit 20 = .ok (.bipush 99, 2) := by decide +kernel
theorem dX1_readUnit_22 : decode cX1_readUnit 22 = .ok (.invokevirtual 50, 3) := by decide +kernel
theorem dX1_readUnit_25 : decode cX1_readUnit 25 = .ok (.ifCond .eq 7, 3) := by decide +kernel
theorem dX1_readUnit_28 : decode cX1_readUnit 28 = .ok (.iconst 2, 1) := by decide +kernel
theorem dX1_readUnit_29 : decode cX1_readUnit 29 = .ok (.goto 20, 3) := by decide +kernel
theorem dX1_readUnit_32 : decode cX1_readUnit 32 = .ok (.aload_n 0, 1) := by decide +kernel
theorem dX1_readUnit_33 : decode cX1_readUnit 33 = .ok (.getfield 19, 3) := by decide +kernel
theorem dX1_readUnit_36 : decode cX1_readUnit 36 = .ok (.bipush 109, 2) := by decide +kernel
theorem dX1_readUnit_38 : decode cX1_readUnit 38 = .ok (.invokevirtual 50, 3) := by decide +kernel
theorem dX1_readUnit_41 : decode cX1_readUnit 41 = .ok (.ifCond .eq 7, 3) := by decide +kernel
theorem dX1_readUnit_44 : decode cX1_readUnit 44 = .ok (.iconst 3, 1) := by decide +kernel
theorem dX1_readUnit_45 : decode cX1_readUnit 45 = .ok (.goto 4, 3) := by decide +kernel
theorem dX1_readUnit_48 : decode cX1_readUnit 48 = .ok (.iconst 0, 1) := by decide +kernel
theorem dX1_readUnit_49 : decode cX1_readUnit 49 = .ok (.istore_n 1, 1) := by decide +kernel
theorem dX1_readUnit_50 : decode cX1_readUnit 50 = .ok (.iconst 0, 1) := by decide +kernel
theorem dX1_readUnit_51 : decode cX1_readUnit 51 = .ok (.istore_n 2, 1) := by decide +kernel
theorem dX1_readUnit_52 : decode cX1_readUnit 52 = .ok (.iload_n 1, 1) := by decide +kernel
theorem dX1_readUnit_53 : decode cX1_readUnit 53 = .ok (.iconst 1, 1) := by decide +kernel
theorem dX1_readUnit_54 : decode cX1_readUnit 54 = .ok (.if_icmp .eq 8, 3) := by decide +kernel
theorem dX1_readUnit_57 : decode cX1_readUnit 57 = .ok (.iload_n 1, 1) := by decide +kernel
theorem dX1_readUnit_58 : decode cX1_readUnit 58 = .ok (.iconst 2, 1) := by decide +kernel
theorem dX1_readUnit_59 : decode cX1_readUnit 59 = .ok (.if_icmp .ne 21, 3) := by decide +kernel
theorem dX1_readUnit_62 : decode cX1_readUnit 62 = .ok (.aload_n 0, 1) := by decide +kernel
theorem dX1_readUnit_63 : decode cX1_readUnit 63 = .ok (.getfield 19, 3) := by decide +kernel
theorem dX1_readUnit_66 : decode cX1_readUnit 66 = .ok (.aload_n 0, 1) := by decide +kernel
theorem dX1_readUnit_67 : decode cX1_readUnit 67 = .ok (.getfield 23, 3) := by decide +kernel
theorem dX1_readUnit_70 : decode cX1_readUnit 70 = .ok (.getfield 77, 3) := by decide +kernel
theorem dX1_readUnit_73 : decode cX1_readUnit 73 = .ok (.invokevirtual 82, 3) := by decide +kernel
theorem dX1_readUnit_76 : decode cX1_readUnit 76 = .ok (.istore_n 2, 1) := by decide +kernel
theorem dX1_readUnit_77 : decode cX1_readUnit 77 = .ok (.goto 15, 3) := by decide +kernel
theorem dX1_readUnit_80 : decode cX1_readUnit 80 = .ok (.iload_n 1, 1) := by decide +kernel
theorem dX1_readUnit_81 : decode cX1_readUnit 81 = .ok (.ifCond .ne 11, 3) := by decide +kernel
theorem dX1_readUnit_84 : decode cX1_readUnit 84 = .ok (.aload_n 0, 1) := by decide +kernel
theorem dX1_readUnit_85 : decode cX1_readUnit 85 = .ok (.getfield 19, 3) := by decide +kernel
theorem dX1_readUnit_88 : decode cX1_readUnit 88 = .ok (.invokevirtual 86, 3) := by decide +kernel
theorem dX1_readUnit_91 : decode cX1_readUnit 91 = .ok (.istore_n 2, 1) := by decide +kernel
theorem dX1_readUnit_92 : decode cX1_readUnit 92 = .ok (.iload_n 2, 1) := by decide +kernel
theorem dX1_readUnit_93 : decode cX1_readUnit 93 = .ok (.ifCond .ge 5, 3) := by decide +kernel
theorem dX1_readUnit_96 : decode cX1_readUnit 96 = .ok (.iconst 0, 1) := by decide +kernel
theorem dX1_readUnit_97 : decode cX1_readUnit 97 = .ok (.ireturn, 1) := by decide +kernel
theorem dX1_readUnit_98 : decode cX1_readUnit 98 = .ok (.aload_n 0, 1) := by decide +kernel
theorem dX1_readUnit_99 : decode cX1_readUnit 99 = .ok (.iload_n 2, 1) := by decide +kernel
theorem dX1_readUnit_100 : decode cX1_readUnit 100 = .ok (.iconst 4, 1) := by decide +kernel
theorem dX1_readUnit_101 : decode cX1_readUnit 101 = .ok (.ishl, 1) := by decide +kernel
theorem dX1_readUnit_102 : decode cX1_readUnit 102 = .ok (.iload_n 1, 1) := by decide +kernel
theorem dX1_readUnit_103 : decode cX1_readUnit 103 = .ok (.ior, 1) := by decide +kernel
theorem dX1_readUnit_104 : decode cX1_readUnit 104 = .ok (.invokevirtual 53, 3) := by decide +kernel
theorem dX1_readUnit_107 : decode cX1_readUnit 107 = .ok (.iconst 1, 1) := by decide +kernel
theorem dX1_readUnit_108 : decode cX1_readUnit 108 = .ok (.ireturn, 1) := by decide +kernel
theorem dX2_init_0 : decode cX2_init 0 = .ok (.aload_n 0, 1) := by decide +kernel
theorem dX2_init_1 : decode cX2_init 1 = .ok (.invokespecial 3, 3) := by decide +kernel
theorem dX2_init_4 : decode cX2_init 4 = .ok (.aload_n 0, 1) := by decide +kernel
theorem dX2_init_5 : decode cX2_init 5 = .ok (.iconst 1, 1) := by decide +kernel
theorem dX2_init_6 : decode cX2_init 6 = .ok (.putfield 9, 3) := by decide +kernel
theorem dX2_init_9 : decode cX2_init 9 = .ok (.aload_n 0, 1) := by decide +kernel
theorem dX2_init_10 : decode cX2_init 10 = .ok (.iconst 0, 1) := by decide +kernel
theorem dX2_init_11 : decode cX2_init 11 = .ok (.putfield 15, 3) := by decide +kernel
theorem dX2_init_14 : decode cX2_init 14 = .ok (.aload_n 0, 1) := by decide +kernel
theorem dX2_init_15 : decode cX2_init 15 = .ok (.sipush 1296, 3) := by decide +kernel
theorem dX2_init_18 : decode cX2_init 18 = .ok (.newarray .int, 2) := by decide +kernel
theorem dX2_init_20 : decode cX2_init 20 = .ok (.putfield 19, 3) := by decide +kernel
theorem dX2_init_23 : decode cX2_init 23 = .ok (.aload_n 0, 1) := by decide +kernel
theorem dX2_init_24 : decode cX2_init 24 = .ok (.sipush 1296, 3) := by decide +kernel
theorem dX2_init_27 : decode cX2_init 27 = .ok (.newarray .int, 2) := by decide +kernel
theorem dX2_init_29 : decode cX2_init 29 = .ok (.putfield 23, 3) := by decide +kernel
theorem dX2_init_32 : decode cX2_init 32 = .ok (.aload_n 0, 1) := by decide +kernel
theorem dX2_init_33 : decode cX2_init 33 = .ok (.iconst 0, 1) := by decide +kernel
theorem dX2_init_34 : decode cX2_init 34 = .ok (.putfield 26, 3) := by decide +kernel
theorem dX2_init_37 : decode cX2_init 37 = .ok (.aload_n 0, 1) := by decide +kernel
theorem dX2_init_38 : decode cX2_init 38 = .ok (.sipush 1296, 3) := by decide +kernel
theorem dX2_init_41 : decode cX2_init 41 = .ok (.newarray .long, 2) := by decide +kernel
theorem dX2_init_43 : decode cX2_init 43 = .ok (.putfield 29, 3) := by decide +kernel
theorem dX2_init_46 : decode cX2_init 46 = .ok (.aload_n 0, 1) := by decide +kernel
theorem dX2_init_47 : decode cX2_init 47 = .ok (.sipush 1296, 3) := by decide +kernel
theorem dX2_init_50 : decode cX2_init 50 = .ok (.newarray .long, 2) := by decide +kernel
theorem dX2_init_52 : decode cX2_init 52 = .ok (.putfield 33, 3) := by decide +kernel
theorem dX2_init_55 : decode cX2_init 55 = .ok (.aload_n 0, 1) := by decide +kernel
theorem dX2_init_56 : decode cX2_init 56 = .ok (.aload_n 1, 1) := by decide +kernel
theorem dX2_init_57 : decode cX2_init 57 = .ok (.putfield 36, 3) := by decide +kernel
theorem dX2_init_60 : decode cX2_init 60 = .ok (.return_, 1) := by decide +kernel
theorem dX2_refresh_0 : decode cX2_refresh 0 = .ok (.aload_n 0, 1) := by decide +kernel
theorem dX2_refresh_1 : decode cX2_refresh 1 = .ok (.getfield 9, 3) := by decide +kernel
theorem dX2_refresh_4 : decode cX2_refresh 4 = .ok (.ifCond .ne 4, 3) := by decide +kernel
theorem dX2_refresh_7 : decode cX2_refresh 7 = .ok (.return_, 1) := by decide +kernel
theorem dX2_refresh_8 : decode cX2_refresh 8 = .ok (.aload_n 0, 1) := by decide +kernel
theorem dX2_refresh_9 : decode cX2_refresh 9 = .ok (.iconst 0, 1) := by decide +kernel
theorem dX2_refresh_10 : decode cX2_refresh 10 = .ok (.putfield 9, 3) := by decide +kernel
theorem dX2_refresh_13 : decode cX2_refresh 13 = .ok (.aload_n 0, 1) := by decide +kernel
theorem dX2_refresh_14 : decode cX2_refresh 14 = .ok (.iconst 0, 1) := by decide +kernel
theorem dX2_refresh_15 : decode cX2_refresh 15 = .ok (.putfield 26, 3) := by decide +kernel
theorem dX2_refresh_18 : decode cX2_refresh 18 = .ok (.aload_n 0, 1) := by decide +kernel
theorem dX2_refresh_19 : decode cX2_refresh 19 = .ok (.iconst 0, 1) := by decide +kernel
theorem dX2_refresh_20 : decode cX2_refresh 20 = .ok (.putfield 15, 3) := by decide +kernel
theorem dX2_refresh_23 : decode cX2_refresh 23 = .ok (.aload_n 0, 1) := by decide +kernel
theorem dX2_refresh_24 : decode cX2_refresh 24 = .ok (.getfield 23, 3) := by decide +kernel
theorem dX2_refresh_27 : decode cX2_refresh 27 = .ok (.iconst (-1), 1) := by decide +kernel
theorem dX2_refresh_28 : decode cX2_refresh 28 = .ok (.invokestatic 40, 3) := by decide +kernel
theorem dX2_refresh_31 : decode cX2_refresh 31 = .ok (.iconst 0, 1) := by decide +kernel
theorem dX2_refresh_32 : decode cX2_refresh 32 = .ok (.istore_n 1, 1) := by decide +kernel
theorem dX2_refresh_33 : decode cX2_refresh 33 = .ok (.iconst 0, 1) := by decide +kernel
theorem dX2_refresh_34 : decode cX2_refresh 34 = .ok (.istore_n 2, 1) := by decide +kernel
theorem dX2_refresh_35 : decode cX2_refresh 35 = .ok (.iload_n 2, 1) := by decide +kernel
theorem dX2_refresh_36 : decode cX2_refresh 36 = .ok (.sipush 1296, 3) := by decide +kernel
theorem dX2_refresh_39 : decode cX2_refresh 39 = .ok (.if_icmp .ge 63, 3) := by decide +kernel
theorem dX2_refresh_42 : decode cX2_refresh 42 = .ok (.iload_n 1, 1) := by decide +kernel
theorem dX2_refresh_43 : decode cX2_refresh 43 = .ok (.ifCond .lt 59, 3) := by decide +kernel
theorem dX2_refresh_46 : decode cX2_refresh 46 = .ok (.aload_n 0, 1) := by decide +kernel
theorem dX2_refresh_47 : decode cX2_refresh 47 = .ok (.getfield 36, 3) := by decide +kernel
theorem dX2_refresh_50 : decode cX2_refresh 50 = .ok (.iload_n 1, 1) := by decide +kernel
theorem dX2_refresh_51 : decode cX2_refresh 51 = .ok (.invokevirtual 46, 3) := by decide +kernel
theorem dX2_refresh_54 : decode cX2_refresh 54 = .ok (.ifCond .eq 36, 3) := by decide +kernel
theorem dX2_refresh_57 : decode cX2_refresh 57 = .ok (.aload_n 0, 1) := by decide +kernel
theorem dX2_refresh_58 : decode cX2_refresh 58 = .ok (.getfield 19, 3) := by decide +kernel
theorem dX2_refresh_61 : decode cX2_refresh 61 = .ok (.aload_n 0, 1) := by decide +kernel
theorem dX2_refresh_62 : decode cX2_refresh 62 = .ok (.getfield 15, 3) := by decide +kernel
theorem dX2_refresh_65 : decode cX2_refresh 65 = .ok (.iload_n 1, 1) := by decide +kernel
theorem dX2_refresh_66 : decode cX2_refresh 66 = .ok (.iastore, 1) := by decide +kernel
theorem dX2_refresh_67 : decode cX2_refresh 67 = .ok (.aload_n 0, 1) := by decide +kernel
theorem dX2_refresh_68 : decode cX2_refresh 68 = .ok (.getfield 23, 3) := by decide +kernel
theorem dX2_refresh_71 : decode cX2_refresh 71 = .ok (.iload_n 1, 1) := by decide +kernel
theorem dX2_refresh_72 : decode cX2_refresh 72 = .ok (.invokestatic 52, 3) := by decide +kernel
theorem dX2_refresh_75 : decode cX2_refresh 75 = .ok (.aload_n 0, 1) := by decide +kernel
theorem dX2_refresh_76 : decode cX2_refresh 76 = .ok (.getfield 15, 3) := by decide +kernel
theorem dX2_refresh_79 : decode cX2_refresh 79 = .ok (.iastore, 1) := by decide +kernel
theorem dX2_refresh_80 : decode cX2_refresh 80 = .ok (.aload_n 0, 1) := by decide +kernel
theorem dX2_refresh_81 : decode cX2_refresh 81 = .ok (.dup, 1) := by decide +kernel
theorem dX2_refresh_82 : decode cX2_refresh 82 = .ok (.getfield 15, 3) := by decide +kernel
theorem dX2_refresh_85 : decode cX2_refresh 85 = .ok (.iconst 1, 1) := by decide +kernel
theorem dX2_refresh_86 : decode cX2_refresh 86 = .ok (.iadd, 1) := by decide +kernel
theorem dX2_refresh_87 : decode cX2_refresh 87 = .ok (.putfield 15, 3) := by decide +kernel
theorem dX2_refresh_90 : decode cX2_refresh 90 = .ok (.aload_n 0, 1) := by decide +kernel
theorem dX2_refresh_91 : decode cX2_refresh 91 = .ok (.iload_n 1, 1) := by decide +kernel
theorem dX2_refresh_92 : decode cX2_refresh 92 = .ok (.invokevirtual 58, 3) := by decide +kernel
theorem dX2_refresh_95 : decode cX2_refresh 95 = .ok (.istore_n 1, 1) := by decide +kernel
theorem dX2_refresh_96 : decode cX2_refresh 96 = .ok (.iinc 2 1, 3) := by decide +kernel
theorem dX2_refresh_99 : decode cX2_refresh 99 = .ok (.goto (-64), 3) := by decide +kernel
theorem dX2_refresh_102 : decode cX2_refresh 102 = .ok (.return_, 1) := by decide +kernel
theorem dX2_rowBehind_0 : decode cX2_rowBehind 0 = .ok (.iload_n 1, 1) := by decide +kernel
theorem dX2_rowBehind_1 : decode cX2_rowBehind 1 = .ok (.istore_n 2, 1) := by decide +kernel
theorem dX2_rowBehind_2 : decode cX2_rowBehind 2 = .ok (.aload_n 0, 1) := by decide +kernel
theorem dX2_rowBehind_3 : decode cX2_rowBehind 3 = .ok (.getfield 36, 3) := by decide +kernel
theorem dX2_rowBehind_6 : decode cX2_rowBehind 6 = .ok (.getfield 61, 3) := by decide +kernel
theorem dX2_rowBehind_9 : decode cX2_rowBehind 9 = .ok (.iconst 1, 1) := by decide +kernel
theorem dX2_rowBehind_10 : decode cX2_rowBehind 10 = .ok (.isub, 1) := by decide +kernel
theorem dX2_rowBehind_11 : decode cX2_rowBehind 11 = .ok (.istore_n 3, 1) := by decide +kernel
theorem dX2_rowBehind_12 : decode cX2_rowBehind 12 = .ok (.iload_n 3, 1) := by decide +kernel
theorem dX2_rowBehind_13 : decode cX2_rowBehind 13 = .ok (.ifCond .lt 52, 3) := by decide +kernel
theorem dX2_rowBehind_16 : decode cX2_rowBehind 16 = .ok (.aload_n 0, 1) := by decide +kernel
theorem dX2_rowBehind_17 : decode cX2_rowBehind 17 = .ok (.getfield 36, 3) := by decide +kernel
theorem dX2_rowBehind_20 : decode cX2_rowBehind 20 = .ok (.iload_n 3, 1) := by decide +kernel
theorem dX2_rowBehind_21 : decode cX2_rowBehind 21 = .ok (.invokevirtual 64, 3) := by decide +kernel
theorem dX2_rowBehind_24 : decode cX2_rowBehind 24 = .ok (.istore 4, 2) := by decide +kernel
theorem dX2_rowBehind_26 : decode cX2_rowBehind 26 = .ok (.iload_n 2, 1) := by decide +kernel
theorem dX2_rowBehind_27 : decode cX2_rowBehind 27 = .ok (.iload 4, 2) := by decide +kernel
theorem dX2_rowBehind_29 : decode cX2_rowBehind 29 = .ok (.invokestatic 67, 3) := by decide +kernel
theorem dX2_rowBehind_32 : decode cX2_rowBehind 32 = .ok (.aload_n 0, 1) := by decide +kernel
theorem dX2_rowBehind_33 : decode cX2_rowBehind 33 = .ok (.getfield 36, 3) := by decide +kernel
theorem dX2_rowBehind_36 : decode cX2_rowBehind 36 = .ok (.getfield 71, 3) := by decide +kernel
theorem dX2_rowBehind_39 : decode cX2_rowBehind 39 = .ok (.iload_n 3, 1) := by decide +kernel
theorem dX2_rowBehind_40 : decode cX2_rowBehind 40 = .ok (.iaload, 1) := by decide +kernel
theorem dX2_rowBehind_41 : decode cX2_rowBehind 41 = .ok (.if_icmp .ge 11, 3) := by decide +kernel
theorem dX2_rowBehind_44 : decode cX2_rowBehind 44 = .ok (.iload_n 2, 1) := by decide +kernel
theorem dX2_rowBehind_45 : decode cX2_rowBehind 45 = .ok (.iload 4, 2) := by decide +kernel
theorem dX2_rowBehind_47 : decode cX2_rowBehind 47 = .ok (.invokestatic 74, 3) := by decide +kernel
theorem dX2_rowBehind_50 : decode cX2_rowBehind 50 = .ok (.iadd, 1) := by decide +kernel
theorem dX2_rowBehind_51 : decode cX2_rowBehind 51 = .ok (.ireturn, 1) := by decide +kernel
theorem dX2_rowBehind_52 : decode cX2_rowBehind 52 = .ok (.iload_n 2, 1) := by decide +kernel
theorem dX2_rowBehind_53 : decode cX2_rowBehind 53 = .ok (.iload 4, 2) := by decide +kernel
theorem dX2_rowBehind_55 : decode cX2_rowBehind 55 = .ok (.invokestatic 77, 3) := by decide +kernel
theorem dX2_rowBehind_58 : decode cX2_rowBehind 58 = .ok (.istore_n 2, 1) := by decide +kernel
theorem dX2_rowBehind_59 : decode cX2_rowBehind 59 = .ok (.iinc 3 (-1), 3) := by decide +kernel
theorem dX2_rowBehind_62 : decode cX2_rowBehind 62 = .ok (.goto (-50), 3) := by decide +kernel
theorem dX2_rowBehind_65 : decode cX2_rowBehind 65 = .ok (.iconst (-1), 1) := by decide +kernel
theorem dX2_rowBehind_66 : decode cX2_rowBehind 66 = .ok (.ireturn, 1) := by decide +kernel
theorem dX2_numberOf_0 : decode cX2_numberOf 0 = .ok (.iload_n 1, 1) := by decide +kernel
theorem dX2_numberOf_1 : decode cX2_numberOf 1 = .ok (.invokestatic 52, 3) := by decide +kernel
theorem dX2_numberOf_4 : decode cX2_numberOf 4 = .ok (.istore_n 2, 1) := by decide +kernel
theorem dX2_numberOf_5 : decode cX2_numberOf 5 = .ok (.iload_n 2, 1) := by decide +kernel
theorem dX2_numberOf_6 : decode cX2_numberOf 6 = .ok (.sipush 1296, 3) := by decide +kernel
theorem dX2_numberOf_9 : decode cX2_numberOf 9 = .ok (.if_icmp .ge 12, 3) := by decide +kernel
theorem dX2_numberOf_12 : decode cX2_numberOf 12 = .ok (.aload_n 0, 1) := by decide +kernel
theorem dX2_numberOf_13 : decode cX2_numberOf 13 = .ok (.getfield 23, 3) := by decide +kernel
theorem dX2_numberOf_16 : decode cX2_numberOf 16 = .ok (.iload_n 2, 1) := by decide +kernel
theorem dX2_numberOf_17 : decode cX2_numberOf 17 = .ok (.iaload, 1) := by decide +kernel
theorem dX2_numberOf_18 : decode cX2_numberOf 18 = .ok (.goto 4, 3) := by decide +kernel
theorem dX2_numberOf_21 : decode cX2_numberOf 21 = .ok (.iconst (-1), 1) := by decide +kernel
theorem dX2_numberOf_22 : decode cX2_numberOf 22 = .ok (.ireturn, 1) := by decide +kernel
theorem dX2_successor_0 : decode cX2_successor 0 = .ok (.aload_n 0, 1) := by decide +kernel
theorem dX2_successor_1 : decode cX2_successor 1 = .ok (.getfield 36, 3) := by decide +kernel
theorem dX2_successor_4 : decode cX2_successor 4 = .ok (.iload_n 2, 1) := by decide +kernel
theorem dX2_successor_5 : decode cX2_successor 5 = .ok (.invokevirtual 64, 3) := by decide +kernel
theorem dX2_successor_8 : decode cX2_successor 8 = .ok (.istore_n 3, 1) := by decide +kernel
theorem dX2_successor_9 : decode cX2_successor 9 = .ok (.aload_n 0, 1) := by decide +kernel
theorem dX2_successor_10 : decode cX2_successor 10 = .ok (.getfield 19, 3) := by decide +kernel
theorem dX2_successor_13 : decode cX2_successor 13 = .ok (.iload_n 1, 1) := by decide +kernel
theorem dX2_successor_14 : decode cX2_successor 14 = .ok (.iaload, 1) := by decide +kernel
theorem dX2_successor_15 : decode cX2_successor 15 = .ok (.iload_n 3, 1) := by decide +kernel
theorem dX2_successor_16 : decode cX2_successor 16 = .ok (.invokestatic 67, 3) := by decide +kernel
theorem dX2_successor_19 : decode cX2_successor 19 = .ok (.aload_n 0, 1) := by decide +kernel
theorem dX2_successor_20 : decode cX2_successor 20 = .ok (.getfield 36, 3) := by decide +kernel
theorem dX2_successor_23 : decode cX2_successor 23 = .ok (.getfield 71, 3) := by decide +kernel
theorem dX2_successor_26 : decode cX2_successor 26 = .ok (.iload_n 2, 1) := by decide +kernel
theorem dX2_successor_27 : decode cX2_successor 27 = .ok (.iaload, 1) := by decide +kernel
theorem dX2_successor_28 : decode cX2_successor 28 = .ok (.if_icmp .lt 5, 3) := by decide +kernel
theorem dX2_successor_31 : decode cX2_successor 31 = .ok (.iconst (-1), 1) := by decide +kernel
theorem dX2_successor_32 : decode cX2_successor 32 = .ok (.ireturn, 1) := by decide +kernel
theorem dX2_successor_33 : decode cX2_successor 33 = .ok (.aload_n 0, 1) := by decide +kernel
theorem dX2_successor_34 : decode cX2_successor 34 = .ok (.getfield 23, 3) := by decide +kernel
theorem dX2_successor_37 : decode cX2_successor 37 = .ok (.aload_n 0, 1) := by decide +kernel
theorem dX2_successor_38 : decode cX2_successor 38 = .ok (.getfield 19, 3) := by decide +kernel
theorem dX2_successor_41 : decode cX2_successor 41 = .ok (.iload_n 1, 1) := by decide +kernel
theorem dX2_successor_42 : decode cX2_successor 42 = .ok (.iaload, 1) := by decide +kernel
theorem dX2_successor_43 : decode cX2_successor 43 = .ok (.iload_n 3, 1) := by decide +kernel
theorem dX2_successor_44 : decode cX2_successor 44 = .ok (.invokestatic 74, 3) := by decide +kernel
theorem dX2_successor_47 : decode cX2_successor 47 = .ok (.iadd, 1) := by decide +kernel
theorem dX2_successor_48 : decode cX2_successor 48 = .ok (.invokestatic 52, 3) := by decide +kernel
theorem dX2_successor_51 : decode cX2_successor 51 = .ok (.iaload, 1) := by decide +kernel
theorem dX2_successor_52 : decode cX2_successor 52 = .ok (.ireturn, 1) := by decide +kernel
theorem dX2_waysBy_0 : decode cX2_waysBy 0 = .ok (.aload_n 0, 1) := by decide +kernel
theorem dX2_waysBy_1 : decode cX2_waysBy 1 = .ok (.getfield 26, 3) := by decide +kernel
theorem dX2_waysBy_4 : decode cX2_waysBy 4 = .ok (.ifCond .ne 12, 3) := by decide +kernel
theorem dX2_waysBy_7 : decode cX2_waysBy 7 = .ok (.aload_n 0, 1) := by decide +kernel
theorem dX2_waysBy_8 : decode cX2_waysBy 8 = .ok (.invokevirtual 80, 3) := by decide +kernel
theorem dX2_waysBy_11 : decode cX2_waysBy 11 = .ok (.aload_n 0, 1) := by decide +kernel
theorem dX2_waysBy_12 : decode cX2_waysBy 12 = .ok (.iconst 1, 1) := by decide +kernel
theorem dX2_waysBy_13 : decode cX2_waysBy 13 = .ok (.putfield 26, 3) := by decide +kernel
theorem dX2_waysBy_16 : decode cX2_waysBy 16 = .ok (.aload_n 0, 1) := by decide +kernel
theorem dX2_waysBy_17 : decode cX2_waysBy 17 = .ok (.getfield 29, 3) := by decide +kernel
theorem dX2_waysBy_20 : decode cX2_waysBy 20 = .ok (.iload_n 1, 1) := by decide +kernel
theorem dX2_waysBy_21 : decode cX2_waysBy 21 = .ok (.laload, 1) := by decide +kernel
theorem dX2_waysBy_22 : decode cX2_waysBy 22 = .ok (.aload_n 0, 1) := by decide +kernel
theorem dX2_waysBy_23 : decode cX2_waysBy 23 = .ok (.getfield 33, 3) := by decide +kernel
theorem dX2_waysBy_26 : decode cX2_waysBy 26 = .ok (.iload_n 1, 1) := by decide +kernel
theorem dX2_waysBy_27 : decode cX2_waysBy 27 = .ok (.laload, 1) := by decide +kernel
theorem dX2_waysBy_28 : decode cX2_waysBy 28 = .ok (.lmul, 1) := by decide +kernel
theorem dX2_waysBy_29 : decode cX2_waysBy 29 = .ok (.lreturn, 1) := by decide +kernel
theorem dX2_countWays_0 : decode cX2_countWays 0 = .ok (.aload_n 0, 1) := by decide +kernel
theorem dX2_countWays_1 : decode cX2_countWays 1 = .ok (.getfield 29, 3) := by decide +kernel
theorem dX2_countWays_4 : decode cX2_countWays 4 = .ok (.lconst 0, 1) := by decide +kernel
theorem dX2_countWays_5 : decode cX2_countWays 5 = .ok (.invokestatic 83, 3) := by decide +kernel
theorem dX2_countWays_8 : decode cX2_countWays 8 = .ok (.aload_n 0, 1) := by decide +kernel
theorem dX2_countWays_9 : decode cX2_countWays 9 = .ok (.getfield 29, 3) := by decide +kernel
theorem dX2_countWays_12 : decode cX2_countWays 12 = .ok (.iconst 0, 1) := by decide +kernel
theorem dX2_countWays_13 : decode cX2_countWays 13 = .ok (.lconst 1, 1) := by decide +kernel
theorem dX2_countWays_14 : decode cX2_countWays 14 = .ok (.lastore, 1) := by decide +kernel
theorem dX2_countWays_15 : decode cX2_countWays 15 = .ok (.iconst 0, 1) := by decide +kernel
theorem dX2_countWays_16 : decode cX2_countWays 16 = .ok (.istore_n 1, 1) := by decide +kernel
theorem dX2_countWays_17 : decode cX2_countWays 17 = .ok (.iload_n 1, 1) := by decide +kernel
theorem dX2_countWays_18 : decode cX2_countWays 18 = .ok (.aload_n 0, 1) := by decide +kernel
theorem dX2_countWays_19 : decode cX2_countWays 19 = .ok (.getfield 15, 3) := by decide +kernel
theorem dX2_countWays_22 : decode cX2_countWays 22 = .ok (.if_icmp .ge 54, 3) := by decide +kernel
theorem dX2_countWays_25 : decode cX2_countWays 25 = .ok (.iconst 0, 1) := by decide +kernel
theorem dX2_countWays_26 : decode cX2_countWays 26 = .ok (.istore_n 2, 1) := by decide +kernel
theorem dX2_countWays_27 : decode cX2_countWays 27 = .ok (.iload_n 2, 1) := by decide +kernel
theorem dX2_countWays_28 : decode cX2_countWays 28 = .ok (.aload_n 0, 1) := by decide +kernel
theorem dX2_countWays_29 : decode cX2_countWays 29 = .ok (.getfield 36, 3) := by decide +kernel
theorem dX2_countWays_32 : decode cX2_countWays 32 = .ok (.getfield 61, 3) := by decide +kernel
theorem dX2_countWays_35 : decode cX2_countWays 35 = .ok (.if_icmp .ge 35, 3) := by decide +kernel
theorem dX2_countWays_38 : decode cX2_countWays 38 = .ok (.aload_n 0, 1) := by decide +kernel
theorem dX2_countWays_39 : decode cX2_countWays 39 = .ok (.iload_n 1, 1) := by decide +kernel
theorem dX2_countWays_40 : decode cX2_countWays 40 = .ok (.iload_n 2, 1) := by decide +kernel
theorem dX2_countWays_41 : decode cX2_countWays 41 = .ok (.invokevirtual 86, 3) := by decide +kernel
theorem dX2_countWays_44 : decode cX2_countWays 44 = .ok (.istore_n 3, 1) := by decide +kernel
theorem dX2_countWays_45 : decode cX2_countWays 45 = .ok (.iload_n 3, 1) := by decide +kernel
theorem dX2_countWays_46 : decode cX2_countWays 46 = .ok (.ifCond .lt 18, 3) := by decide +kernel
theorem dX2_countWays_49 : decode cX2_countWays 49 = .ok (.aload_n 0, 1) := by decide +kernel
theorem dX2_countWays_50 : decode cX2_countWays 50 = .ok (.getfield 29, 3) := by decide +kernel
theorem dX2_countWays_53 : decode cX2_countWays 53 = .ok (.iload_n 3, 1) := by decide +kernel
theorem dX2_countWays_54 : decode cX2_countWays 54 = .ok (.dup2, 1) := by decide +kernel
theorem dX2_countWays_55 : decode cX2_countWays 55 = .ok (.laload, 1) := by decide +kernel
theorem dX2_countWays_56 : decode cX2_countWays 56 = .ok (.aload_n 0, 1) := by decide +kernel
theorem dX2_countWays_57 : decode cX2_countWays 57 = .ok (.getfield 29, 3) := by decide +kernel
theorem dX2_countWays_60 : decode cX2_countWays 60 = .ok (.iload_n 1, 1) := by decide +kernel
theorem dX2_countWays_61 : decode cX2_countWays 61 = .ok (.laload, 1) := by decide +kernel
theorem dX2_countWays_62 : decode cX2_countWays 62 = .ok (.ladd, 1) := by decide +kernel
theorem dX2_countWays_63 : decode cX2_countWays 63 = .ok (.lastore, 1) := by decide +kernel
theorem dX2_countWays_64 : decode cX2_countWays 64 = .ok (.iinc 2 1, 3) := by decide +kernel
theorem dX2_countWays_67 : decode cX2_countWays 67 = .ok (.goto (-40), 3) := by decide +kernel
theorem dX2_countWays_70 : decode cX2_countWays 70 = .ok (.iinc 1 1, 3) := by decide +kernel
theorem dX2_countWays_73 : decode cX2_countWays 73 = .ok (.goto (-56), 3) := by decide +kernel
theorem dX2_countWays_76 : decode cX2_countWays 76 = .ok (.aload_n 0, 1) := by decide +kernel
theorem dX2_countWays_77 : decode cX2_countWays 77 = .ok (.getfield 15, 3) := by decide +kernel
theorem dX2_countWays_80 : decode cX2_countWays 80 = .ok (.iconst 1, 1) := by decide +kernel
theorem dX2_countWays_81 : decode cX2_countWays 81 = .ok (.isub, 1) := by decide +kernel
theorem dX2_countWays_82 : decode cX2_countWays 82 = .ok (.istore_n 1, 1) := by decide +kernel
theorem dX2_countWays_83 : decode cX2_countWays 83 = .ok (.iload_n 1, 1) := by decide +kernel
theorem dX2_countWays_84 : decode cX2_countWays 84 = .ok (.ifCond .lt 81, 3) := by decide +kernel
theorem dX2_countWays_87 : decode cX2_countWays 87 = .ok (.iload_n 1, 1) := by decide +kernel
theorem dX2_countWays_88 : decode cX2_countWays 88 = .ok (.aload_n 0, 1) := by decide +kernel
theorem dX2_countWays_89 : decode cX2_countWays 89 = .ok (.getfield 15, 3) := by decide +kernel
theorem dX2_countWays_92 : decode cX2_countWays 92 = .ok (.iconst 1, 1) := by decide +kernel
theorem dX2_countWays_93 : decode cX2_countWays 93 = .ok (.isub, 1) := by decide +kernel
theorem dX2_countWays_94 : decode cX2_countWays 94 = .ok (.if_icmp .ne 7, 3) := by decide +kernel
theorem dX2_countWays_97 : decode cX2_countWays 97 = .ok (.lconst 1, 1) := by decide +kernel
theorem dX2_countWays_98 : decode cX2_countWays 98 = .ok (.goto 4, 3) := by decide +kernel
theorem dX2_countWays_101 : decode cX2_countWays 101 = .ok (.lconst 0, 1) := by decide +kernel
theorem dX2_countWays_102 : decode cX2_countWays 102 = .ok (.lstore_n 2, 1) := by decide +kernel
theorem dX2_countWays_103 : decode cX2_countWays 103 = .ok (.iconst 0, 1) := by decide +kernel
theorem dX2_countWays_104 : decode cX2_countWays 104 = .ok (.istore 4, 2) := by decide +kernel
theorem dX2_countWays_106 : decode cX2_countWays 106 = .ok (.iload 4, 2) := by decide +kernel
theorem dX2_countWays_108 : decode cX2_countWays 108 = .ok (.aload_n 0, 1) := by decide +kernel
theorem dX2_countWays_109 : decode cX2_countWays 109 = .ok (.getfield 36, 3) := by decide +kernel
theorem dX2_countWays_112 : decode cX2_countWays 112 = .ok (.getfield 61, 3) := by decide +kernel
theorem dX2_countWays_115 : decode cX2_countWays 115 = .ok (.if_icmp .ge 37, 3) := by decide +kernel
theorem dX2_countWays_118 : decode cX2_countWays 118 = .ok (.aload_n 0, 1) := by decide +kernel
theorem dX2_countWays_119 : decode cX2_countWays 119 = .ok (.iload_n 1, 1) := by decide +kernel
theorem dX2_countWays_120 : decode cX2_countWays 120 = .ok (.iload 4, 2) := by decide +kernel
theorem dX2_countWays_122 : decode cX2_countWays 122 = .ok (.invokevirtual 86, 3) := by decide +kernel
theorem dX2_countWays_125 : decode cX2_countWays 125 = .ok (.istore 5, 2) := by decide +kernel
theorem dX2_countWays_127 : decode cX2_countWays 127 = .ok (.lload_n 2, 1) := by decide +kernel
theorem dX2_countWays_128 : decode cX2_countWays 128 = .ok (.iload 5, 2) := by decide +kernel
theorem dX2_countWays_130 : decode cX2_countWays 130 = .ok (.ifCond .lt 13, 3) := by decide +kernel
theorem dX2_countWays_133 : decode cX2_countWays 133 = .ok (.aload_n 0, 1) := by decide +kernel
theorem dX2_countWays_134 : decode cX2_countWays 134 = .ok (.getfield 33, 3) := by decide +kernel
theorem dX2_countWays_137 : decode cX2_countWays 137 = .ok (.iload 5, 2) := by decide +kernel
theorem dX2_countWays_139 : decode cX2_countWays 139 = .ok (.laload, 1) := by decide +kernel
theorem dX2_countWays_140 : decode cX2_countWays 140 = .ok (.goto 4, 3) := by decide +kernel
theorem dX2_countWays_143 : decode cX2_countWays 143 = .ok (.lconst 0, 1) := by decide +kernel
theorem dX2_countWays_144 : decode cX2_countWays 144 = .ok (.ladd, 1) := by decide +kernel
theorem dX2_countWays_145 : decode cX2_countWays 145 = .ok (.lstore_n 2, 1) := by decide +kernel
theorem dX2_countWays_146 : decode cX2_countWays 146 = .ok (.iinc 4 1, 3) := by decide +kernel
theorem dX2_countWays_149 : decode cX2_countWays 149 = .ok (.goto (-43), 3) := by decide +kernel
theorem dX2_countWays_152 : decode cX2_countWays 152 = .ok (.aload_n 0, 1) := by decide +kernel
theorem dX2_countWays_153 : decode cX2_countWays 153 = .ok (.getfield 33, 3) := by decide +kernel
theorem dX2_countWays_156 : decode cX2_countWays 156 = .ok (.iload_n 1, 1) := by decide +kernel
theorem dX2_countWays_157 : decode cX2_countWays 157 = .ok (.lload_n 2, 1) := by decide +kernel
theorem dX2_countWays_158 : decode cX2_countWays 158 = .ok (.lastore, 1) := by decide +kernel
theorem dX2_countWays_159 : decode cX2_countWays 159 = .ok (.iinc 1 (-1), 3) := by decide +kernel
theorem dX2_countWays_162 : decode cX2_countWays 162 = .ok (.goto (-79), 3) := by decide +kernel
theorem dX2_countWays_165 : decode cX2_countWays 165 = .ok (.return_, 1) := by decide +kernel
theorem dX3_init_0 : decode cX3_init 0 = .ok (.aload_n 0, 1) := by decide +kernel
theorem dX3_init_1 : decode cX3_init 1 = .ok (.invokespecial 3, 3) := by decide +kernel
theorem dX3_init_4 : decode cX3_init 4 = .ok (.aload_n 0, 1) := by decide +kernel
theorem dX3_init_5 : decode cX3_init 5 = .ok (.iconst (-1), 1) := by decide +kernel
theorem dX3_init_6 : decode cX3_init 6 = .ok (.putfield 11, 3) := by decide +kernel
theorem dX3_init_9 : decode cX3_init 9 = .ok (.aload_n 0, 1) := by decide +kernel
theorem dX3_init_10 : decode cX3_init 10 = .ok (.bipush 20, 2) := by decide +kernel
theorem dX3_init_12 : decode cX3_init 12 = .ok (.newarray .long, 2) := by decide +kernel
theorem dX3_init_14 : decode cX3_init 14 = .ok (.putfield 15, 3) := by decide +kernel
theorem dX3_init_17 : decode cX3_init 17 = .ok (.return_, 1) := by decide +kernel
theorem dX3_isMissing_0 : decode cX3_isMissing 0 = .ok (.aload_n 0, 1) := by decide +kernel
theorem dX3_isMissing_1 : decode cX3_isMissing 1 = .ok (.getfield 11, 3) := by decide +kernel
theorem dX3_isMissing_4 : decode cX3_isMissing 4 = .ok (.iconst (-1), 1) := by decide +kernel
theorem dX3_isMissing_5 : decode cX3_isMissing 5 = .ok (.if_icmp .ne 7, 3) := by decide +kernel
theorem dX3_isMissing_8 : decode cX3_isMissing 8 = .ok (.iconst 1, 1) := by decide +kernel
theorem dX3_isMissing_9 : decode cX3_isMissing 9 = .ok (.goto 4, 3) := by decide +kernel
theorem dX3_isMissing_12 : decode cX3_isMissing 12 = .ok (.iconst 0, 1) := by decide +kernel
theorem dX3_isMissing_13 : decode cX3_isMissing 13 = .ok (.ireturn, 1) := by decide +kernel
theorem dX3_hasPlace_0 : decode cX3_hasPlace 0 = .ok (.iload_n 1, 1) := by decide +kernel
theorem dX3_hasPlace_1 : decode cX3_hasPlace 1 = .ok (.ifCond .lt 15, 3) := by decide +kernel
theorem dX3_hasPlace_4 : decode cX3_hasPlace 4 = .ok (.iload_n 1, 1) := by decide +kernel
theorem dX3_hasPlace_5 : decode cX3_hasPlace 5 = .ok (.aload_n 0, 1) := by decide +kernel
theorem dX3_hasPlace_6 : decode cX3_hasPlace 6 = .ok (.getfield 11, 3) := by decide +kernel
theorem dX3_hasPlace_9 : decode cX3_hasPlace 9 = .ok (.if_icmp .ge 7, 3) := by decide +kernel
theorem dX3_hasPlace_12 : decode cX3_hasPlace 12 = .ok (.iconst 1, 1) := by decide +kernel
theorem dX3_hasPlace_13 : decode cX3_hasPlace 13 = .ok (.goto 4, 3) := by decide +kernel
theorem dX3_hasPlace_16 : decode cX3_hasPlace 16 = .ok (.iconst 0, 1) := by decide +kernel
theorem dX3_hasPlace_17 : decode cX3_hasPlace 17 = .ok (.ireturn, 1) := by decide +kernel
theorem dX3_resize_0 : decode cX3_resize 0 = .ok (.aload_n 0, 1) := by decide +kernel
theorem dX3_resize_1 : decode cX3_resize 1 = .ok (.iload_n 1, 1) := by decide +kernel
theorem dX3_resize_2 : decode cX3_resize 2 = .ok (.putfield 11, 3) := by decide +kernel
theorem dX3_resize_5 : decode cX3_resize 5 = .ok (.aload_n 0, 1) := by decide +kernel
theorem dX3_resize_6 : decode cX3_resize 6 = .ok (.getfield 15, 3) := by decide +kernel
theorem dX3_resize_9 : decode cX3_resize 9 = .ok (.lconst 0, 1) := by decide +kernel
theorem dX3_resize_10 : decode cX3_resize 10 = .ok (.invokestatic 19, 3) := by decide +kernel
theorem dX3_resize_13 : decode cX3_resize 13 = .ok (.return_, 1) := by decide +kernel
theorem dX4_one_0 : decode cX4_one 0 = .ok (.iconst 1, 1) := by decide +kernel
theorem dX4_one_1 : decode cX4_one 1 = .ok (.iconst 4, 1) := by decide +kernel
theorem dX4_one_2 : decode cX4_one 2 = .ok (.iload_n 0, 1) := by decide +kernel
theorem dX4_one_3 : decode cX4_one 3 = .ok (.imul, 1) := by decide +kernel
theorem dX4_one_4 : decode cX4_one 4 = .ok (.ishl, 1) := by decide +kernel
theorem dX4_one_5 : decode cX4_one 5 = .ok (.ireturn, 1) := by decide +kernel
theorem dX4_at_0 : decode cX4_at 0 = .ok (.iload_n 0, 1) := by decide +kernel
theorem dX4_at_1 : decode cX4_at 1 = .ok (.iconst 4, 1) := by decide +kernel
theorem dX4_at_2 : decode cX4_at 2 = .ok (.iload_n 1, 1) := by decide +kernel
theorem dX4_at_3 : decode cX4_at 3 = .ok (.imul, 1) := by decide +kernel
theorem dX4_at_4 : decode cX4_at 4 = .ok (.ishr, 1) := by decide +kernel
theorem dX4_at_5 : decode cX4_at 5 = .ok (.bipush 7, 2) := by decide +kernel
theorem dX4_at_7 : decode cX4_at 7 = .ok (.iand, 1) := by decide +kernel
theorem dX4_at_8 : decode cX4_at 8 = .ok (.ireturn, 1) := by decide +kernel
theorem dX4_without_0 : decode cX4_without 0 = .ok (.iload_n 0, 1) := by decide +kernel
theorem dX4_without_1 : decode cX4_without 1 = .ok (.bipush 7, 2) := by decide +kernel
theorem dX4_without_3 : decode cX4_without 3 = .ok (.iconst 4, 1) := by decide +kernel
theorem dX4_without_4 : decode cX4_without 4 = .ok (.iload_n 1, 1) := by decide +kernel
theorem dX4_without_5 : decode cX4_without 5 = .ok (.imul, 1) := by decide +kernel
theorem dX4_without_6 : decode cX4_without 6 = .ok (.ishl, 1) := by decide +kernel
theorem dX4_without_7 : decode cX4_without 7 = .ok (.iconst (-1), 1) := by decide +kernel
theorem dX4_without_8 : decode cX4_without 8 = .ok (.ixor, 1) := by decide +kernel
theorem dX4_without_9 : decode cX4_without 9 = .ok (.iand, 1) := by decide +kernel
theorem dX4_without_10 : decode cX4_without 10 = .ok (.ireturn, 1) := by decide +kernel
theorem dX4_notBelow_0 : decode cX4_notBelow 0 = .ok (.iload_n 0, 1) := by decide +kernel
theorem dX4_notBelow_1 : decode cX4_notBelow 1 = .ok (.ldc 9, 2) := by decide +kernel
theorem dX4_notBelow_3 : decode cX4_notBelow 3 = .ok (.ior, 1) := by decide +kernel
theorem dX4_notBelow_4 : decode cX4_notBelow 4 = .ok (.iload_n 1, 1) := by decide +kernel
theorem dX4_notBelow_5 : decode cX4_notBelow 5 = .ok (.isub, 1) := by decide +kernel
theorem dX4_notBelow_6 : decode cX4_notBelow 6 = .ok (.ldc 9, 2) := by decide +kernel
theorem dX4_notBelow_8 : decode cX4_notBelow 8 = .ok (.iand, 1) := by decide +kernel
theorem dX4_notBelow_9 : decode cX4_notBelow 9 = .ok (.istore_n 2, 1) := by decide +kernel
theorem dX4_notBelow_10 : decode cX4_notBelow 10 = .ok (.iload_n 2, 1) := by decide +kernel
theorem dX4_notBelow_11 : decode cX4_notBelow 11 = .ok (.iload_n 2, 1) := by decide +kernel
theorem dX4_notBelow_12 : decode cX4_notBelow 12 = .ok (.iconst 3, 1) := by decide +kernel
theorem dX4_notBelow_13 : decode cX4_notBelow 13 = .ok (.ishr, 1) := by decide +kernel
theorem dX4_notBelow_14 : decode cX4_notBelow 14 = .ok (.isub, 1) := by decide +kernel
theorem dX4_notBelow_15 : decode cX4_notBelow 15 = .ok (.ireturn, 1) := by decide +kernel
theorem dX4_isWithin_0 : decode cX4_isWithin 0 = .ok (.iload_n 1, 1) := by decide +kernel
theorem dX4_isWithin_1 : decode cX4_isWithin 1 = .ok (.iload_n 0, 1) := by decide +kernel
theorem dX4_isWithin_2 : decode cX4_isWithin 2 = .ok (.invokestatic 10, 3) := by decide +kernel
theorem dX4_isWithin_5 : decode cX4_isWithin 5 = .ok (.sipush 30583, 3) := by decide +kernel
theorem dX4_isWithin_8 : decode cX4_isWithin 8 = .ok (.if_icmp .ne 7, 3) := by decide +kernel
theorem dX4_isWithin_11 : decode cX4_isWithin 11 = .ok (.iconst 1, 1) := by decide +kernel
theorem dX4_isWithin_12 : decode cX4_isWithin 12 = .ok (.goto 4, 3) := by decide +kernel
theorem dX4_isWithin_15 : decode cX4_isWithin 15 = .ok (.iconst 0, 1) := by decide +kernel
theorem dX4_isWithin_16 : decode cX4_isWithin 16 = .ok (.ireturn, 1) := by decide +kernel
theorem dX4_lesser_0 : decode cX4_lesser 0 = .ok (.iload_n 0, 1) := by decide +kernel
theorem dX4_lesser_1 : decode cX4_lesser 1 = .ok (.iload_n 1, 1) := by decide +kernel
theorem dX4_lesser_2 : decode cX4_lesser 2 = .ok (.invokestatic 10, 3) := by decide +kernel
theorem dX4_lesser_5 : decode cX4_lesser 5 = .ok (.istore_n 2, 1) := by decide +kernel
theorem dX4_lesser_6 : decode cX4_lesser 6 = .ok (.iload_n 1, 1) := by decide +kernel
theorem dX4_lesser_7 : decode cX4_lesser 7 = .ok (.iload_n 2, 1) := by decide +kernel
theorem dX4_lesser_8 : decode cX4_lesser 8 = .ok (.iand, 1) := by decide +kernel
theorem dX4_lesser_9 : decode cX4_lesser 9 = .ok (.iload_n 0, 1) := by decide +kernel
theorem dX4_lesser_10 : decode cX4_lesser 10 = .ok (.iload_n 2, 1) := by decide +kernel
theorem dX4_lesser_11 : decode cX4_lesser 11 = .ok (.iconst (-1), 1) := by decide +kernel
theorem dX4_lesser_12 : decode cX4_lesser 12 = .ok (.ixor, 1) := by decide +kernel
theorem dX4_lesser_13 : decode cX4_lesser 13 = .ok (.iand, 1) := by decide +kernel
theorem dX4_lesser_14 : decode cX4_lesser 14 = .ok (.ior, 1) := by decide +kernel
theorem dX4_lesser_15 : decode cX4_lesser 15 = .ok (.ireturn, 1) := by decide +kernel
theorem dX4_greater_0 : decode cX4_greater 0 = .ok (.iload_n 0, 1) := by decide +kernel
theorem dX4_greater_1 : decode cX4_greater 1 = .ok (.iload_n 1, 1) := by decide +kernel
theorem dX4_greater_2 : decode cX4_greater 2 = .ok (.invokestatic 10, 3) := by decide +kernel
theorem dX4_greater_5 : decode cX4_greater 5 = .ok (.istore_n 2, 1) := by decide +kernel
theorem dX4_greater_6 : decode cX4_greater 6 = .ok (.iload_n 0, 1) := by decide +kernel
theorem dX4_greater_7 : decode cX4_greater 7 = .ok (.iload_n 2, 1) := by decide +kernel
theorem dX4_greater_8 : decode cX4_greater 8 = .ok (.iand, 1) := by decide +kernel
theorem dX4_greater_9 : decode cX4_greater 9 = .ok (.iload_n 1, 1) := by decide +kernel
theorem dX4_greater_10 : decode cX4_greater 10 = .ok (.iload_n 2, 1) := by decide +kernel
theorem dX4_greater_11 : decode cX4_greater 11 = .ok (.iconst (-1), 1) := by decide +kernel
theorem dX4_greater_12 : decode cX4_greater 12 = .ok (.ixor, 1) := by decide +kernel
theorem dX4_greater_13 : decode cX4_greater 13 = .ok (.iand, 1) := by decide +kernel
theorem dX4_greater_14 : decode cX4_greater 14 = .ok (.ior, 1) := by decide +kernel
theorem dX4_greater_15 : decode cX4_greater 15 = .ok (.ireturn, 1) := by decide +kernel
theorem dX4_sum_0 : decode cX4_sum 0 = .ok (.iload_n 0, 1) := by decide +kernel
theorem dX4_sum_1 : decode cX4_sum 1 = .ok (.iconst 0, 1) := by decide +kernel
theorem dX4_sum_2 : decode cX4_sum 2 = .ok (.invokestatic 14, 3) := by decide +kernel
theorem dX4_sum_5 : decode cX4_sum 5 = .ok (.iload_n 0, 1) := by decide +kernel
theorem dX4_sum_6 : decode cX4_sum 6 = .ok (.iconst 1, 1) := by decide +kernel
theorem dX4_sum_7 : decode cX4_sum 7 = .ok (.invokestatic 14, 3) := by decide +kernel
theorem dX4_sum_10 : decode cX4_sum 10 = .ok (.iadd, 1) := by decide +kernel
theorem dX4_sum_11 : decode cX4_sum 11 = .ok (.iload_n 0, 1) := by decide +kernel
theorem dX4_sum_12 : decode cX4_sum 12 = .ok (.iconst 2, 1) := by decide +kernel
theorem dX4_sum_13 : decode cX4_sum 13 = .ok (.invokestatic 14, 3) := by decide +kernel
theorem dX4_sum_16 : decode cX4_sum 16 = .ok (.iadd, 1) := by decide +kernel
theorem dX4_sum_17 : decode cX4_sum 17 = .ok (.iload_n 0, 1) := by decide +kernel
theorem dX4_sum_18 : decode cX4_sum 18 = .ok (.iconst 3, 1) := by decide +kernel
theorem dX4_sum_19 : decode cX4_sum 19 = .ok (.invokestatic 14, 3) := by decide +kernel
theorem dX4_sum_22 : decode cX4_sum 22 = .ok (.iadd, 1) := by decide +kernel
theorem dX4_sum_23 : decode cX4_sum 23 = .ok (.ireturn, 1) := by decide +kernel
theorem dX4_decimal_0 : decode cX4_decimal 0 = .ok (.iload_n 0, 1) := by decide +kernel
theorem dX4_decimal_1 : decode cX4_decimal 1 = .ok (.iconst 3, 1) := by decide +kernel
theorem dX4_decimal_2 : decode cX4_decimal 2 = .ok (.invokestatic 14, 3) := by decide +kernel
theorem dX4_decimal_5 : decode cX4_decimal 5 = .ok (.bipush 10, 2) := by decide +kernel
theorem dX4_decimal_7 : decode cX4_decimal 7 = .ok (.imul, 1) := by decide +kernel
theorem dX4_decimal_8 : decode cX4_decimal 8 = .ok (.iload_n 0, 1) := by decide +kernel
theorem dX4_decimal_9 : decode cX4_decimal 9 = .ok (.iconst 2, 1) := by decide +kernel
theorem dX4_decimal_10 : decode cX4_decimal 10 = .ok (.invokestatic 14, 3) := by decide +kernel
theorem dX4_decimal_13 : decode cX4_decimal 13 = .ok (.iadd, 1) := by decide +kernel
theorem dX4_decimal_14 : decode cX4_decimal 14 = .ok (.bipush 10, 2) := by decide +kernel
theorem dX4_decimal_16 : decode cX4_decimal 16 = .ok (.imul, 1) := by decide +kernel
theorem dX4_decimal_17 : decode cX4_decimal 17 = .ok (.iload_n 0, 1) := by decide +kernel
theorem dX4_decimal_18 : decode cX4_decimal 18 = .ok (.iconst 1, 1) := by decide +kernel
theorem dX4_decimal_19 : decode cX4_decimal 19 = .ok (.invokestatic 14, 3) := by decide +kernel
theorem dX4_decimal_22 : decode cX4_decimal 22 = .ok (.iadd, 1) := by decide +kernel
theorem dX4_decimal_23 : decode cX4_decimal 23 = .ok (.bipush 10, 2) := by decide +kernel
theorem dX4_decimal_25 : decode cX4_decimal 25 = .ok (.imul, 1) := by decide +kernel
theorem dX4_decimal_26 : decode cX4_decimal 26 = .ok (.iload_n 0, 1) := by decide +kernel
theorem dX4_decimal_27 : decode cX4_decimal 27 = .ok (.iconst 0, 1) := by decide +kernel
theorem dX4_decimal_28 : decode cX4_decimal 28 = .ok (.invokestatic 14, 3) := by decide +kernel
theorem dX4_decimal_31 : decode cX4_decimal 31 = .ok (.iadd, 1) := by decide +kernel
theorem dX4_decimal_32 : decode cX4_decimal 32 = .ok (.ireturn, 1) := by decide +kernel
theorem dX4_slot_0 : decode cX4_slot 0 = .ok (.iload_n 0, 1) := by decide +kernel
theorem dX4_slot_1 : decode cX4_slot 1 = .ok (.bipush 12, 2) := by decide +kernel
theorem dX4_slot_3 : decode cX4_slot 3 = .ok (.ishr, 1) := by decide +kernel
theorem dX4_slot_4 : decode cX4_slot 4 = .ok (.bipush 7, 2) := by decide +kernel
theorem dX4_slot_6 : decode cX4_slot 6 = .ok (.iand, 1) := by decide +kernel
theorem dX4_slot_7 : decode cX4_slot 7 = .ok (.bipush 6, 2) := by decide +kernel
theorem dX4_slot_9 : decode cX4_slot 9 = .ok (.imul, 1) := by decide +kernel
theorem dX4_slot_10 : decode cX4_slot 10 = .ok (.iload_n 0, 1) := by decide +kernel
theorem dX4_slot_11 : decode cX4_slot 11 = .ok (.bipush 8, 2) := by decide +kernel
theorem dX4_slot_13 : decode cX4_slot 13 = .ok (.ishr, 1) := by decide +kernel
theorem dX4_slot_14 : decode cX4_slot 14 = .ok (.bipush 7, 2) := by decide +kernel
theorem dX4_slot_16 : decode cX4_slot 16 = .ok (.iand, 1) := by decide +kernel
theorem dX4_slot_17 : decode cX4_slot 17 = .ok (.iadd, 1) := by decide +kernel
theorem dX4_slot_18 : decode cX4_slot 18 = .ok (.bipush 6, 2) := by decide +kernel
theorem dX4_slot_20 : decode cX4_slot 20 = .ok (.imul, 1) := by decide +kernel
theorem dX4_slot_21 : decode cX4_slot 21 = .ok (.iload_n 0, 1) := by decide +kernel
theorem dX4_slot_22 : decode cX4_slot 22 = .ok (.iconst 4, 1) := by decide +kernel
theorem dX4_slot_23 : decode cX4_slot 23 = .ok (.ishr, 1) := by decide +kernel
theorem dX4_slot_24 : decode cX4_slot 24 = .ok (.bipush 7, 2) := by decide +kernel
theorem dX4_slot_26 : decode cX4_slot 26 = .ok (.iand, 1) := by decide +kernel
theorem dX4_slot_27 : decode cX4_slot 27 = .ok (.iadd, 1) := by decide +kernel
theorem dX4_slot_28 : decode cX4_slot 28 = .ok (.bipush 6, 2) := by decide +kernel
theorem dX4_slot_30 : decode cX4_slot 30 = .ok (.imul, 1) := by decide +kernel
theorem dX4_slot_31 : decode cX4_slot 31 = .ok (.iload_n 0, 1) := by decide +kernel
theorem dX4_slot_32 : decode cX4_slot 32 = .ok (.bipush 7, 2) := by decide +kernel
theorem dX4_slot_34 : decode cX4_slot 34 = .ok (.iand, 1) := by decide +kernel
theorem dX4_slot_35 : decode cX4_slot 35 = .ok (.iadd, 1) := by decide +kernel
theorem dX4_slot_36 : decode cX4_slot 36 = .ok (.ireturn, 1) := by decide +kernel
theorem dX5_init_0 : decode cX5_init 0 = .ok (.aload_n 0, 1) := by decide +kernel
theorem dX5_init_1 : decode cX5_init 1 = .ok (.invokespecial 3, 3) := by decide +kernel
theorem dX5_init_4 : decode cX5_init 4 = .ok (.aload_n 0, 1) := by decide +kernel
theorem dX5_init_5 : decode cX5_init 5 = .ok (.iconst 2, 1) := by decide +kernel
theorem dX5_init_6 : decode cX5_init 6 = .ok (.putfield 9, 3) := by decide +kernel
theorem dX5_init_9 : decode cX5_init 9 = .ok (.aload_n 0, 1) := by decide +kernel
theorem dX5_init_10 : decode cX5_init 10 = .ok (.iconst 0, 1) := by decide +kernel
theorem dX5_init_11 : decode cX5_init 11 = .ok (.putfield 15, 3) := by decide +kernel
theorem dX5_init_14 : decode cX5_init 14 = .ok (.aload_n 0, 1) := by decide +kernel
theorem dX5_init_15 : decode cX5_init 15 = .ok (.iconst 0, 1) := by decide +kernel
theorem dX5_init_16 : decode cX5_init 16 = .ok (.putfield 18, 3) := by decide +kernel
theorem dX5_init_19 : decode cX5_init 19 = .ok (.aload_n 0, 1) := by decide +kernel
theorem dX5_init_20 : decode cX5_init 20 = .ok (.iconst 4, 1) := by decide +kernel
theorem dX5_init_21 : decode cX5_init 21 = .ok (.newarray .int, 2) := by decide +kernel
theorem dX5_init_23 : decode cX5_init 23 = .ok (.putfield 21, 3) := by decide +kernel
theorem dX5_init_26 : decode cX5_init 26 = .ok (.aload_n 0, 1) := by decide +kernel
theorem dX5_init_27 : decode cX5_init 27 = .ok (.iconst 4, 1) := by decide +kernel
theorem dX5_init_28 : decode cX5_init 28 = .ok (.newarray .int, 2) := by decide +kernel
theorem dX5_init_30 : decode cX5_init 30 = .ok (.putfield 25, 3) := by decide +kernel
theorem dX5_init_33 : decode cX5_init 33 = .ok (.aload_n 0, 1) := by decide +kernel
theorem dX5_init_34 : decode cX5_init 34 = .ok (.bipush 20, 2) := by decide +kernel
theorem dX5_init_36 : decode cX5_init 36 = .ok (.newarray .int, 2) := by decide +kernel
theorem dX5_init_38 : decode cX5_init 38 = .ok (.putfield 28, 3) := by decide +kernel
theorem dX5_init_41 : decode cX5_init 41 = .ok (.aload_n 0, 1) := by decide +kernel
theorem dX5_init_42 : decode cX5_init 42 = .ok (.bipush 20, 2) := by decide +kernel
theorem dX5_init_44 : decode cX5_init 44 = .ok (.newarray .int, 2) := by decide +kernel
theorem dX5_init_46 : decode cX5_init 46 = .ok (.putfield 31, 3) := by decide +kernel
theorem dX5_init_49 : decode cX5_init 49 = .ok (.aload_n 0, 1) := by decide +kernel
theorem dX5_init_50 : decode cX5_init 50 = .ok (.bipush 20, 2) := by decide +kernel
theorem dX5_init_52 : decode cX5_init 52 = .ok (.newarray .int, 2) := by decide +kernel
theorem dX5_init_54 : decode cX5_init 54 = .ok (.putfield 34, 3) := by decide +kernel
theorem dX5_init_57 : decode cX5_init 57 = .ok (.aload_n 0, 1) := by decide +kernel
theorem dX5_init_58 : decode cX5_init 58 = .ok (.bipush 20, 2) := by decide +kernel
theorem dX5_init_60 : decode cX5_init 60 = .ok (.newarray .int, 2) := by decide +kernel
theorem dX5_init_62 : decode cX5_init 62 = .ok (.putfield 37, 3) := by decide +kernel
theorem dX5_init_65 : decode cX5_init 65 = .ok (.aload_n 0, 1) := by decide +kernel
theorem dX5_init_66 : decode cX5_init 66 = .ok (.bipush 20, 2) := by decide +kernel
theorem dX5_init_68 : decode cX5_init 68 = .ok (.newarray .int, 2) := by decide +kernel
theorem dX5_init_70 : decode cX5_init 70 = .ok (.putfield 40, 3) := by decide +kernel
theorem dX5_init_73 : decode cX5_init 73 = .ok (.aload_n 0, 1) := by decide +kernel
theorem dX5_init_74 : decode cX5_init 74 = .ok (.bipush 20, 2) := by decide +kernel
theorem dX5_init_76 : decode cX5_init 76 = .ok (.newarray .int, 2) := by decide +kernel
theorem dX5_init_78 : decode cX5_init 78 = .ok (.putfield 43, 3) := by decide +kernel
theorem dX5_init_81 : decode cX5_init 81 = .ok (.aload_n 0, 1) := by decide +kernel
theorem dX5_init_82 : decode cX5_init 82 = .ok (.bipush 8, 2) := by decide +kernel
theorem dX5_init_84 : decode cX5_init 84 = .ok (.newarray .int, 2) := by decide +kernel
theorem dX5_init_86 : decode cX5_init 86 = .ok (.putfield 46, 3) := by decide +kernel
theorem dX5_init_89 : decode cX5_init 89 = .ok (.aload_n 0, 1) := by decide +kernel
theorem dX5_init_90 : decode cX5_init 90 = .ok (.bipush 8, 2) := by decide +kernel
theorem dX5_init_92 : decode cX5_init 92 = .ok (.newarray .int, 2) := by decide +kernel
theorem dX5_init_94 : decode cX5_init 94 = .ok (.putfield 49, 3) := by decide +kernel
theorem dX5_init_97 : decode cX5_init 97 = .ok (.aload_n 0, 1) := by decide +kernel
theorem dX5_init_98 : decode cX5_init 98 = .ok (.bipush 8, 2) := by decide +kernel
theorem dX5_init_100 : decode cX5_init 100 = .ok (.newarray .int, 2) := by decide +kernel
theorem dX5_init_102 : decode cX5_init 102 = .ok (.putfield 52, 3) := by decide +kernel
theorem dX5_init_105 : decode cX5_init 105 = .ok (.aload_n 0, 1) := by decide +kernel
theorem dX5_init_106 : decode cX5_init 106 = .ok (.bipush 8, 2) := by decide +kernel
theorem dX5_init_108 : decode cX5_init 108 = .ok (.newarray .int, 2) := by decide +kernel
theorem dX5_init_110 : decode cX5_init 110 = .ok (.putfield 55, 3) := by decide +kernel
theorem dX5_init_113 : decode cX5_init 113 = .ok (.return_, 1) := by decide +kernel
theorem dX5_beginWith_0 : decode cX5_beginWith 0 = .ok (.aload_n 0, 1) := by decide +kernel
theorem dX5_beginWith_1 : decode cX5_beginWith 1 = .ok (.iload_n 1, 1) := by decide +kernel
theorem dX5_beginWith_2 : decode cX5_beginWith 2 = .ok (.putfield 9, 3) := by decide +kernel
theorem dX5_beginWith_5 : decode cX5_beginWith 5 = .ok (.aload_n 0, 1) := by decide +kernel
theorem dX5_beginWith_6 : decode cX5_beginWith 6 = .ok (.iconst 0, 1) := by decide +kernel
theorem dX5_beginWith_7 : decode cX5_beginWith 7 = .ok (.putfield 15, 3) := by decide +kernel
theorem dX5_beginWith_10 : decode cX5_beginWith 10 = .ok (.aload_n 0, 1) := by decide +kernel
theorem dX5_beginWith_11 : decode cX5_beginWith 11 = .ok (.iconst 0, 1) := by decide +kernel
theorem dX5_beginWith_12 : decode cX5_beginWith 12 = .ok (.putfield 18, 3) := by decide +kernel
theorem dX5_beginWith_15 : decode cX5_beginWith 15 = .ok (.aload_n 0, 1) := by decide +kernel
theorem dX5_beginWith_16 : decode cX5_beginWith 16 = .ok (.getfield 21, 3) := by decide +kernel
theorem dX5_beginWith_19 : decode cX5_beginWith 19 = .ok (.iconst 0, 1) := by decide +kernel
theorem dX5_beginWith_20 : decode cX5_beginWith 20 = .ok (.invokestatic 58, 3) := by decide +kernel
theorem dX5_beginWith_23 : decode cX5_beginWith 23 = .ok (.aload_n 0, 1) := by decide +kernel
theorem dX5_beginWith_24 : decode cX5_beginWith 24 = .ok (.getfield 25, 3) := by decide +kernel
theorem dX5_beginWith_27 : decode cX5_beginWith 27 = .ok (.iconst 0, 1) := by decide +kernel
theorem dX5_beginWith_28 : decode cX5_beginWith 28 = .ok (.invokestatic 58, 3) := by decide +kernel
theorem dX5_beginWith_31 : decode cX5_beginWith 31 = .ok (.return_, 1) := by decide +kernel
theorem dX5_copyFrom_0 : decode cX5_copyFrom 0 = .ok (.aload_n 0, 1) := by decide +kernel
theorem dX5_copyFrom_1 : decode cX5_copyFrom 1 = .ok (.aload_n 1, 1) := by decide +kernel
theorem dX5_copyFrom_2 : decode cX5_copyFrom 2 = .ok (.getfield 9, 3) := by decide +kernel
theorem dX5_copyFrom_5 : decode cX5_copyFrom 5 = .ok (.putfield 9, 3) := by decide +kernel
theorem dX5_copyFrom_8 : decode cX5_copyFrom 8 = .ok (.aload_n 0, 1) := by decide +kernel
theorem dX5_copyFrom_9 : decode cX5_copyFrom 9 = .ok (.aload_n 1, 1) := by decide +kernel
theorem dX5_copyFrom_10 : decode cX5_copyFrom 10 = .ok (.getfield 15, 3) := by decide +kernel
theorem dX5_copyFrom_13 : decode cX5_copyFrom 13 = .ok (.putfield 15, 3) := by decide +kernel
theorem dX5_copyFrom_16 : decode cX5_copyFrom 16 = .ok (.aload_n 0, 1) := by decide +kernel
theorem dX5_copyFrom_17 : decode cX5_copyFrom 17 = .ok (.aload_n 1, 1) := by decide +kernel
theorem dX5_copyFrom_18 : decode cX5_copyFrom 18 = .ok (.getfield 18, 3) := by decide +kernel
theorem dX5_copyFrom_21 : decode cX5_copyFrom 21 = .ok (.putfield 18, 3) := by decide +kernel
theorem dX5_copyFrom_24 : decode cX5_copyFrom 24 = .ok (.aload_n 1, 1) := by decide +kernel
theorem dX5_copyFrom_25 : decode cX5_copyFrom 25 = .ok (.getfield 21, 3) := by decide +kernel
theorem dX5_copyFrom_28 : decode cX5_copyFrom 28 = .ok (.iconst 0, 1) := by decide +kernel
theorem dX5_copyFrom_29 : decode cX5_copyFrom 29 = .ok (.aload_n 0, 1) := by decide +kernel
theorem dX5_copyFrom_30 : decode cX5_copyFrom 30 = .ok (.getfield 21, 3) := by decide +kernel
theorem dX5_copyFrom_33 : decode cX5_copyFrom 33 = .ok (.iconst 0, 1) := by decide +kernel
theorem dX5_copyFrom_34 : decode cX5_copyFrom 34 = .ok (.iconst 4, 1) := by decide +kernel
theorem dX5_copyFrom_35 : decode cX5_copyFrom 35 = .ok (.invokestatic 64, 3) := by decide +kernel
theorem dX5_copyFrom_38 : decode cX5_copyFrom 38 = .ok (.aload_n 1, 1) := by decide +kernel
theorem dX5_copyFrom_39 : decode cX5_copyFrom 39 = .ok (.getfield 25, 3) := by decide +kernel
theorem dX5_copyFrom_42 : decode cX5_copyFrom 42 = .ok (.iconst 0, 1) := by decide +kernel
theorem dX5_copyFrom_43 : decode cX5_copyFrom 43 = .ok (.aload_n 0, 1) := by decide +kernel
theorem dX5_copyFrom_44 : decode cX5_copyFrom 44 = .ok (.getfield 25, 3) := by decide +kernel
theorem dX5_copyFrom_47 : decode cX5_copyFrom 47 = .ok (.iconst 0, 1) := by decide +kernel
theorem dX5_copyFrom_48 : decode cX5_copyFrom 48 = .ok (.iconst 4, 1) := by decide +kernel
theorem dX5_copyFrom_49 : decode cX5_copyFrom 49 = .ok (.invokestatic 64, 3) := by decide +kernel
theorem dX5_copyFrom_52 : decode cX5_copyFrom 52 = .ok (.aload_n 1, 1) := by decide +kernel
theorem dX5_copyFrom_53 : decode cX5_copyFrom 53 = .ok (.getfield 28, 3) := by decide +kernel
theorem dX5_copyFrom_56 : decode cX5_copyFrom 56 = .ok (.iconst 0, 1) := by decide +kernel
theorem dX5_copyFrom_57 : decode cX5_copyFrom 57 = .ok (.aload_n 0, 1) := by decide +kernel
theorem dX5_copyFrom_58 : decode cX5_copyFrom 58 = .ok (.getfield 28, 3) := by decide +kernel
theorem dX5_copyFrom_61 : decode cX5_copyFrom 61 = .ok (.iconst 0, 1) := by decide +kernel
theorem dX5_copyFrom_62 : decode cX5_copyFrom 62 = .ok (.bipush 20, 2) := by decide +kernel
theorem dX5_copyFrom_64 : decode cX5_copyFrom 64 = .ok (.invokestatic 64, 3) := by decide +kernel
theorem dX5_copyFrom_67 : decode cX5_copyFrom 67 = .ok (.aload_n 1, 1) := by decide +kernel
theorem dX5_copyFrom_68 : decode cX5_copyFrom 68 = .ok (.getfield 31, 3) := by decide +kernel
theorem dX5_copyFrom_71 : decode cX5_copyFrom 71 = .ok (.iconst 0, 1) := by decide +kernel
theorem dX5_copyFrom_72 : decode cX5_copyFrom 72 = .ok (.aload_n 0, 1) := by decide +kernel
theorem dX5_copyFrom_73 : decode cX5_copyFrom 73 = .ok (.getfield 31, 3) := by decide +kernel
theorem dX5_copyFrom_76 : decode cX5_copyFrom 76 = .ok (.iconst 0, 1) := by decide +kernel
theorem dX5_copyFrom_77 : decode cX5_copyFrom 77 = .ok (.bipush 20, 2) := by decide +kernel
theorem dX5_copyFrom_79 : decode cX5_copyFrom 79 = .ok (.invokestatic 64, 3) := by decide +kernel
theorem dX5_copyFrom_82 : decode cX5_copyFrom 82 = .ok (.aload_n 1, 1) := by decide +kernel
theorem dX5_copyFrom_83 : decode cX5_copyFrom 83 = .ok (.getfield 34, 3) := by decide +kernel
theorem dX5_copyFrom_86 : decode cX5_copyFrom 86 = .ok (.iconst 0, 1) := by decide +kernel
theorem dX5_copyFrom_87 : decode cX5_copyFrom 87 = .ok (.aload_n 0, 1) := by decide +kernel
theorem dX5_copyFrom_88 : decode cX5_copyFrom 88 = .ok (.getfield 34, 3) := by decide +kernel
theorem dX5_copyFrom_91 : decode cX5_copyFrom 91 = .ok (.iconst 0, 1) := by decide +kernel
theorem dX5_copyFrom_92 : decode cX5_copyFrom 92 = .ok (.bipush 20, 2) := by decide +kernel
theorem dX5_copyFrom_94 : decode cX5_copyFrom 94 = .ok (.invokestatic 64, 3) := by decide +kernel
theorem dX5_copyFrom_97 : decode cX5_copyFrom 97 = .ok (.aload_n 1, 1) := by decide +kernel
theorem dX5_copyFrom_98 : decode cX5_copyFrom 98 = .ok (.getfield 37, 3) := by decide +kernel
theorem dX5_copyFrom_101 : decode cX5_copyFrom 101 = .ok (.iconst 0, 1) := by decide +kernel
theorem dX5_copyFrom_102 : decode cX5_copyFrom 102 = .ok (.aload_n 0, 1) := by decide +kernel
theorem dX5_copyFrom_103 : decode cX5_copyFrom 103 = .ok (.getfield 37, 3) := by decide +kernel
theorem dX5_copyFrom_106 : decode cX5_copyFrom 106 = .ok (.iconst 0, 1) := by decide +kernel
theorem dX5_copyFrom_107 : decode cX5_copyFrom 107 = .ok (.bipush 20, 2) := by decide +kernel
theorem dX5_copyFrom_109 : decode cX5_copyFrom 109 = .ok (.invokestatic 64, 3) := by decide +kernel
theorem dX5_copyFrom_112 : decode cX5_copyFrom 112 = .ok (.aload_n 1, 1) := by decide +kernel
theorem dX5_copyFrom_113 : decode cX5_copyFrom 113 = .ok (.getfield 40, 3) := by decide +kernel
theorem dX5_copyFrom_116 : decode cX5_copyFrom 116 = .ok (.iconst 0, 1) := by decide +kernel
theorem dX5_copyFrom_117 : decode cX5_copyFrom 117 = .ok (.aload_n 0, 1) := by decide +kernel
theorem dX5_copyFrom_118 : decode cX5_copyFrom 118 = .ok (.getfield 40, 3) := by decide +kernel
theorem dX5_copyFrom_121 : decode cX5_copyFrom 121 = .ok (.iconst 0, 1) := by decide +kernel
theorem dX5_copyFrom_122 : decode cX5_copyFrom 122 = .ok (.bipush 20, 2) := by decide +kernel
theorem dX5_copyFrom_124 : decode cX5_copyFrom 124 = .ok (.invokestatic 64, 3) := by decide +kernel
theorem dX5_copyFrom_127 : decode cX5_copyFrom 127 = .ok (.aload_n 1, 1) := by decide +kernel
theorem dX5_copyFrom_128 : decode cX5_copyFrom 128 = .ok (.getfield 43, 3) := by decide +kernel
theorem dX5_copyFrom_131 : decode cX5_copyFrom 131 = .ok (.iconst 0, 1) := by decide +kernel
theorem dX5_copyFrom_132 : decode cX5_copyFrom 132 = .ok (.aload_n 0, 1) := by decide +kernel
theorem dX5_copyFrom_133 : decode cX5_copyFrom 133 = .ok (.getfield 43, 3) := by decide +kernel
theorem dX5_copyFrom_136 : decode cX5_copyFrom 136 = .ok (.iconst 0, 1) := by decide +kernel
theorem dX5_copyFrom_137 : decode cX5_copyFrom 137 = .ok (.bipush 20, 2) := by decide +kernel
theorem dX5_copyFrom_139 : decode cX5_copyFrom 139 = .ok (.invokestatic 64, 3) := by decide +kernel
theorem dX5_copyFrom_142 : decode cX5_copyFrom 142 = .ok (.aload_n 1, 1) := by decide +kernel
theorem dX5_copyFrom_143 : decode cX5_copyFrom 143 = .ok (.getfield 46, 3) := by decide +kernel
theorem dX5_copyFrom_146 : decode cX5_copyFrom 146 = .ok (.iconst 0, 1) := by decide +kernel
theorem dX5_copyFrom_147 : decode cX5_copyFrom 147 = .ok (.aload_n 0, 1) := by decide +kernel
theorem dX5_copyFrom_148 : decode cX5_copyFrom 148 = .ok (.getfield 46, 3) := by decide +kernel
theorem dX5_copyFrom_151 : decode cX5_copyFrom 151 = .ok (.iconst 0, 1) := by decide +kernel
theorem dX5_copyFrom_152 : decode cX5_copyFrom 152 = .ok (.bipush 8, 2) := by decide +kernel
theorem dX5_copyFrom_154 : decode cX5_copyFrom 154 = .ok (.invokestatic 64, 3) := by decide +kernel
theorem dX5_copyFrom_157 : decode cX5_copyFrom 157 = .ok (.aload_n 1, 1) := by decide +kernel
theorem dX5_copyFrom_158 : decode cX5_copyFrom 158 = .ok (.getfield 49, 3) := by decide +kernel
theorem dX5_copyFrom_161 : decode cX5_copyFrom 161 = .ok (.iconst 0, 1) := by decide +kernel
theorem dX5_copyFrom_162 : decode cX5_copyFrom 162 = .ok (.aload_n 0, 1) := by decide +kernel
theorem dX5_copyFrom_163 : decode cX5_copyFrom 163 = .ok (.getfield 49, 3) := by decide +kernel
theorem dX5_copyFrom_166 : decode cX5_copyFrom 166 = .ok (.iconst 0, 1) := by decide +kernel
theorem dX5_copyFrom_167 : decode cX5_copyFrom 167 = .ok (.bipush 8, 2) := by decide +kernel
theorem dX5_copyFrom_169 : decode cX5_copyFrom 169 = .ok (.invokestatic 64, 3) := by decide +kernel
theorem dX5_copyFrom_172 : decode cX5_copyFrom 172 = .ok (.aload_n 1, 1) := by decide +kernel
theorem dX5_copyFrom_173 : decode cX5_copyFrom 173 = .ok (.getfield 52, 3) := by decide +kernel
theorem dX5_copyFrom_176 : decode cX5_copyFrom 176 = .ok (.iconst 0, 1) := by decide +kernel
theorem dX5_copyFrom_177 : decode cX5_copyFrom 177 = .ok (.aload_n 0, 1) := by decide +kernel
theorem dX5_copyFrom_178 : decode cX5_copyFrom 178 = .ok (.getfield 52, 3) := by decide +kernel
theorem dX5_copyFrom_181 : decode cX5_copyFrom 181 = .ok (.iconst 0, 1) := by decide +kernel
theorem dX5_copyFrom_182 : decode cX5_copyFrom 182 = .ok (.bipush 8, 2) := by decide +kernel
theorem dX5_copyFrom_184 : decode cX5_copyFrom 184 = .ok (.invokestatic 64, 3) := by decide +kernel
theorem dX5_copyFrom_187 : decode cX5_copyFrom 187 = .ok (.aload_n 1, 1) := by decide +kernel
theorem dX5_copyFrom_188 : decode cX5_copyFrom 188 = .ok (.getfield 55, 3) := by decide +kernel
theorem dX5_copyFrom_191 : decode cX5_copyFrom 191 = .ok (.iconst 0, 1) := by decide +kernel
theorem dX5_copyFrom_192 : decode cX5_copyFrom 192 = .ok (.aload_n 0, 1) := by decide +kernel
theorem dX5_copyFrom_193 : decode cX5_copyFrom 193 = .ok (.getfield 55, 3) := by decide +kernel
theorem dX5_copyFrom_196 : decode cX5_copyFrom 196 = .ok (.iconst 0, 1) := by decide +kernel
theorem dX5_copyFrom_197 : decode cX5_copyFrom 197 = .ok (.bipush 8, 2) := by decide +kernel
theorem dX5_copyFrom_199 : decode cX5_copyFrom 199 = .ok (.invokestatic 64, 3) := by decide +kernel
theorem dX5_copyFrom_202 : decode cX5_copyFrom 202 = .ok (.return_, 1) := by decide +kernel
theorem dX5_spotOf_0 : decode cX5_spotOf 0 = .ok (.iload_n 0, 1) := by decide +kernel
theorem dX5_spotOf_1 : decode cX5_spotOf 1 = .ok (.iconst 5, 1) := by decide +kernel
theorem dX5_spotOf_2 : decode cX5_spotOf 2 = .ok (.imul, 1) := by decide +kernel
theorem dX5_spotOf_3 : decode cX5_spotOf 3 = .ok (.iload_n 1, 1) := by decide +kernel
theorem dX5_spotOf_4 : decode cX5_spotOf 4 = .ok (.iadd, 1) := by decide +kernel
theorem dX5_spotOf_5 : decode cX5_spotOf 5 = .ok (.iconst 1, 1) := by decide +kernel
theorem dX5_spotOf_6 : decode cX5_spotOf 6 = .ok (.isub, 1) := by decide +kernel
theorem dX5_spotOf_7 : decode cX5_spotOf 7 = .ok (.ireturn, 1) := by decide +kernel
theorem dX5_placeOf_0 : decode cX5_placeOf 0 = .ok (.aload_n 0, 1) := by decide +kernel
theorem dX5_placeOf_1 : decode cX5_placeOf 1 = .ok (.getfield 9, 3) := by decide +kernel
theorem dX5_placeOf_4 : decode cX5_placeOf 4 = .ok (.iconst 1, 1) := by decide +kernel
theorem dX5_placeOf_5 : decode cX5_placeOf 5 = .ok (.isub, 1) := by decide +kernel
theorem dX5_placeOf_6 : decode cX5_placeOf 6 = .ok (.iload_n 1, 1) := by decide +kernel
theorem dX5_placeOf_7 : decode cX5_placeOf 7 = .ok (.isub, 1) := by decide +kernel
theorem dX5_placeOf_8 : decode cX5_placeOf 8 = .ok (.ireturn, 1) := by decide +kernel
theorem dX5_hasProcess_0 : decode cX5_hasProcess 0 = .ok (.iload_n 1, 1) := by decide +kernel
theorem dX5_hasProcess_1 : decode cX5_hasProcess 1 = .ok (.ifCond .lt 15, 3) := by decide +kernel
theorem dX5_hasProcess_4 : decode cX5_hasProcess 4 = .ok (.iload_n 1, 1) := by decide +kernel
theorem dX5_hasProcess_5 : decode cX5_hasProcess 5 = .ok (.aload_n 0, 1) := by decide +kernel
theorem dX5_hasProcess_6 : decode cX5_hasProcess 6 = .ok (.getfield 9, 3) := by decide +kernel
theorem dX5_hasProcess_9 : decode cX5_hasProcess 9 = .ok (.if_icmp .ge 7, 3) := by decide +kernel
theorem dX5_hasProcess_12 : decode cX5_hasProcess 12 = .ok (.iconst 1, 1) := by decide +kernel
theorem dX5_hasProcess_13 : decode cX5_hasProcess 13 = .ok (.goto 4, 3) := by decide +kernel
theorem dX5_hasProcess_16 : decode cX5_hasProcess 16 = .ok (.iconst 0, 1) := by decide +kernel
theorem dX5_hasProcess_17 : decode cX5_hasProcess 17 = .ok (.ireturn, 1) := by decide +kernel
theorem dX5_hasEvent_0 : decode cX5_hasEvent 0 = .ok (.aload_n 0, 1) := by decide +kernel
theorem dX5_hasEvent_1 : decode cX5_hasEvent 1 = .ok (.iload_n 1, 1) := by decide +kernel
theorem dX5_hasEvent_2 : decode cX5_hasEvent 2 = .ok (.invokevirtual 70, 3) := by decide +kernel
theorem dX5_hasEvent_5 : decode cX5_hasEvent 5 = .ok (.ifCond .eq 22, 3) := by decide +kernel
theorem dX5_hasEvent_8 : decode cX5_hasEvent 8 = .ok (.iload_n 2, 1) := by decide +kernel
theorem dX5_hasEvent_9 : decode cX5_hasEvent 9 = .ok (.iconst 1, 1) := by decide +kernel
theorem dX5_hasEvent_10 : decode cX5_hasEvent 10 = .ok (.if_icmp .lt 17, 3) := by decide +kernel
theorem dX5_hasEvent_13 : decode cX5_hasEvent 13 = .ok (.iload_n 2, 1) := by decide +kernel
theorem dX5_hasEvent_14 : decode cX5_hasEvent 14 = .ok (.aload_n 0, 1) := by decide +kernel
theorem dX5_hasEvent_15 : decode cX5_hasEvent 15 = .ok (.getfield 25, 3) := by decide +kernel
theorem dX5_hasEvent_18 : decode cX5_hasEvent 18 = .ok (.iload_n 1, 1) := by decide +kernel
theorem dX5_hasEvent_19 : decode cX5_hasEvent 19 = .ok (.iaload, 1) := by decide +kernel
theorem dX5_hasEvent_20 : decode cX5_hasEvent 20 = .ok (.if_icmp .gt 7, 3) := by decide +kernel
theorem dX5_hasEvent_23 : decode cX5_hasEvent 23 = .ok (.iconst 1, 1) := by decide +kernel
theorem dX5_hasEvent_24 : decode cX5_hasEvent 24 = .ok (.goto 4, 3) := by decide +kernel
theorem dX5_hasEvent_27 : decode cX5_hasEvent 27 = .ok (.iconst 0, 1) := by decide +kernel
theorem dX5_hasEvent_28 : decode cX5_hasEvent 28 = .ok (.ireturn, 1) := by decide +kernel
theorem dX5_hasMessage_0 : decode cX5_hasMessage 0 = .ok (.iload_n 1, 1) := by decide +kernel
theorem dX5_hasMessage_1 : decode cX5_hasMessage 1 = .ok (.ifCond .lt 15, 3) := by decide +kernel
theorem dX5_hasMessage_4 : decode cX5_hasMessage 4 = .ok (.iload_n 1, 1) := by decide +kernel
theorem dX5_hasMessage_5 : decode cX5_hasMessage 5 = .ok (.aload_n 0, 1) := by decide +kernel
theorem dX5_hasMessage_6 : decode cX5_hasMessage 6 = .ok (.getfield 18, 3) := by decide +kernel
theorem dX5_hasMessage_9 : decode cX5_hasMessage 9 = .ok (.if_icmp .ge 7, 3) := by decide +kernel
theorem dX5_hasMessage_12 : decode cX5_hasMessage 12 = .ok (.iconst 1, 1) := by decide +kernel
theorem dX5_hasMessage_13 : decode cX5_hasMessage 13 = .ok (.goto 4, 3) := by decide +kernel
theorem dX5_hasMessage_16 : decode cX5_hasMessage 16 = .ok (.iconst 0, 1) := by decide +kernel
theorem dX5_hasMessage_17 : decode cX5_hasMessage 17 = .ok (.ireturn, 1) := by decide +kernel
theorem dX5_isTaken_0 : decode cX5_isTaken 0 = .ok (.aload_n 0, 1) := by decide +kernel
theorem dX5_isTaken_1 : decode cX5_isTaken 1 = .ok (.getfield 52, 3) := by decide +kernel
theorem dX5_isTaken_4 : decode cX5_isTaken 4 = .ok (.iload_n 1, 1) := by decide +kernel
theorem dX5_isTaken_5 : decode cX5_isTaken 5 = .ok (.iaload, 1) := by decide +kernel
theorem dX5_isTaken_6 : decode cX5_isTaken 6 = .ok (.ifCond .lt 7, 3) := by decide +kernel
theorem dX5_isTaken_9 : decode cX5_isTaken 9 = .ok (.iconst 1, 1) := by decide +kernel
theorem dX5_isTaken_10 : decode cX5_isTaken 10 = .ok (.goto 4, 3) := by decide +kernel
theorem dX5_isTaken_13 : decode cX5_isTaken 13 = .ok (.iconst 0, 1) := by decide +kernel
theorem dX5_isTaken_14 : decode cX5_isTaken 14 = .ok (.ireturn, 1) := by decide +kernel
theorem dX5_isFullAt_0 : decode cX5_isFullAt 0 = .ok (.aload_n 0, 1) := by decide +kernel
theorem dX5_isFullAt_1 : decode cX5_isFullAt 1 = .ok (.getfield 25, 3) := by decide +kernel
theorem dX5_isFullAt_4 : decode cX5_isFullAt 4 = .ok (.iload_n 1, 1) := by decide +kernel
theorem dX5_isFullAt_5 : decode cX5_isFullAt 5 = .ok (.iaload, 1) := by decide +kernel
theorem dX5_isFullAt_6 : decode cX5_isFullAt 6 = .ok (.iconst 5, 1) := by decide +kernel
theorem dX5_isFullAt_7 : decode cX5_isFullAt 7 = .ok (.if_icmp .lt 7, 3) := by decide +kernel
theorem dX5_isFullAt_10 : decode cX5_isFullAt 10 = .ok (.iconst 1, 1) := by decide +kernel
theorem dX5_isFullAt_11 : decode cX5_isFullAt 11 = .ok (.goto 4, 3) := by decide +kernel
theorem dX5_isFullAt_14 : decode cX5_isFullAt 14 = .ok (.iconst 0, 1) := by decide +kernel
theorem dX5_isFullAt_15 : decode cX5_isFullAt 15 = .ok (.ireturn, 1) := by decide +kernel
theorem dX5_clockOf_0 : decode cX5_clockOf 0 = .ok (.aload_n 0, 1) := by decide +kernel
theorem dX5_clockOf_1 : decode cX5_clockOf 1 = .ok (.getfield 43, 3) := by decide +kernel
theorem dX5_clockOf_4 : decode cX5_clockOf 4 = .ok (.iload_n 1, 1) := by decide +kernel
theorem dX5_clockOf_5 : decode cX5_clockOf 5 = .ok (.iload_n 2, 1) := by decide +kernel
theorem dX5_clockOf_6 : decode cX5_clockOf 6 = .ok (.invokestatic 74, 3) := by decide +kernel
theorem dX5_clockOf_9 : decode cX5_clockOf 9 = .ok (.iaload, 1) := by decide +kernel
theorem dX5_clockOf_10 : decode cX5_clockOf 10 = .ok (.ireturn, 1) := by decide +kernel
theorem dX5_openMessage_0 : decode cX5_openMessage 0 = .ok (.aload_n 0, 1) := by decide +kernel
theorem dX5_openMessage_1 : decode cX5_openMessage 1 = .ok (.getfield 18, 3) := by decide +kernel
theorem dX5_openMessage_4 : decode cX5_openMessage 4 = .ok (.istore_n 2, 1) := by decide +kernel
theorem dX5_openMessage_5 : decode cX5_openMessage 5 = .ok (.aload_n 0, 1) := by decide +kernel
theorem dX5_openMessage_6 : decode cX5_openMessage 6 = .ok (.getfield 46, 3) := by decide +kernel
theorem dX5_openMessage_9 : decode cX5_openMessage 9 = .ok (.iload_n 2, 1) := by decide +kernel
theorem dX5_openMessage_10 : decode cX5_openMessage 10 = .ok (.iload_n 1, 1) := by decide +kernel
theorem dX5_openMessage_11 : decode cX5_openMessage 11 = .ok (.iastore, 1) := by decide +kernel
theorem dX5_openMessage_12 : decode cX5_openMessage 12 = .ok (.aload_n 0, 1) := by decide +kernel
theorem dX5_openMessage_13 : decode cX5_openMessage 13 = .ok (.getfield 49, 3) := by decide +kernel
theorem dX5_openMessage_16 : decode cX5_openMessage 16 = .ok (.iload_n 2, 1) := by decide +kernel
theorem dX5_openMessage_17 : decode cX5_openMessage 17 = .ok (.aload_n 0, 1) := by decide +kernel
theorem dX5_openMessage_18 : decode cX5_openMessage 18 = .ok (.getfield 25, 3) := by decide +kernel
theorem dX5_openMessage_21 : decode cX5_openMessage 21 = .ok (.iload_n 1, 1) := by decide +kernel
theorem dX5_openMessage_22 : decode cX5_openMessage 22 = .ok (.iaload, 1) := by decide +kernel
theorem dX5_openMessage_23 : decode cX5_openMessage 23 = .ok (.iconst 1, 1) := by decide +kernel
theorem dX5_openMessage_24 : decode cX5_openMessage 24 = .ok (.iadd, 1) := by decide +kernel
theorem dX5_openMessage_25 : decode cX5_openMessage 25 = .ok (.iastore, 1) := by decide +kernel
theorem dX5_openMessage_26 : decode cX5_openMessage 26 = .ok (.aload_n 0, 1) := by decide +kernel
theorem dX5_openMessage_27 : decode cX5_openMessage 27 = .ok (.getfield 52, 3) := by decide +kernel
theorem dX5_openMessage_30 : decode cX5_openMessage 30 = .ok (.iload_n 2, 1) := by decide +kernel
theorem dX5_openMessage_31 : decode cX5_openMessage 31 = .ok (.bipush (-5), 2) := by decide +kernel
theorem dX5_openMessage_33 : decode cX5_openMessage 33 = .ok (.iastore, 1) := by decide +kernel
theorem dX5_openMessage_34 : decode cX5_openMessage 34 = .ok (.aload_n 0, 1) := by decide +kernel
theorem dX5_openMessage_35 : decode cX5_openMessage 35 = .ok (.getfield 55, 3) := by decide +kernel
theorem dX5_openMessage_38 : decode cX5_openMessage 38 = .ok (.iload_n 2, 1) := by decide +kernel
theorem dX5_openMessage_39 : decode cX5_openMessage 39 = .ok (.bipush (-5), 2) := by decide +kernel
theorem dX5_openMessage_41 : decode cX5_openMessage 41 = .ok (.iastore, 1) := by decide +kernel
theorem dX5_openMessage_42 : decode cX5_openMessage 42 = .ok (.aload_n 0, 1) := by decide +kernel
theorem dX5_openMessage_43 : decode cX5_openMessage 43 = .ok (.dup, 1) := by decide +kernel
theorem dX5_openMessage_44 : decode cX5_openMessage 44 = .ok (.getfield 18, 3) := by decide +kernel
theorem dX5_openMessage_47 : decode cX5_openMessage 47 = .ok (.iconst 1, 1) := by decide +kernel
theorem dX5_openMessage_48 : decode cX5_openMessage 48 = .ok (.iadd, 1) := by decide +kernel
theorem dX5_openMessage_49 : decode cX5_openMessage 49 = .ok (.putfield 18, 3) := by decide +kernel
theorem dX5_openMessage_52 : decode cX5_openMessage 52 = .ok (.iload_n 2, 1) := by decide +kernel
theorem dX5_openMessage_53 : decode cX5_openMessage 53 = .ok (.ireturn, 1) := by decide +kernel
theorem dX5_closeMessage_0 : decode cX5_closeMessage 0 = .ok (.aload_n 0, 1) := by decide +kernel
theorem dX5_closeMessage_1 : decode cX5_closeMessage 1 = .ok (.getfield 52, 3) := by decide +kernel
theorem dX5_closeMessage_4 : decode cX5_closeMessage 4 = .ok (.iload_n 1, 1) := by decide +kernel
theorem dX5_closeMessage_5 : decode cX5_closeMessage 5 = .ok (.iload_n 2, 1) := by decide +kernel
theorem dX5_closeMessage_6 : decode cX5_closeMessage 6 = .ok (.iastore, 1) := by decide +kernel
theorem dX5_closeMessage_7 : decode cX5_closeMessage 7 = .ok (.aload_n 0, 1) := by decide +kernel
theorem dX5_closeMessage_8 : decode cX5_closeMessage 8 = .ok (.getfield 55, 3) := by decide +kernel
theorem dX5_closeMessage_11 : decode cX5_closeMessage 11 = .ok (.iload_n 1, 1) := by decide +kernel
theorem dX5_closeMessage_12 : decode cX5_closeMessage 12 = .ok (.aload_n 0, 1) := by decide +kernel
theorem dX5_closeMessage_13 : decode cX5_closeMessage 13 = .ok (.getfield 25, 3) := by decide +kernel
theorem dX5_closeMessage_16 : decode cX5_closeMessage 16 = .ok (.iload_n 2, 1) := by decide +kernel
theorem dX5_closeMessage_17 : decode cX5_closeMessage 17 = .ok (.iaload, 1) := by decide +kernel
theorem dX5_closeMessage_18 : decode cX5_closeMessage 18 = .ok (.iastore, 1) := by decide +kernel
theorem dX5_closeMessage_19 : decode cX5_closeMessage 19 = .ok (.return_, 1) := by decide +kernel
theorem dX5_append_0 : decode cX5_append 0 = .ok (.aload_n 0, 1) := by decide +kernel
theorem dX5_append_1 : decode cX5_append 1 = .ok (.getfield 25, 3) := by decide +kernel
theorem dX5_append_4 : decode cX5_append 4 = .ok (.iload_n 1, 1) := by decide +kernel
theorem dX5_append_5 : decode cX5_append 5 = .ok (.iaload, 1) := by decide +kernel
theorem dX5_append_6 : decode cX5_append 6 = .ok (.iconst 1, 1) := by decide +kernel
theorem dX5_append_7 : decode cX5_append 7 = .ok (.iadd, 1) := by decide +kernel
theorem dX5_append_8 : decode cX5_append 8 = .ok (.istore 5, 2) := by decide +kernel
theorem dX5_append_10 : decode cX5_append 10 = .ok (.iload_n 1, 1) := by decide +kernel
theorem dX5_append_11 : decode cX5_append 11 = .ok (.iload 5, 2) := by decide +kernel
theorem dX5_append_13 : decode cX5_append 13 = .ok (.invokestatic 74, 3) := by decide +kernel
theorem dX5_append_16 : decode cX5_append 16 = .ok (.istore 6, 2) := by decide +kernel
theorem dX5_append_18 : decode cX5_append 18 = .ok (.iload 5, 2) := by decide +kernel
theorem dX5_append_20 : decode cX5_append 20 = .ok (.iconst 1, 1) := by decide +kernel
theorem dX5_append_21 : decode cX5_append 21 = .ok (.if_icmp .ne 7, 3) := by decide +kernel
theorem dX5_append_24 : decode cX5_append 24 = .ok (.iconst 0, 1) := by decide +kernel
theorem dX5_append_25 : decode cX5_append 25 = .ok (.goto 12, 3) := by decide +kernel
theorem dX5_append_28 : decode cX5_append 28 = .ok (.aload_n 0, 1) := by decide +kernel
theorem dX5_append_29 : decode cX5_append 29 = .ok (.getfield 43, 3) := by decide +kernel
theorem dX5_append_32 : decode cX5_append 32 = .ok (.iload 6, 2) := by decide +kernel
theorem dX5_append_34 : decode cX5_append 34 = .ok (.iconst 1, 1) := by decide +kernel
theorem dX5_append_35 : decode cX5_append 35 = .ok (.isub, 1) := by decide +kernel
theorem dX5_append_36 : decode cX5_append 36 = .ok (.iaload, 1) := by decide +kernel
theorem dX5_append_37 : decode cX5_append 37 = .ok (.istore 7, 2) := by decide +kernel
theorem dX5_append_39 : decode cX5_append 39 = .ok (.iload_n 2, 1) := by decide +kernel
theorem dX5_append_40 : decode cX5_append 40 = .ok (.iconst 2, 1) := by decide +kernel
theorem dX5_append_41 : decode cX5_append 41 = .ok (.if_icmp .ne 26, 3) := by decide +kernel
theorem dX5_append_44 : decode cX5_append 44 = .ok (.iload 7, 2) := by decide +kernel
theorem dX5_append_46 : decode cX5_append 46 = .ok (.aload_n 0, 1) := by decide +kernel
theorem dX5_append_47 : decode cX5_append 47 = .ok (.aload_n 0, 1) := by decide +kernel
theorem dX5_append_48 : decode cX5_append 48 = .ok (.getfield 46, 3) := by decide +kernel
theorem dX5_append_51 : decode cX5_append 51 = .ok (.iload_n 3, 1) := by decide +kernel
theorem dX5_append_52 : decode cX5_append 52 = .ok (.iaload, 1) := by decide +kernel
theorem dX5_append_53 : decode cX5_append 53 = .ok (.aload_n 0, 1) := by decide +kernel
theorem dX5_append_54 : decode cX5_append 54 = .ok (.getfield 49, 3) := by decide +kernel
theorem dX5_append_57 : decode cX5_append 57 = .ok (.iload_n 3, 1) := by decide +kernel
theorem dX5_append_58 : decode cX5_append 58 = .ok (.iaload, 1) := by decide +kernel
theorem dX5_append_59 : decode cX5_append 59 = .ok (.invokevirtual 78, 3) := by decide +kernel
theorem dX5_append_62 : decode cX5_append 62 = .ok (.invokestatic 81, 3) := by decide +kernel
theorem dX5_append_65 : decode cX5_append 65 = .ok (.istore 7, 2) := by decide +kernel
theorem dX5_append_67 : decode cX5_append 67 = .ok (.aload_n 0, 1) := by decide +kernel
theorem dX5_append_68 : decode cX5_append 68 = .ok (.getfield 43, 3) := by decide +kernel
theorem dX5_append_71 : decode cX5_append 71 = .ok (.iload 6, 2) := by decide +kernel
theorem dX5_append_73 : decode cX5_append 73 = .ok (.iload 7, 2) := by decide +kernel
theorem dX5_append_75 : decode cX5_append 75 = .ok (.aload_n 0, 1) := by decide +kernel
theorem dX5_append_76 : decode cX5_append 76 = .ok (.iload_n 1, 1) := by decide +kernel
theorem dX5_append_77 : decode cX5_append 77 = .ok (.invokevirtual 86, 3) := by decide +kernel
theorem dX5_append_80 : decode cX5_append 80 = .ok (.invokestatic 90, 3) := by decide +kernel
theorem dX5_append_83 : decode cX5_append 83 = .ok (.iadd, 1) := by decide +kernel
theorem dX5_append_84 : decode cX5_append 84 = .ok (.iastore, 1) := by decide +kernel
theorem dX5_append_85 : decode cX5_append 85 = .ok (.aload_n 0, 1) := by decide +kernel
theorem dX5_append_86 : decode cX5_append 86 = .ok (.getfield 31, 3) := by decide +kernel
theorem dX5_append_89 : decode cX5_append 89 = .ok (.iload 6, 2) := by decide +kernel
theorem dX5_append_91 : decode cX5_append 91 = .ok (.iload_n 2, 1) := by decide +kernel
theorem dX5_append_92 : decode cX5_append 92 = .ok (.iastore, 1) := by decide +kernel
theorem dX5_append_93 : decode cX5_append 93 = .ok (.aload_n 0, 1) := by decide +kernel
theorem dX5_append_94 : decode cX5_append 94 = .ok (.getfield 34, 3) := by decide +kernel
theorem dX5_append_97 : decode cX5_append 97 = .ok (.iload 6, 2) := by decide +kernel
theorem dX5_append_99 : decode cX5_append 99 = .ok (.iload 4, 2) := by decide +kernel
theorem dX5_append_101 : decode cX5_append 101 = .ok (.iastore, 1) := by decide +kernel
theorem dX5_append_102 : decode cX5_append 102 = .ok (.aload_n 0, 1) := by decide +kernel
theorem dX5_append_103 : decode cX5_append 103 = .ok (.getfield 37, 3) := by decide +kernel
theorem dX5_append_106 : decode cX5_append 106 = .ok (.iload 6, 2) := by decide +kernel
theorem dX5_append_108 : decode cX5_append 108 = .ok (.iload_n 3, 1) := by decide +kernel
theorem dX5_append_109 : decode cX5_append 109 = .ok (.iastore, 1) := by decide +kernel
theorem dX5_append_110 : decode cX5_append 110 = .ok (.aload_n 0, 1) := by decide +kernel
theorem dX5_append_111 : decode cX5_append 111 = .ok (.getfield 40, 3) := by decide +kernel
theorem dX5_append_114 : decode cX5_append 114 = .ok (.iload 6, 2) := by decide +kernel
theorem dX5_append_116 : decode cX5_append 116 = .ok (.iconst 0, 1) := by decide +kernel
theorem dX5_append_117 : decode cX5_append 117 = .ok (.iastore, 1) := by decide +kernel
theorem dX5_append_118 : decode cX5_append 118 = .ok (.aload_n 0, 1) := by decide +kernel
theorem dX5_append_119 : decode cX5_append 119 = .ok (.getfield 28, 3) := by decide +kernel
theorem dX5_append_122 : decode cX5_append 122 = .ok (.aload_n 0, 1) := by decide +kernel
theorem dX5_append_123 : decode cX5_append 123 = .ok (.getfield 15, 3) := by decide +kernel
theorem dX5_append_126 : decode cX5_append 126 = .ok (.iload_n 1, 1) := by decide +kernel
theorem dX5_append_127 : decode cX5_append 127 = .ok (.iastore, 1) := by decide +kernel
theorem dX5_append_128 : decode cX5_append 128 = .ok (.aload_n 0, 1) := by decide +kernel
theorem dX5_append_129 : decode cX5_append 129 = .ok (.dup, 1) := by decide +kernel
theorem dX5_append_130 : decode cX5_append 130 = .ok (.getfield 15, 3) := by decide +kernel
theorem dX5_append_133 : decode cX5_append 133 = .ok (.iconst 1, 1) := by decide +kernel
theorem dX5_append_134 : decode cX5_append 134 = .ok (.iadd, 1) := by decide +kernel
theorem dX5_append_135 : decode cX5_append 135 = .ok (.putfield 15, 3) := by decide +kernel
theorem dX5_append_138 : decode cX5_append 138 = .ok (.aload_n 0, 1) := by decide +kernel
theorem dX5_append_139 : decode cX5_append 139 = .ok (.getfield 25, 3) := by decide +kernel
theorem dX5_append_142 : decode cX5_append 142 = .ok (.iload_n 1, 1) := by decide +kernel
theorem dX5_append_143 : decode cX5_append 143 = .ok (.iload 5, 2) := by decide +kernel
theorem dX5_append_145 : decode cX5_append 145 = .ok (.iastore, 1) := by decide +kernel
theorem dX5_append_146 : decode cX5_append 146 = .ok (.return_, 1) := by decide +kernel
theorem dX5_removeLast_0 : decode cX5_removeLast 0 = .ok (.aload_n 0, 1) := by decide +kernel
theorem dX5_removeLast_1 : decode cX5_removeLast 1 = .ok (.dup, 1) := by decide +kernel
theorem dX5_removeLast_2 : decode cX5_removeLast 2 = .ok (.getfield 15, 3) := by decide +kernel
theorem dX5_removeLast_5 : decode cX5_removeLast 5 = .ok (.iconst 1, 1) := by decide +kernel
theorem dX5_removeLast_6 : decode cX5_removeLast 6 = .ok (.isub, 1) := by decide +kernel
theorem dX5_removeLast_7 : decode cX5_removeLast 7 = .ok (.putfield 15, 3) := by decide +kernel
theorem dX5_removeLast_10 : decode cX5_removeLast 10 = .ok (.aload_n 0, 1) := by decide +kernel
theorem dX5_removeLast_11 : decode cX5_removeLast 11 = .ok (.getfield 28, 3) := by decide +kernel
theorem dX5_removeLast_14 : decode cX5_removeLast 14 = .ok (.aload_n 0, 1) := by decide +kernel
theorem dX5_removeLast_15 : decode cX5_removeLast 15 = .ok (.getfield 15, 3) := by decide +kernel
theorem dX5_removeLast_18 : decode cX5_removeLast 18 = .ok (.iaload, 1) := by decide +kernel
theorem dX5_removeLast_19 : decode cX5_removeLast 19 = .ok (.istore_n 1, 1) := by decide +kernel
theorem dX5_removeLast_20 : decode cX5_removeLast 20 = .ok (.iload_n 1, 1) := by decide +kernel
theorem dX5_removeLast_21 : decode cX5_removeLast 21 = .ok (.aload_n 0, 1) := by decide +kernel
theorem dX5_removeLast_22 : decode cX5_removeLast 22 = .ok (.getfield 25, 3) := by decide +kernel
theorem dX5_removeLast_25 : decode cX5_removeLast 25 = .ok (.iload_n 1, 1) := by decide +kernel
theorem dX5_removeLast_26 : decode cX5_removeLast 26 = .ok (.iaload, 1) := by decide +kernel
theorem dX5_removeLast_27 : decode cX5_removeLast 27 = .ok (.invokestatic 74, 3) := by decide +kernel
theorem dX5_removeLast_30 : decode cX5_removeLast 30 = .ok (.istore_n 2, 1) := by decide +kernel
theorem dX5_removeLast_31 : decode cX5_removeLast 31 = .ok (.aload_n 0, 1) := by decide +kernel
theorem dX5_removeLast_32 : decode cX5_removeLast 32 = .ok (.getfield 31, 3) := by decide +kernel
theorem dX5_removeLast_35 : decode cX5_removeLast 35 = .ok (.iload_n 2, 1) := by decide +kernel
theorem dX5_removeLast_36 : decode cX5_removeLast 36 = .ok (.iaload, 1) := by decide +kernel
theorem dX5_removeLast_37 : decode cX5_removeLast 37 = .ok (.iconst 1, 1) := by decide +kernel
theorem dX5_removeLast_38 : decode cX5_removeLast 38 = .ok (.if_icmp .ne 13, 3) := by decide +kernel
theorem dX5_removeLast_41 : decode cX5_removeLast 41 = .ok (.aload_n 0, 1) := by decide +kernel
theorem dX5_removeLast_42 : decode cX5_removeLast 42 = .ok (.dup, 1) := by decide +kernel
theorem dX5_removeLast_43 : decode cX5_removeLast 43 = .ok (.getfield 18, 3) := by decide +kernel
theorem dX5_removeLast_46 : decode cX5_removeLast 46 = .ok (.iconst 1, 1) := by decide +kernel
theorem dX5_removeLast_47 : decode cX5_removeLast 47 = .ok (.isub, 1) := by decide +kernel
theorem dX5_removeLast_48 : decode cX5_removeLast 48 = .ok (.putfield 18, 3) := by decide +kernel
theorem dX5_removeLast_51 : decode cX5_removeLast 51 = .ok (.aload_n 0, 1) := by decide +kernel
theorem dX5_removeLast_52 : decode cX5_removeLast 52 = .ok (.getfield 31, 3) := by decide +kernel
theorem dX5_removeLast_55 : decode cX5_removeLast 55 = .ok (.iload_n 2, 1) := by decide +kernel
theorem dX5_removeLast_56 : decode cX5_removeLast 56 = .ok (.iaload, 1) := by decide +kernel
theorem dX5_removeLast_57 : decode cX5_removeLast 57 = .ok (.iconst 2, 1) := by decide +kernel
theorem dX5_removeLast_58 : decode cX5_removeLast 58 = .ok (.if_icmp .ne 29, 3) := by decide +kernel
theorem dX5_removeLast_61 : decode cX5_removeLast 61 = .ok (.aload_n 0, 1) := by decide +kernel
theorem dX5_removeLast_62 : decode cX5_removeLast 62 = .ok (.getfield 52, 3) := by decide +kernel
theorem dX5_removeLast_65 : decode cX5_removeLast 65 = .ok (.aload_n 0, 1) := by decide +kernel
theorem dX5_removeLast_66 : decode cX5_removeLast 66 = .ok (.getfield 37, 3) := by decide +kernel
theorem dX5_removeLast_69 : decode cX5_removeLast 69 = .ok (.iload_n 2, 1) := by decide +kernel
theorem dX5_removeLast_70 : decode cX5_removeLast 70 = .ok (.iaload, 1) := by decide +kernel
theorem dX5_removeLast_71 : decode cX5_removeLast 71 = .ok (.bipush (-5), 2) := by decide +kernel
theorem dX5_removeLast_73 : decode cX5_removeLast 73 = .ok (.iastore, 1) := by decide +kernel
theorem dX5_removeLast_74 : decode cX5_removeLast 74 = .ok (.aload_n 0, 1) := by decide +kernel
theorem dX5_removeLast_75 : decode cX5_removeLast 75 = .ok (.getfield 55, 3) := by decide +kernel
theorem dX5_removeLast_78 : decode cX5_removeLast 78 = .ok (.aload_n 0, 1) := by decide +kernel
theorem dX5_removeLast_79 : decode cX5_removeLast 79 = .ok (.getfield 37, 3) := by decide +kernel
theorem dX5_removeLast_82 : decode cX5_removeLast 82 = .ok (.iload_n 2, 1) := by decide +kernel
theorem dX5_removeLast_83 : decode cX5_removeLast 83 = .ok (.iaload, 1) := by decide +kernel
theorem dX5_removeLast_84 : decode cX5_removeLast 84 = .ok (.bipush (-5), 2) := by decide +kernel
theorem dX5_removeLast_86 : decode cX5_removeLast 86 = .ok (.iastore, 1) := by decide +kernel
theorem dX5_removeLast_87 : decode cX5_removeLast 87 = .ok (.aload_n 0, 1) := by decide +kernel
theorem dX5_removeLast_88 : decode cX5_removeLast 88 = .ok (.getfield 25, 3) := by decide +kernel
theorem dX5_removeLast_91 : decode cX5_removeLast 91 = .ok (.iload_n 1, 1) := by decide +kernel
theorem dX5_removeLast_92 : decode cX5_removeLast 92 = .ok (.dup2, 1) := by decide +kernel
theorem dX5_removeLast_93 : decode cX5_removeLast 93 = .ok (.iaload, 1) := by decide +kernel
theorem dX5_removeLast_94 : decode cX5_removeLast 94 = .ok (.iconst 1, 1) := by decide +kernel
theorem dX5_removeLast_95 : decode cX5_removeLast 95 = .ok (.isub, 1) := by decide +kernel
theorem dX5_removeLast_96 : decode cX5_removeLast 96 = .ok (.iastore, 1) := by decide +kernel
theorem dX5_removeLast_97 : decode cX5_removeLast 97 = .ok (.return_, 1) := by decide +kernel
theorem dX5_marksInAll_0 : decode cX5_marksInAll 0 = .ok (.iconst 0, 1) := by decide +kernel
theorem dX5_marksInAll_1 : decode cX5_marksInAll 1 = .ok (.istore_n 1, 1) := by decide +kernel
theorem dX5_marksInAll_2 : decode cX5_marksInAll 2 = .ok (.iconst 0, 1) := by decide +kernel
theorem dX5_marksInAll_3 : decode cX5_marksInAll 3 = .ok (.istore_n 2, 1) := by decide +kernel
theorem dX5_marksInAll_4 : decode cX5_marksInAll 4 = .ok (.iload_n 2, 1) := by decide +kernel
theorem dX5_marksInAll_5 : decode cX5_marksInAll 5 = .ok (.aload_n 0, 1) := by decide +kernel
theorem dX5_marksInAll_6 : decode cX5_marksInAll 6 = .ok (.getfield 9, 3) := by decide +kernel
theorem dX5_marksInAll_9 : decode cX5_marksInAll 9 = .ok (.if_icmp .ge 40, 3) := by decide +kernel
theorem dX5_marksInAll_12 : decode cX5_marksInAll 12 = .ok (.iconst 1, 1) := by decide +kernel
theorem dX5_marksInAll_13 : decode cX5_marksInAll 13 = .ok (.istore_n 3, 1) := by decide +kernel
theorem dX5_marksInAll_14 : decode cX5_marksInAll 14 = .ok (.iload_n 3, 1) := by decide +kernel
theorem dX5_marksInAll_15 : decode cX5_marksInAll 15 = .ok (.aload_n 0, 1) := by decide +kernel
theorem dX5_marksInAll_16 : decode cX5_marksInAll 16 = .ok (.getfield 25, 3) := by decide +kernel
theorem dX5_marksInAll_19 : decode cX5_marksInAll 19 = .ok (.iload_n 2, 1) := by decide +kernel
theorem dX5_marksInAll_20 : decode cX5_marksInAll 20 = .ok (.iaload, 1) := by decide +kernel
theorem dX5_marksInAll_21 : decode cX5_marksInAll 21 = .ok (.if_icmp .gt 22, 3) := by decide +kernel
theorem dX5_marksInAll_24 : decode cX5_marksInAll 24 = .ok (.iload_n 1, 1) := by decide +kernel
theorem dX5_marksInAll_25 : decode cX5_marksInAll 25 = .ok (.aload_n 0, 1) := by decide +kernel
theorem dX5_marksInAll_26 : decode cX5_marksInAll 26 = .ok (.getfield 40, 3) := by decide +kernel
theorem dX5_marksInAll_29 : decode cX5_marksInAll 29 = .ok (.iload_n 2, 1) := by decide +kernel
theorem dX5_marksInAll_30 : decode cX5_marksInAll 30 = .ok (.iload_n 3, 1) := by decide +kernel
theorem dX5_marksInAll_31 : decode cX5_marksInAll 31 = .ok (.invokestatic 74, 3) := by decide +kernel
theorem dX5_marksInAll_34 : decode cX5_marksInAll 34 = .ok (.iaload, 1) := by decide +kernel
theorem dX5_marksInAll_35 : decode cX5_marksInAll 35 = .ok (.iadd, 1) := by decide +kernel
theorem dX5_marksInAll_36 : decode cX5_marksInAll 36 = .ok (.istore_n 1, 1) := by decide +kernel
theorem dX5_marksInAll_37 : decode cX5_marksInAll 37 = .ok (.iinc 3 1, 3) := by decide +kernel
theorem dX5_marksInAll_40 : decode cX5_marksInAll 40 = .ok (.goto (-26), 3) := by decide +kernel
theorem dX5_marksInAll_43 : decode cX5_marksInAll 43 = .ok (.iinc 2 1, 3) := by decide +kernel
theorem dX5_marksInAll_46 : decode cX5_marksInAll 46 = .ok (.goto (-42), 3) := by decide +kernel
theorem dX5_marksInAll_49 : decode cX5_marksInAll 49 = .ok (.iload_n 1, 1) := by decide +kernel
theorem dX5_marksInAll_50 : decode cX5_marksInAll 50 = .ok (.ireturn, 1) := by decide +kernel
theorem dX5_rowOfDigits_0 : decode cX5_rowOfDigits 0 = .ok (.iload_n 1, 1) := by decide +kernel
theorem dX5_rowOfDigits_1 : decode cX5_rowOfDigits 1 = .ok (.ifCond .ge 5, 3) := by decide +kernel
theorem dX5_rowOfDigits_4 : decode cX5_rowOfDigits 4 = .ok (.iconst (-1), 1) := by decide +kernel
theorem dX5_rowOfDigits_5 : decode cX5_rowOfDigits 5 = .ok (.ireturn, 1) := by decide +kernel
theorem dX5_rowOfDigits_6 : decode cX5_rowOfDigits 6 = .ok (.iconst 0, 1) := by decide +kernel
theorem dX5_rowOfDigits_7 : decode cX5_rowOfDigits 7 = .ok (.istore_n 2, 1) := by decide +kernel
theorem dX5_rowOfDigits_8 : decode cX5_rowOfDigits 8 = .ok (.iload_n 1, 1) := by decide +kernel
theorem dX5_rowOfDigits_9 : decode cX5_rowOfDigits 9 = .ok (.istore_n 3, 1) := by decide +kernel
theorem dX5_rowOfDigits_10 : decode cX5_rowOfDigits 10 = .ok (.aload_n 0, 1) := by decide +kernel
theorem dX5_rowOfDigits_11 : decode cX5_rowOfDigits 11 = .ok (.getfield 9, 3) := by decide +kernel
theorem dX5_rowOfDigits_14 : decode cX5_rowOfDigits 14 = .ok (.iconst 1, 1) := by decide +kernel
theorem dX5_rowOfDigits_15 : decode cX5_rowOfDigits 15 = .ok (.isub, 1) := by decide +kernel
theorem dX5_rowOfDigits_16 : decode cX5_rowOfDigits 16 = .ok (.istore 4, 2) := by decide +kernel
theorem dX5_rowOfDigits_18 : decode cX5_rowOfDigits 18 = .ok (.iload 4, 2) := by decide +kernel
theorem dX5_rowOfDigits_20 : decode cX5_rowOfDigits 20 = .ok (.ifCond .lt 49, 3) := by decide +kernel
theorem dX5_rowOfDigits_23 : decode cX5_rowOfDigits 23 = .ok (.iload_n 3, 1) := by decide +kernel
theorem dX5_rowOfDigits_24 : decode cX5_rowOfDigits 24 = .ok (.bipush 10, 2) := by decide +kernel
theorem dX5_rowOfDigits_26 : decode cX5_rowOfDigits 26 = .ok (.irem, 1) := by decide +kernel
theorem dX5_rowOfDigits_27 : decode cX5_rowOfDigits 27 = .ok (.istore 5, 2) := by decide +kernel
theorem dX5_rowOfDigits_29 : decode cX5_rowOfDigits 29 = .ok (.iload 5, 2) := by decide +kernel
theorem dX5_rowOfDigits_31 : decode cX5_rowOfDigits 31 = .ok (.aload_n 0, 1) := by decide +kernel
theorem dX5_rowOfDigits_32 : decode cX5_rowOfDigits 32 = .ok (.getfield 25, 3) := by decide +kernel
theorem dX5_rowOfDigits_35 : decode cX5_rowOfDigits 35 = .ok (.iload 4, 2) := by decide +kernel
theorem dX5_rowOfDigits_37 : decode cX5_rowOfDigits 37 = .ok (.iaload, 1) := by decide +kernel
theorem dX5_rowOfDigits_38 : decode cX5_rowOfDigits 38 = .ok (.if_icmp .le 5, 3) := by decide +kernel
theorem dX5_rowOfDigits_41 : decode cX5_rowOfDigits 41 = .ok (.iconst (-1), 1) := by decide +kernel
theorem dX5_rowOfDigits_42 : decode cX5_rowOfDigits 42 = .ok (.ireturn, 1) := by decide +kernel
theorem dX5_rowOfDigits_43 : decode cX5_rowOfDigits 43 = .ok (.iload_n 2, 1) := by decide +kernel
theorem dX5_rowOfDigits_44 : decode cX5_rowOfDigits 44 = .ok (.iload 5, 2) := by decide +kernel
theorem dX5_rowOfDigits_46 : decode cX5_rowOfDigits 46 = .ok (.aload_n 0, 1) := by decide +kernel
theorem dX5_rowOfDigits_47 : decode cX5_rowOfDigits 47 = .ok (.iload 4, 2) := by decide +kernel
theorem dX5_rowOfDigits_49 : decode cX5_rowOfDigits 49 = .ok (.invokevirtual 86, 3) := by decide +kernel
theorem dX5_rowOfDigits_52 : decode cX5_rowOfDigits 52 = .ok (.invokestatic 90, 3) := by decide +kernel
theorem dX5_rowOfDigits_55 : decode cX5_rowOfDigits 55 = .ok (.imul, 1) := by decide +kernel
theorem dX5_rowOfDigits_56 : decode cX5_rowOfDigits 56 = .ok (.iadd, 1) := by decide +kernel
theorem dX5_rowOfDigits_57 : decode cX5_rowOfDigits 57 = .ok (.istore_n 2, 1) := by decide +kernel
theorem dX5_rowOfDigits_58 : decode cX5_rowOfDigits 58 = .ok (.iload_n 3, 1) := by decide +kernel
theorem dX5_rowOfDigits_59 : decode cX5_rowOfDigits 59 = .ok (.bipush 10, 2) := by decide +kernel
theorem dX5_rowOfDigits_61 : decode cX5_rowOfDigits 61 = .ok (.idiv, 1) := by decide +kernel
theorem dX5_rowOfDigits_62 : decode cX5_rowOfDigits 62 = .ok (.istore_n 3, 1) := by decide +kernel
theorem dX5_rowOfDigits_63 : decode cX5_rowOfDigits 63 = .ok (.iinc 4 (-1), 3) := by decide +kernel
theorem dX5_rowOfDigits_66 : decode cX5_rowOfDigits 66 = .ok (.goto (-48), 3) := by decide +kernel
theorem dX5_rowOfDigits_69 : decode cX5_rowOfDigits 69 = .ok (.iload_n 3, 1) := by decide +kernel
theorem dX5_rowOfDigits_70 : decode cX5_rowOfDigits 70 = .ok (.ifCond .le 7, 3) := by decide +kernel
theorem dX5_rowOfDigits_73 : decode cX5_rowOfDigits 73 = .ok (.iconst (-1), 1) := by decide +kernel
theorem dX5_rowOfDigits_74 : decode cX5_rowOfDigits 74 = .ok (.goto 4, 3) := by decide +kernel
theorem dX5_rowOfDigits_77 : decode cX5_rowOfDigits 77 = .ok (.iload_n 2, 1) := by decide +kernel
theorem dX5_rowOfDigits_78 : decode cX5_rowOfDigits 78 = .ok (.ireturn, 1) := by decide +kernel
theorem dX5_holdsTogether_0 : decode cX5_holdsTogether 0 = .ok (.iconst 0, 1) := by decide +kernel
theorem dX5_holdsTogether_1 : decode cX5_holdsTogether 1 = .ok (.istore_n 2, 1) := by decide +kernel
theorem dX5_holdsTogether_2 : decode cX5_holdsTogether 2 = .ok (.iload_n 2, 1) := by decide +kernel
theorem dX5_holdsTogether_3 : decode cX5_holdsTogether 3 = .ok (.aload_n 0, 1) := by decide +kernel
theorem dX5_holdsTogether_4 : decode cX5_holdsTogether 4 = .ok (.getfield 9, 3) := by decide +kernel
theorem dX5_holdsTogether_7 : decode cX5_holdsTogether 7 = .ok (.if_icmp .ge 42, 3) := by decide +kernel
theorem dX5_holdsTogether_10 : decode cX5_holdsTogether 10 = .ok (.iload_n 1, 1) := by decide +kernel
theorem dX5_holdsTogether_11 : decode cX5_holdsTogether 11 = .ok (.aload_n 0, 1) := by decide +kernel
theorem dX5_holdsTogether_12 : decode cX5_holdsTogether 12 = .ok (.iload_n 2, 1) := by decide +kernel
theorem dX5_holdsTogether_13 : decode cX5_holdsTogether 13 = .ok (.invokevirtual 86, 3) := by decide +kernel
theorem dX5_holdsTogether_16 : decode cX5_holdsTogether 16 = .ok (.invokestatic 93, 3) := by decide +kernel
theorem dX5_holdsTogether_19 : decode cX5_holdsTogether 19 = .ok (.istore_n 3, 1) := by decide +kernel
theorem dX5_holdsTogether_20 : decode cX5_holdsTogether 20 = .ok (.iload_n 3, 1) := by decide +kernel
theorem dX5_holdsTogether_21 : decode cX5_holdsTogether 21 = .ok (.ifCond .le 22, 3) := by decide +kernel
theorem dX5_holdsTogether_24 : decode cX5_holdsTogether 24 = .ok (.aload_n 0, 1) := by decide +kernel
theorem dX5_holdsTogether_25 : decode cX5_holdsTogether 25 = .ok (.getfield 43, 3) := by decide +kernel
theorem dX5_holdsTogether_28 : decode cX5_holdsTogether 28 = .ok (.iload_n 2, 1) := by decide +kernel
theorem dX5_holdsTogether_29 : decode cX5_holdsTogether 29 = .ok (.iload_n 3, 1) := by decide +kernel
theorem dX5_holdsTogether_30 : decode cX5_holdsTogether 30 = .ok (.invokestatic 74, 3) := by decide +kernel
theorem dX5_holdsTogether_33 : decode cX5_holdsTogether 33 = .ok (.iaload, 1) := by decide +kernel
theorem dX5_holdsTogether_34 : decode cX5_holdsTogether 34 = .ok (.iload_n 1, 1) := by decide +kernel
theorem dX5_holdsTogether_35 : decode cX5_holdsTogether 35 = .ok (.invokestatic 96, 3) := by decide +kernel
theorem dX5_holdsTogether_38 : decode cX5_holdsTogether 38 = .ok (.ifCond .ne 5, 3) := by decide +kernel
theorem dX5_holdsTogether_41 : decode cX5_holdsTogether 41 = .ok (.iconst 0, 1) := by decide +kernel
theorem dX5_holdsTogether_42 : decode cX5_holdsTogether 42 = .ok (.ireturn, 1) := by decide +kernel
theorem dX5_holdsTogether_43 : decode cX5_holdsTogether 43 = .ok (.iinc 2 1, 3) := by decide +kernel
theorem dX5_holdsTogether_46 : decode cX5_holdsTogether 46 = .ok (.goto (-44), 3) := by decide +kernel
theorem dX5_holdsTogether_49 : decode cX5_holdsTogether 49 = .ok (.iconst 1, 1) := by decide +kernel
theorem dX5_holdsTogether_50 : decode cX5_holdsTogether 50 = .ok (.ireturn, 1) := by decide +kernel
theorem dX5_valueIn_0 : decode cX5_valueIn 0 = .ok (.iload_n 1, 1) := by decide +kernel
theorem dX5_valueIn_1 : decode cX5_valueIn 1 = .ok (.aload_n 0, 1) := by decide +kernel
theorem dX5_valueIn_2 : decode cX5_valueIn 2 = .ok (.iload_n 2, 1) := by decide +kernel
theorem dX5_valueIn_3 : decode cX5_valueIn 3 = .ok (.invokevirtual 86, 3) := by decide +kernel
theorem dX5_valueIn_6 : decode cX5_valueIn 6 = .ok (.invokestatic 93, 3) := by decide +kernel
theorem dX5_valueIn_9 : decode cX5_valueIn 9 = .ok (.istore_n 3, 1) := by decide +kernel
theorem dX5_valueIn_10 : decode cX5_valueIn 10 = .ok (.iload_n 3, 1) := by decide +kernel
theorem dX5_valueIn_11 : decode cX5_valueIn 11 = .ok (.ifCond .ne 12, 3) := by decide +kernel
theorem dX5_valueIn_14 : decode cX5_valueIn 14 = .ok (.aload_n 0, 1) := by decide +kernel
theorem dX5_valueIn_15 : decode cX5_valueIn 15 = .ok (.getfield 21, 3) := by decide +kernel
theorem dX5_valueIn_18 : decode cX5_valueIn 18 = .ok (.iload_n 2, 1) := by decide +kernel
theorem dX5_valueIn_19 : decode cX5_valueIn 19 = .ok (.iaload, 1) := by decide +kernel
theorem dX5_valueIn_20 : decode cX5_valueIn 20 = .ok (.goto 13, 3) := by decide +kernel
theorem dX5_valueIn_23 : decode cX5_valueIn 23 = .ok (.aload_n 0, 1) := by decide +kernel
theorem dX5_valueIn_24 : decode cX5_valueIn 24 = .ok (.getfield 34, 3) := by decide +kernel
theorem dX5_valueIn_27 : decode cX5_valueIn 27 = .ok (.iload_n 2, 1) := by decide +kernel
theorem dX5_valueIn_28 : decode cX5_valueIn 28 = .ok (.iload_n 3, 1) := by decide +kernel
theorem dX5_valueIn_29 : decode cX5_valueIn 29 = .ok (.invokestatic 74, 3) := by decide +kernel
theorem dX5_valueIn_32 : decode cX5_valueIn 32 = .ok (.iaload, 1) := by decide +kernel
theorem dX5_valueIn_33 : decode cX5_valueIn 33 = .ok (.ireturn, 1) := by decide +kernel
theorem dX5_underWay_0 : decode cX5_underWay 0 = .ok (.iconst 0, 1) := by decide +kernel
theorem dX5_underWay_1 : decode cX5_underWay 1 = .ok (.istore_n 2, 1) := by decide +kernel
theorem dX5_underWay_2 : decode cX5_underWay 2 = .ok (.iconst 0, 1) := by decide +kernel
theorem dX5_underWay_3 : decode cX5_underWay 3 = .ok (.istore_n 3, 1) := by decide +kernel
theorem dX5_underWay_4 : decode cX5_underWay 4 = .ok (.iload_n 3, 1) := by decide +kernel
theorem dX5_underWay_5 : decode cX5_underWay 5 = .ok (.aload_n 0, 1) := by decide +kernel
theorem dX5_underWay_6 : decode cX5_underWay 6 = .ok (.getfield 18, 3) := by decide +kernel
theorem dX5_underWay_9 : decode cX5_underWay 9 = .ok (.if_icmp .ge 94, 3) := by decide +kernel
theorem dX5_underWay_12 : decode cX5_underWay 12 = .ok (.iload_n 1, 1) := by decide +kernel
theorem dX5_underWay_13 : decode cX5_underWay 13 = .ok (.aload_n 0, 1) := by decide +kernel
theorem dX5_underWay_14 : decode cX5_underWay 14 = .ok (.aload_n 0, 1) := by decide +kernel
theorem dX5_underWay_15 : decode cX5_underWay 15 = .ok (.getfield 46, 3) := by decide +kernel
theorem dX5_underWay_18 : decode cX5_underWay 18 = .ok (.iload_n 3, 1) := by decide +kernel
theorem dX5_underWay_19 : decode cX5_underWay 19 = .ok (.iaload, 1) := by decide +kernel
theorem dX5_underWay_20 : decode cX5_underWay 20 = .ok (.invokevirtual 86, 3) := by decide +kernel
theorem dX5_underWay_23 : decode cX5_underWay 23 = .ok (.invokestatic 93, 3) := by decide +kernel
theorem dX5_underWay_26 : decode cX5_underWay 26 = .ok (.aload_n 0, 1) := by decide +kernel
theorem dX5_underWay_27 : decode cX5_underWay 27 = .ok (.getfield 49, 3) := by decide +kernel
theorem dX5_underWay_30 : decode cX5_underWay 30 = .ok (.iload_n 3, 1) := by decide +kernel
theorem dX5_underWay_31 : decode cX5_underWay 31 = .ok (.iaload, 1) := by decide +kernel
theorem dX5_underWay_32 : decode cX5_underWay 32 = .ok (.if_icmp .lt 7, 3) := by decide +kernel
theorem dX5_underWay_35 : decode cX5_underWay 35 = .ok (.iconst 1, 1) := by decide +kernel
theorem dX5_underWay_36 : decode cX5_underWay 36 = .ok (.goto 4, 3) := by decide +kernel
theorem dX5_underWay_39 : decode cX5_underWay 39 = .ok (.iconst 0, 1) := by decide +kernel
theorem dX5_underWay_40 : decode cX5_underWay 40 = .ok (.istore 4, 2) := by decide +kernel
theorem dX5_underWay_42 : decode cX5_underWay 42 = .ok (.aload_n 0, 1) := by decide +kernel
theorem dX5_underWay_43 : decode cX5_underWay 43 = .ok (.getfield 52, 3) := by decide +kernel
theorem dX5_underWay_46 : decode cX5_underWay 46 = .ok (.iload_n 3, 1) := by decide +kernel
theorem dX5_underWay_47 : decode cX5_underWay 47 = .ok (.iaload, 1) := by decide +kernel
theorem dX5_underWay_48 : decode cX5_underWay 48 = .ok (.ifCond .lt 30, 3) := by decide +kernel
theorem dX5_underWay_51 : decode cX5_underWay 51 = .ok (.iload_n 1, 1) := by decide +kernel
theorem dX5_underWay_52 : decode cX5_underWay 52 = .ok (.aload_n 0, 1) := by decide +kernel
theorem dX5_underWay_53 : decode cX5_underWay 53 = .ok (.aload_n 0, 1) := by decide +kernel
theorem dX5_underWay_54 : decode cX5_underWay 54 = .ok (.getfield 52, 3) := by decide +kernel
theorem dX5_underWay_57 : decode cX5_underWay 57 = .ok (.iload_n 3, 1) := by decide +kernel
theorem dX5_underWay_58 : decode cX5_underWay 58 = .ok (.iaload, 1) := by decide +kernel
theorem dX5_underWay_59 : decode cX5_underWay 59 = .ok (.invokevirtual 86, 3) := by decide +kernel
theorem dX5_underWay_62 : decode cX5_underWay 62 = .ok (.invokestatic 93, 3) := by decide +kernel
theorem dX5_underWay_65 : decode cX5_underWay 65 = .ok (.aload_n 0, 1) := by decide +kernel
theorem dX5_underWay_66 : decode cX5_underWay 66 = .ok (.getfield 55, 3) := by decide +kernel
theorem dX5_underWay_69 : decode cX5_underWay 69 = .ok (.iload_n 3, 1) := by decide +kernel
theorem dX5_underWay_70 : decode cX5_underWay 70 = .ok (.iaload, 1) := by decide +kernel
theorem dX5_underWay_71 : decode cX5_underWay 71 = .ok (.if_icmp .lt 7, 3) := by decide +kernel
theorem dX5_underWay_74 : decode cX5_underWay 74 = .ok (.iconst 1, 1) := by decide +kernel
theorem dX5_underWay_75 : decode cX5_underWay 75 = .ok (.goto 4, 3) := by decide +kernel
theorem dX5_underWay_78 : decode cX5_underWay 78 = .ok (.iconst 0, 1) := by decide +kernel
theorem dX5_underWay_79 : decode cX5_underWay 79 = .ok (.istore 5, 2) := by decide +kernel
theorem dX5_underWay_81 : decode cX5_underWay 81 = .ok (.iload 4, 2) := by decide +kernel
theorem dX5_underWay_83 : decode cX5_underWay 83 = .ok (.ifCond .eq 14, 3) := by decide +kernel
theorem dX5_underWay_86 : decode cX5_underWay 86 = .ok (.iload 5, 2) := by decide +kernel
theorem dX5_underWay_88 : decode cX5_underWay 88 = .ok (.ifCond .ne 9, 3) := by decide +kernel
theorem dX5_underWay_91 : decode cX5_underWay 91 = .ok (.iload_n 2, 1) := by decide +kernel
theorem dX5_underWay_92 : decode cX5_underWay 92 = .ok (.iconst 1, 1) := by decide +kernel
theorem dX5_underWay_93 : decode cX5_underWay 93 = .ok (.iload_n 3, 1) := by decide +kernel
theorem dX5_underWay_94 : decode cX5_underWay 94 = .ok (.ishl, 1) := by decide +kernel
theorem dX5_underWay_95 : decode cX5_underWay 95 = .ok (.ior, 1) := by decide +kernel
theorem dX5_underWay_96 : decode cX5_underWay 96 = .ok (.istore_n 2, 1) := by decide +kernel
theorem dX5_underWay_97 : decode cX5_underWay 97 = .ok (.iinc 3 1, 3) := by decide +kernel
theorem dX5_underWay_100 : decode cX5_underWay 100 = .ok (.goto (-96), 3) := by decide +kernel
theorem dX5_underWay_103 : decode cX5_underWay 103 = .ok (.iload_n 2, 1) := by decide +kernel
theorem dX5_underWay_104 : decode cX5_underWay 104 = .ok (.ireturn, 1) := by decide +kernel
theorem dX5_endsInMarks_0 : decode cX5_endsInMarks 0 = .ok (.iconst 0, 1) := by decide +kernel
theorem dX5_endsInMarks_1 : decode cX5_endsInMarks 1 = .ok (.istore_n 2, 1) := by decide +kernel
theorem dX5_endsInMarks_2 : decode cX5_endsInMarks 2 = .ok (.iload_n 2, 1) := by decide +kernel
theorem dX5_endsInMarks_3 : decode cX5_endsInMarks 3 = .ok (.aload_n 0, 1) := by decide +kernel
theorem dX5_endsInMarks_4 : decode cX5_endsInMarks 4 = .ok (.getfield 9, 3) := by decide +kernel
theorem dX5_endsInMarks_7 : decode cX5_endsInMarks 7 = .ok (.if_icmp .ge 38, 3) := by decide +kernel
theorem dX5_endsInMarks_10 : decode cX5_endsInMarks 10 = .ok (.iload_n 1, 1) := by decide +kernel
theorem dX5_endsInMarks_11 : decode cX5_endsInMarks 11 = .ok (.aload_n 0, 1) := by decide +kernel
theorem dX5_endsInMarks_12 : decode cX5_endsInMarks 12 = .ok (.iload_n 2, 1) := by decide +kernel
theorem dX5_endsInMarks_13 : decode cX5_endsInMarks 13 = .ok (.invokevirtual 86, 3) := by decide +kernel
theorem dX5_endsInMarks_16 : decode cX5_endsInMarks 16 = .ok (.invokestatic 93, 3) := by decide +kernel
theorem dX5_endsInMarks_19 : decode cX5_endsInMarks 19 = .ok (.istore_n 3, 1) := by decide +kernel
theorem dX5_endsInMarks_20 : decode cX5_endsInMarks 20 = .ok (.iload_n 3, 1) := by decide +kernel
theorem dX5_endsInMarks_21 : decode cX5_endsInMarks 21 = .ok (.ifCond .le 18, 3) := by decide +kernel
theorem dX5_endsInMarks_24 : decode cX5_endsInMarks 24 = .ok (.aload_n 0, 1) := by decide +kernel
theorem dX5_endsInMarks_25 : decode cX5_endsInMarks 25 = .ok (.getfield 40, 3) := by decide +kernel
theorem dX5_endsInMarks_28 : decode cX5_endsInMarks 28 = .ok (.iload_n 2, 1) := by decide +kernel
theorem dX5_endsInMarks_29 : decode cX5_endsInMarks 29 = .ok (.iload_n 3, 1) := by decide +kernel
theorem dX5_endsInMarks_30 : decode cX5_endsInMarks 30 = .ok (.invokestatic 74, 3) := by decide +kernel
theorem dX5_endsInMarks_33 : decode cX5_endsInMarks 33 = .ok (.iaload, 1) := by decide +kernel
theorem dX5_endsInMarks_34 : decode cX5_endsInMarks 34 = .ok (.ifCond .ne 5, 3) := by decide +kernel
theorem dX5_endsInMarks_37 : decode cX5_endsInMarks 37 = .ok (.iconst 0, 1) := by decide +kernel
theorem dX5_endsInMarks_38 : decode cX5_endsInMarks 38 = .ok (.ireturn, 1) := by decide +kernel
theorem dX5_endsInMarks_39 : decode cX5_endsInMarks 39 = .ok (.iinc 2 1, 3) := by decide +kernel
theorem dX5_endsInMarks_42 : decode cX5_endsInMarks 42 = .ok (.goto (-40), 3) := by decide +kernel
theorem dX5_endsInMarks_45 : decode cX5_endsInMarks 45 = .ok (.iconst 1, 1) := by decide +kernel
theorem dX5_endsInMarks_46 : decode cX5_endsInMarks 46 = .ok (.ireturn, 1) := by decide +kernel
theorem dX6_init_0 : decode cX6_init 0 = .ok (.aload_n 0, 1) := by decide +kernel
theorem dX6_init_1 : decode cX6_init 1 = .ok (.invokespecial 3, 3) := by decide +kernel
theorem dX6_init_4 : decode cX6_init 4 = .ok (.aload_n 0, 1) := by decide +kernel
theorem dX6_init_5 : decode cX6_init 5 = .ok (.iconst 0, 1) := by decide +kernel
theorem dX6_init_6 : decode cX6_init 6 = .ok (.putfield 9, 3) := by decide +kernel
theorem dX6_init_9 : decode cX6_init 9 = .ok (.aload_n 0, 1) := by decide +kernel
theorem dX6_init_10 : decode cX6_init 10 = .ok (.iconst 0, 1) := by decide +kernel
theorem dX6_init_11 : decode cX6_init 11 = .ok (.putfield 15, 3) := by decide +kernel
theorem dX6_init_14 : decode cX6_init 14 = .ok (.aload_n 0, 1) := by decide +kernel
theorem dX6_init_15 : decode cX6_init 15 = .ok (.iconst 0, 1) := by decide +kernel
theorem dX6_init_16 : decode cX6_init 16 = .ok (.putfield 18, 3) := by decide +kernel
theorem dX6_init_19 : decode cX6_init 19 = .ok (.aload_n 0, 1) := by decide +kernel
theorem dX6_init_20 : decode cX6_init 20 = .ok (.iconst 0, 1) := by decide +kernel
theorem dX6_init_21 : decode cX6_init 21 = .ok (.putfield 21, 3) := by decide +kernel
theorem dX6_init_24 : decode cX6_init 24 = .ok (.aload_n 0, 1) := by decide +kernel
theorem dX6_init_25 : decode cX6_init 25 = .ok (.aload_n 1, 1) := by decide +kernel
theorem dX6_init_26 : decode cX6_init 26 = .ok (.putfield 24, 3) := by decide +kernel
theorem dX6_init_29 : decode cX6_init 29 = .ok (.aload_n 0, 1) := by decide +kernel
theorem dX6_init_30 : decode cX6_init 30 = .ok (.aload_n 2, 1) := by decide +kernel
theorem dX6_init_31 : decode cX6_init 31 = .ok (.putfield 28, 3) := by decide +kernel
theorem dX6_init_34 : decode cX6_init 34 = .ok (.return_, 1) := by decide +kernel
theorem dX6_readsWhole_0 : decode cX6_readsWhole 0 = .ok (.aload_n 0, 1) := by decide +kernel
theorem dX6_readsWhole_1 : decode cX6_readsWhole 1 = .ok (.getfield 24, 3) := by decide +kernel
theorem dX6_readsWhole_4 : decode cX6_readsWhole 4 = .ok (.iconst 0, 1) := by decide +kernel
theorem dX6_readsWhole_5 : decode cX6_readsWhole 5 = .ok (.putfield 32, 3) := by decide +kernel
theorem dX6_readsWhole_8 : decode cX6_readsWhole 8 = .ok (.iconst 0, 1) := by decide +kernel
theorem dX6_readsWhole_9 : decode cX6_readsWhole 9 = .ok (.istore_n 1, 1) := by decide +kernel
theorem dX6_readsWhole_10 : decode cX6_readsWhole 10 = .ok (.iload_n 1, 1) := by decide +kernel
theorem dX6_readsWhole_11 : decode cX6_readsWhole 11 = .ok (.bipush 60, 2) := by decide +kernel
theorem dX6_readsWhole_13 : decode cX6_readsWhole 13 = .ok (.if_icmp .ge 38, 3) := by decide +kernel
theorem dX6_readsWhole_16 : decode cX6_readsWhole 16 = .ok (.aload_n 0, 1) := by decide +kernel
theorem dX6_readsWhole_17 : decode cX6_readsWhole 17 = .ok (.invokevirtual 37, 3) := by decide +kernel
theorem dX6_readsWhole_20 : decode cX6_readsWhole 20 = .ok (.ifCond .ne 5, 3) := by decide +kernel
theorem dX6_readsWhole_23 : decode cX6_readsWhole 23 = .ok (.iconst 0, 1) := by decide +kernel
theorem dX6_readsWhole_24 : decode cX6_readsWhole 24 = .ok (.ireturn, 1) := by decide +kernel
theorem dX6_readsWhole_25 : decode cX6_readsWhole 25 = .ok (.aload_n 0, 1) := by decide +kernel
theorem dX6_readsWhole_26 : decode cX6_readsWhole 26 = .ok (.getfield 24, 3) := by decide +kernel
theorem dX6_readsWhole_29 : decode cX6_readsWhole 29 = .ok (.bipush 59, 2) := by decide +kernel
theorem dX6_readsWhole_31 : decode cX6_readsWhole 31 = .ok (.invokevirtual 41, 3) := by decide +kernel
theorem dX6_readsWhole_34 : decode cX6_readsWhole 34 = .ok (.ifCond .ne 11, 3) := by decide +kernel
theorem dX6_readsWhole_37 : decode cX6_readsWhole 37 = .ok (.aload_n 0, 1) := by decide +kernel
theorem dX6_readsWhole_38 : decode cX6_readsWhole 38 = .ok (.getfield 24, 3) := by decide +kernel
theorem dX6_readsWhole_41 : decode cX6_readsWhole 41 = .ok (.invokevirtual 45, 3) := by decide +kernel
theorem dX6_readsWhole_44 : decode cX6_readsWhole 44 = .ok (.ireturn, 1) := by decide +kernel
theorem dX6_readsWhole_45 : decode cX6_readsWhole 45 = .ok (.iinc 1 1, 3) := by decide +kernel
theorem dX6_readsWhole_48 : decode cX6_readsWhole 48 = .ok (.goto (-38), 3) := by decide +kernel
theorem dX6_readsWhole_51 : decode cX6_readsWhole 51 = .ok (.iconst 0, 1) := by decide +kernel
theorem dX6_readsWhole_52 : decode cX6_readsWhole 52 = .ok (.ireturn, 1) := by decide +kernel
theorem dX6_readStatement_0 : decode cX6_readStatement 0 = .ok (.aload_n 0, 1) := by decide +kernel
theorem dX6_readStatement_1 : decode cX6_readStatement 1 = .ok (.aload_n 0, 1) := by decide +kernel
theorem dX6_readStatement_2 : decode cX6_readStatement 2 = .ok (.getfield 24, 3) := by decide +kernel
theorem dX6_readStatement_5 : decode cX6_readStatement 5 = .ok (.bipush 115, 2) := by decide +kernel
theorem dX6_readStatement_7 : decode cX6_readStatement 7 = .ok (.invokevirtual 41, 3) := by decide +kernel
theorem dX6_readStatement_10 : decode cX6_readStatement 10 = .ok (.ifCond .eq 7, 3) := by decide +kernel
theorem dX6_readStatement_13 : decode cX6_readStatement 13 = .ok (.iconst 0, 1) := by decide +kernel
theorem dX6_readStatement_14 : decode cX6_readStatement 14 = .ok (.goto 36, 3) := by decide +kernel
theorem dX6_readStatement_17 : decode cX6_readStatement 17 = .ok (.aload_n 0, 1) := by decide +kernel
theorem dX6_readStatement_18 : decode cX6_readStatement 18 = .ok (.getfield 24, 3) := by decide +kernel
theorem dX6_readStatement_21 : decode cX6_readStatement 21 = .ok (.bipush 101, 2) := by decide +kernel
theorem dX6_readStatement_23 : decode cX6_readStatement 23 = .ok (.invokevirtual 41, 3) := by decide +kernel
theorem dX6_readStatement_26 : decode cX6_readStatement 26 = .ok (.ifCond .eq 7, 3) := by decide +kernel
theorem dX6_readStatement_29 : decode cX6_readStatement 29 = .ok (.iconst 1, 1) := by decide +kernel
theorem dX6_readStatement_30 : decode cX6_readStatement 30 = .ok (.goto 20, 3) := by decide +kernel
theorem dX6_readStatement_33 : decode cX6_readStatement 33 = .ok (.aload_n 0, 1) := by decide +kernel
theorem dX6_readStatement_34 : decode cX6_readStatement 34 = .ok (.getfield 24, 3) := by decide +kernel
theorem dX6_readStatement_37 : decode cX6_readStatement 37 = .ok (.bipush 116, 2) := by decide +kernel
theorem dX6_readStatement_39 : decode cX6_readStatement 39 = .ok (.invokevirtual 41, 3) := by decide +kernel
theorem dX6_readStatement_42 : decode cX6_readStatement 42 = .ok (.ifCond .eq 7, 3) := by decide +kernel
theorem dX6_readStatement_45 : decode cX6_readStatement 45 = .ok (.iconst 2, 1) := by decide +kernel
theorem dX6_readStatement_46 : decode cX6_readStatement 46 = .ok (.goto 4, 3) := by decide +kernel
theorem dX6_readStatement_49 : decode cX6_readStatement 49 = .ok (.iconst (-1), 1) := by decide +kernel
theorem dX6_readStatement_50 : decode cX6_readStatement 50 = .ok (.putfield 9, 3) := by decide +kernel
theorem dX6_readStatement_53 : decode cX6_readStatement 53 = .ok (.aload_n 0, 1) := by decide +kernel
theorem dX6_readStatement_54 : decode cX6_readStatement 54 = .ok (.getfield 9, 3) := by decide +kernel
theorem dX6_readStatement_57 : decode cX6_readStatement 57 = .ok (.ifCond .lt 15, 3) := by decide +kernel
theorem dX6_readStatement_60 : decode cX6_readStatement 60 = .ok (.aload_n 0, 1) := by decide +kernel
theorem dX6_readStatement_61 : decode cX6_readStatement 61 = .ok (.getfield 24, 3) := by decide +kernel
theorem dX6_readStatement_64 : decode cX6_readStatement 64 = .ok (.bipush 32, 2) := by decide +kernel
theorem dX6_readStatement_66 : decode cX6_readStatement 66 = .ok (.invokevirtual 41, 3) := by decide +kernel
theorem dX6_readStatement_69 : decode cX6_readStatement 69 = .ok (.ifCond .ne 5, 3) := by decide +kernel
theorem dX6_readStatement_72 : decode cX6_readStatement 72 = .ok (.iconst 0, 1) := by decide +kernel
theorem dX6_readStatement_73 : decode cX6_readStatement 73 = .ok (.ireturn, 1) := by decide +kernel
theorem dX6_readStatement_74 : decode cX6_readStatement 74 = .ok (.aload_n 0, 1) := by decide +kernel
theorem dX6_readStatement_75 : decode cX6_readStatement 75 = .ok (.aload_n 0, 1) := by decide +kernel
theorem dX6_readStatement_76 : decode cX6_readStatement 76 = .ok (.getfield 24, 3) := by decide +kernel
theorem dX6_readStatement_79 : decode cX6_readStatement 79 = .ok (.aload_n 0, 1) := by decide +kernel
theorem dX6_readStatement_80 : decode cX6_readStatement 80 = .ok (.getfield 28, 3) := by decide +kernel
theorem dX6_readStatement_83 : decode cX6_readStatement 83 = .ok (.getfield 48, 3) := by decide +kernel
theorem dX6_readStatement_86 : decode cX6_readStatement 86 = .ok (.invokevirtual 53, 3) := by decide +kernel
theorem dX6_readStatement_89 : decode cX6_readStatement 89 = .ok (.putfield 15, 3) := by decide +kernel
theorem dX6_readStatement_92 : decode cX6_readStatement 92 = .ok (.aload_n 0, 1) := by decide +kernel
theorem dX6_readStatement_93 : decode cX6_readStatement 93 = .ok (.getfield 15, 3) := by decide +kernel
theorem dX6_readStatement_96 : decode cX6_readStatement 96 = .ok (.ifCond .lt 18, 3) := by decide +kernel
theorem dX6_readStatement_99 : decode cX6_readStatement 99 = .ok (.aload_n 0, 1) := by decide +kernel
theorem dX6_readStatement_100 : decode cX6_readStatement 100 = .ok (.getfield 9, 3) := by decide +kernel
theorem dX6_readStatement_103 : decode cX6_readStatement 103 = .ok (.iconst 2, 1) := by decide +kernel
theorem dX6_readStatement_104 : decode cX6_readStatement 104 = .ok (.if_icmp .ne 12, 3) := by decide +kernel
theorem dX6_readStatement_107 : decode cX6_readStatement 107 = .ok (.aload_n 0, 1) := by decide +kernel
theorem dX6_readStatement_108 : decode cX6_readStatement 108 = .ok (.invokevirtual 57, 3) := by decide +kernel
theorem dX6_readStatement_111 : decode cX6_readStatement 111 = .ok (.ifCond .ne 5, 3) := by decide +kernel
theorem dX6_readStatement_114 : decode cX6_readStatement 114 = .ok (.iconst 0, 1) := by decide +kernel
theorem dX6_readStatement_115 : decode cX6_readStatement 115 = .ok (.ireturn, 1) := by decide +kernel
theorem dX6_readStatement_116 : decode cX6_readStatement 116 = .ok (.aload_n 0, 1) := by decide +kernel
theorem dX6_readStatement_117 : decode cX6_readStatement 117 = .ok (.getfield 24, 3) := by decide +kernel
theorem dX6_readStatement_120 : decode cX6_readStatement 120 = .ok (.bipush 32, 2) := by decide +kernel
theorem dX6_readStatement_122 : decode cX6_readStatement 122 = .ok (.invokevirtual 41, 3) := by decide +kernel
theorem dX6_readStatement_125 : decode cX6_readStatement 125 = .ok (.ifCond .eq 14, 3) := by decide +kernel
theorem dX6_readStatement_128 : decode cX6_readStatement 128 = .ok (.aload_n 0, 1) := by decide +kernel
theorem dX6_readStatement_129 : decode cX6_readStatement 129 = .ok (.invokevirtual 60, 3) := by decide +kernel
theorem dX6_readStatement_132 : decode cX6_readStatement 132 = .ok (.ifCond .eq 7, 3) := by decide +kernel
theorem dX6_readStatement_135 : decode cX6_readStatement 135 = .ok (.iconst 1, 1) := by decide +kernel
theorem dX6_readStatement_136 : decode cX6_readStatement 136 = .ok (.goto 4, 3) := by decide +kernel
theorem dX6_readStatement_139 : decode cX6_readStatement 139 = .ok (.iconst 0, 1) := by decide +kernel
theorem dX6_readStatement_140 : decode cX6_readStatement 140 = .ok (.ireturn, 1) := by decide +kernel
theorem dX6_readMessage_0 : decode cX6_readMessage 0 = .ok (.aload_n 0, 1) := by decide +kernel
theorem dX6_readMessage_1 : decode cX6_readMessage 1 = .ok (.getfield 24, 3) := by decide +kernel
theorem dX6_readMessage_4 : decode cX6_readMessage 4 = .ok (.bipush 32, 2) := by decide +kernel
theorem dX6_readMessage_6 : decode cX6_readMessage 6 = .ok (.invokevirtual 41, 3) := by decide +kernel
theorem dX6_readMessage_9 : decode cX6_readMessage 9 = .ok (.ifCond .ne 5, 3) := by decide +kernel
theorem dX6_readMessage_12 : decode cX6_readMessage 12 = .ok (.iconst 0, 1) := by decide +kernel
theorem dX6_readMessage_13 : decode cX6_readMessage 13 = .ok (.ireturn, 1) := by decide +kernel
theorem dX6_readMessage_14 : decode cX6_readMessage 14 = .ok (.aload_n 0, 1) := by decide +kernel
theorem dX6_readMessage_15 : decode cX6_readMessage 15 = .ok (.aload_n 0, 1) := by decide +kernel
theorem dX6_readMessage_16 : decode cX6_readMessage 16 = .ok (.getfield 24, 3) := by decide +kernel
theorem dX6_readMessage_19 : decode cX6_readMessage 19 = .ok (.bipush 10, 2) := by decide +kernel
theorem dX6_readMessage_21 : decode cX6_readMessage 21 = .ok (.invokevirtual 53, 3) := by decide +kernel
theorem dX6_readMessage_24 : decode cX6_readMessage 24 = .ok (.putfield 18, 3) := by decide +kernel
theorem dX6_readMessage_27 : decode cX6_readMessage 27 = .ok (.aload_n 0, 1) := by decide +kernel
theorem dX6_readMessage_28 : decode cX6_readMessage 28 = .ok (.getfield 18, 3) := by decide +kernel
theorem dX6_readMessage_31 : decode cX6_readMessage 31 = .ok (.ifCond .lt 7, 3) := by decide +kernel
theorem dX6_readMessage_34 : decode cX6_readMessage 34 = .ok (.iconst 1, 1) := by decide +kernel
theorem dX6_readMessage_35 : decode cX6_readMessage 35 = .ok (.goto 4, 3) := by decide +kernel
theorem dX6_readMessage_38 : decode cX6_readMessage 38 = .ok (.iconst 0, 1) := by decide +kernel
theorem dX6_readMessage_39 : decode cX6_readMessage 39 = .ok (.ireturn, 1) := by decide +kernel
theorem dX6_readValue_0 : decode cX6_readValue 0 = .ok (.aload_n 0, 1) := by decide +kernel
theorem dX6_readValue_1 : decode cX6_readValue 1 = .ok (.getfield 24, 3) := by decide +kernel
theorem dX6_readValue_4 : decode cX6_readValue 4 = .ok (.bipush 45, 2) := by decide +kernel
theorem dX6_readValue_6 : decode cX6_readValue 6 = .ok (.invokevirtual 41, 3) := by decide +kernel
theorem dX6_readValue_9 : decode cX6_readValue 9 = .ok (.istore_n 1, 1) := by decide +kernel
theorem dX6_readValue_10 : decode cX6_readValue 10 = .ok (.aload_n 0, 1) := by decide +kernel
theorem dX6_readValue_11 : decode cX6_readValue 11 = .ok (.getfield 24, 3) := by decide +kernel
theorem dX6_readValue_14 : decode cX6_readValue 14 = .ok (.invokevirtual 63, 3) := by decide +kernel
theorem dX6_readValue_17 : decode cX6_readValue 17 = .ok (.istore_n 2, 1) := by decide +kernel
theorem dX6_readValue_18 : decode cX6_readValue 18 = .ok (.aload_n 0, 1) := by decide +kernel
theorem dX6_readValue_19 : decode cX6_readValue 19 = .ok (.iload_n 1, 1) := by decide +kernel
theorem dX6_readValue_20 : decode cX6_readValue 20 = .ok (.ifCond .eq 8, 3) := by decide +kernel
theorem dX6_readValue_23 : decode cX6_readValue 23 = .ok (.iload_n 2, 1) := by decide +kernel
theorem dX6_readValue_24 : decode cX6_readValue 24 = .ok (.ineg, 1) := by decide +kernel
theorem dX6_readValue_25 : decode cX6_readValue 25 = .ok (.goto 4, 3) := by decide +kernel
theorem dX6_readValue_28 : decode cX6_readValue 28 = .ok (.iload_n 2, 1) := by decide +kernel
theorem dX6_readValue_29 : decode cX6_readValue 29 = .ok (.putfield 21, 3) := by decide +kernel
theorem dX6_readValue_32 : decode cX6_readValue 32 = .ok (.iload_n 2, 1) := by decide +kernel
theorem dX6_readValue_33 : decode cX6_readValue 33 = .ok (.ifCond .lt 7, 3) := by decide +kernel
theorem dX6_readValue_36 : decode cX6_readValue 36 = .ok (.iconst 1, 1) := by decide +kernel
theorem dX6_readValue_37 : decode cX6_readValue 37 = .ok (.goto 4, 3) := by decide +kernel
theorem dX6_readValue_40 : decode cX6_readValue 40 = .ok (.iconst 0, 1) := by decide +kernel
theorem dX6_readValue_41 : decode cX6_readValue 41 = .ok (.ireturn, 1) := by decide +kernel
theorem dX7_init_0 : decode cX7_init 0 = .ok (.aload_n 0, 1) := by decide +kernel
theorem dX7_init_1 : decode cX7_init 1 = .ok (.invokespecial 3, 3) := by decide +kernel
theorem dX7_init_4 : decode cX7_init 4 = .ok (.aload_n 0, 1) := by decide +kernel
theorem dX7_init_5 : decode cX7_init 5 = .ok (.iconst 1, 1) := by decide +kernel
theorem dX7_init_6 : decode cX7_init 6 = .ok (.putfield 9, 3) := by decide +kernel
theorem dX7_init_9 : decode cX7_init 9 = .ok (.aload_n 0, 1) := by decide +kernel
theorem dX7_init_10 : decode cX7_init 10 = .ok (.iconst 0, 1) := by decide +kernel
theorem dX7_init_11 : decode cX7_init 11 = .ok (.putfield 15, 3) := by decide +kernel
theorem dX7_init_14 : decode cX7_init 14 = .ok (.aload_n 0, 1) := by decide +kernel
theorem dX7_init_15 : decode cX7_init 15 = .ok (.iconst 0, 1) := by decide +kernel
theorem dX7_init_16 : decode cX7_init 16 = .ok (.putfield 18, 3) := by decide +kernel
theorem dX7_init_19 : decode cX7_init 19 = .ok (.aload_n 0, 1) := by decide +kernel
theorem dX7_init_20 : decode cX7_init 20 = .ok (.iconst 0, 1) := by decide +kernel
theorem dX7_init_21 : decode cX7_init 21 = .ok (.putfield 21, 3) := by decide +kernel
theorem dX7_init_24 : decode cX7_init 24 = .ok (.aload_n 0, 1) := by decide +kernel
theorem dX7_init_25 : decode cX7_init 25 = .ok (.iconst 0, 1) := by decide +kernel
theorem dX7_init_26 : decode cX7_init 26 = .ok (.putfield 25, 3) := by decide +kernel
theorem dX7_init_29 : decode cX7_init 29 = .ok (.aload_n 0, 1) := by decide +kernel
theorem dX7_init_30 : decode cX7_init 30 = .ok (.sipush 1296, 3) := by decide +kernel
theorem dX7_init_33 : decode cX7_init 33 = .ok (.newarray .int, 2) := by decide +kernel
theorem dX7_init_35 : decode cX7_init 35 = .ok (.putfield 28, 3) := by decide +kernel
theorem dX7_init_38 : decode cX7_init 38 = .ok (.aload_n 0, 1) := by decide +kernel
theorem dX7_init_39 : decode cX7_init 39 = .ok (.bipush 24, 2) := by decide +kernel
theorem dX7_init_41 : decode cX7_init 41 = .ok (.newarray .int, 2) := by decide +kernel
theorem dX7_init_43 : decode cX7_init 43 = .ok (.putfield 32, 3) := by decide +kernel
theorem dX7_init_46 : decode cX7_init 46 = .ok (.aload_n 0, 1) := by decide +kernel
theorem dX7_init_47 : decode cX7_init 47 = .ok (.bipush 60, 2) := by decide +kernel
theorem dX7_init_49 : decode cX7_init 49 = .ok (.newarray .int, 2) := by decide +kernel
theorem dX7_init_51 : decode cX7_init 51 = .ok (.putfield 35, 3) := by decide +kernel
theorem dX7_init_54 : decode cX7_init 54 = .ok (.aload_n 0, 1) := by decide +kernel
theorem dX7_init_55 : decode cX7_init 55 = .ok (.aload_n 1, 1) := by decide +kernel
theorem dX7_init_56 : decode cX7_init 56 = .ok (.putfield 38, 3) := by decide +kernel
theorem dX7_init_59 : decode cX7_init 59 = .ok (.aload_n 0, 1) := by decide +kernel
theorem dX7_init_60 : decode cX7_init 60 = .ok (.aload_n 2, 1) := by decide +kernel
theorem dX7_init_61 : decode cX7_init 61 = .ok (.putfield 42, 3) := by decide +kernel
theorem dX7_init_64 : decode cX7_init 64 = .ok (.aload_n 0, 1) := by decide +kernel
theorem dX7_init_65 : decode cX7_init 65 = .ok (.aload_n 3, 1) := by decide +kernel
theorem dX7_init_66 : decode cX7_init 66 = .ok (.putfield 46, 3) := by decide +kernel
theorem dX7_init_69 : decode cX7_init 69 = .ok (.return_, 1) := by decide +kernel
theorem dX7_refresh_0 : decode cX7_refresh 0 = .ok (.aload_n 0, 1) := by decide +kernel
theorem dX7_refresh_1 : decode cX7_refresh 1 = .ok (.getfield 9, 3) := by decide +kernel
theorem dX7_refresh_4 : decode cX7_refresh 4 = .ok (.ifCond .ne 4, 3) := by decide +kernel
theorem dX7_refresh_7 : decode cX7_refresh 7 = .ok (.return_, 1) := by decide +kernel
theorem dX7_refresh_8 : decode cX7_refresh 8 = .ok (.aload_n 0, 1) := by decide +kernel
theorem dX7_refresh_9 : decode cX7_refresh 9 = .ok (.iconst 0, 1) := by decide +kernel
theorem dX7_refresh_10 : decode cX7_refresh 10 = .ok (.putfield 9, 3) := by decide +kernel
theorem dX7_refresh_13 : decode cX7_refresh 13 = .ok (.aload_n 0, 1) := by decide +kernel
theorem dX7_refresh_14 : decode cX7_refresh 14 = .ok (.iconst 0, 1) := by decide +kernel
theorem dX7_refresh_15 : decode cX7_refresh 15 = .ok (.putfield 15, 3) := by decide +kernel
theorem dX7_refresh_18 : decode cX7_refresh 18 = .ok (.aload_n 0, 1) := by decide +kernel
theorem dX7_refresh_19 : decode cX7_refresh 19 = .ok (.iconst 0, 1) := by decide +kernel
theorem dX7_refresh_20 : decode cX7_refresh 20 = .ok (.putfield 18, 3) := by decide +kernel
theorem dX7_refresh_23 : decode cX7_refresh 23 = .ok (.aload_n 0, 1) := by decide +kernel
theorem dX7_refresh_24 : decode cX7_refresh 24 = .ok (.invokevirtual 50, 3) := by decide +kernel
theorem dX7_refresh_27 : decode cX7_refresh 27 = .ok (.return_, 1) := by decide +kernel
theorem dX7_needPassable_0 : decode cX7_needPassable 0 = .ok (.aload_n 0, 1) := by decide +kernel
theorem dX7_needPassable_1 : decode cX7_needPassable 1 = .ok (.getfield 15, 3) := by decide +kernel
theorem dX7_needPassable_4 : decode cX7_needPassable 4 = .ok (.ifCond .ne 12, 3) := by decide +kernel
theorem dX7_needPassable_7 : decode cX7_needPassable 7 = .ok (.aload_n 0, 1) := by decide +kernel
theorem dX7_needPassable_8 : decode cX7_needPassable 8 = .ok (.iconst 1, 1) := by decide +kernel
theorem dX7_needPassable_9 : decode cX7_needPassable 9 = .ok (.putfield 15, 3) := by decide +kernel
theorem dX7_needPassable_12 : decode cX7_needPassable 12 = .ok (.aload_n 0, 1) := by decide +kernel
theorem dX7_needPassable_13 : decode cX7_needPassable 13 = .ok (.invokevirtual 53, 3) := by decide +kernel
theorem dX7_needPassable_16 : decode cX7_needPassable 16 = .ok (.return_, 1) := by decide +kernel
theorem dX7_needSlice_0 : decode cX7_needSlice 0 = .ok (.aload_n 0, 1) := by decide +kernel
theorem dX7_needSlice_1 : decode cX7_needSlice 1 = .ok (.getfield 18, 3) := by decide +kernel
theorem dX7_needSlice_4 : decode cX7_needSlice 4 = .ok (.ifCond .ne 16, 3) := by decide +kernel
theorem dX7_needSlice_7 : decode cX7_needSlice 7 = .ok (.aload_n 0, 1) := by decide +kernel
theorem dX7_needSlice_8 : decode cX7_needSlice 8 = .ok (.iconst 1, 1) := by decide +kernel
theorem dX7_needSlice_9 : decode cX7_needSlice 9 = .ok (.putfield 18, 3) := by decide +kernel
theorem dX7_needSlice_12 : decode cX7_needSlice 12 = .ok (.aload_n 0, 1) := by decide +kernel
theorem dX7_needSlice_13 : decode cX7_needSlice 13 = .ok (.invokevirtual 56, 3) := by decide +kernel
theorem dX7_needSlice_16 : decode cX7_needSlice 16 = .ok (.aload_n 0, 1) := by decide +kernel
theorem dX7_needSlice_17 : decode cX7_needSlice 17 = .ok (.invokevirtual 59, 3) := by decide +kernel
theorem dX7_needSlice_20 : decode cX7_needSlice 20 = .ok (.return_, 1) := by decide +kernel
theorem dX7_flagMet_0 : decode cX7_flagMet 0 = .ok (.aload_n 0, 1) := by decide +kernel
theorem dX7_flagMet_1 : decode cX7_flagMet 1 = .ok (.iconst 0, 1) := by decide +kernel
theorem dX7_flagMet_2 : decode cX7_flagMet 2 = .ok (.putfield 21, 3) := by decide +kernel
theorem dX7_flagMet_5 : decode cX7_flagMet 5 = .ok (.iconst 0, 1) := by decide +kernel
theorem dX7_flagMet_6 : decode cX7_flagMet 6 = .ok (.istore_n 1, 1) := by decide +kernel
theorem dX7_flagMet_7 : decode cX7_flagMet 7 = .ok (.iload_n 1, 1) := by decide +kernel
theorem dX7_flagMet_8 : decode cX7_flagMet 8 = .ok (.aload_n 0, 1) := by decide +kernel
theorem dX7_flagMet_9 : decode cX7_flagMet 9 = .ok (.getfield 42, 3) := by decide +kernel
theorem dX7_flagMet_12 : decode cX7_flagMet 12 = .ok (.getfield 62, 3) := by decide +kernel
theorem dX7_flagMet_15 : decode cX7_flagMet 15 = .ok (.if_icmp .ge 67, 3) := by decide +kernel
theorem dX7_flagMet_18 : decode cX7_flagMet 18 = .ok (.aload_n 0, 1) := by decide +kernel
theorem dX7_flagMet_19 : decode cX7_flagMet 19 = .ok (.getfield 38, 3) := by decide +kernel
theorem dX7_flagMet_22 : decode cX7_flagMet 22 = .ok (.aload_n 0, 1) := by decide +kernel
theorem dX7_flagMet_23 : decode cX7_flagMet 23 = .ok (.getfield 46, 3) := by decide +kernel
theorem dX7_flagMet_26 : decode cX7_flagMet 26 = .ok (.aload_n 0, 1) := by decide +kernel
theorem dX7_flagMet_27 : decode cX7_flagMet 27 = .ok (.getfield 42, 3) := by decide +kernel
theorem dX7_flagMet_30 : decode cX7_flagMet 30 = .ok (.getfield 67, 3) := by decide +kernel
theorem dX7_flagMet_33 : decode cX7_flagMet 33 = .ok (.iload_n 1, 1) := by decide +kernel
theorem dX7_flagMet_34 : decode cX7_flagMet 34 = .ok (.iaload, 1) := by decide +kernel
theorem dX7_flagMet_35 : decode cX7_flagMet 35 = .ok (.aload_n 0, 1) := by decide +kernel
theorem dX7_flagMet_36 : decode cX7_flagMet 36 = .ok (.getfield 35, 3) := by decide +kernel
theorem dX7_flagMet_39 : decode cX7_flagMet 39 = .ok (.invokevirtual 70, 3) := by decide +kernel
theorem dX7_flagMet_42 : decode cX7_flagMet 42 = .ok (.istore_n 2, 1) := by decide +kernel
theorem dX7_flagMet_43 : decode cX7_flagMet 43 = .ok (.aload_n 0, 1) := by decide +kernel
theorem dX7_flagMet_44 : decode cX7_flagMet 44 = .ok (.getfield 28, 3) := by decide +kernel
theorem dX7_flagMet_47 : decode cX7_flagMet 47 = .ok (.iload_n 1, 1) := by decide +kernel
theorem dX7_flagMet_48 : decode cX7_flagMet 48 = .ok (.iload_n 2, 1) := by decide +kernel
theorem dX7_flagMet_49 : decode cX7_flagMet 49 = .ok (.ifCond .eq 7, 3) := by decide +kernel
theorem dX7_flagMet_52 : decode cX7_flagMet 52 = .ok (.iconst 1, 1) := by decide +kernel
theorem dX7_flagMet_53 : decode cX7_flagMet 53 = .ok (.goto 4, 3) := by decide +kernel
theorem dX7_flagMet_56 : decode cX7_flagMet 56 = .ok (.iconst 0, 1) := by decide +kernel
theorem dX7_flagMet_57 : decode cX7_flagMet 57 = .ok (.iastore, 1) := by decide +kernel
theorem dX7_flagMet_58 : decode cX7_flagMet 58 = .ok (.aload_n 0, 1) := by decide +kernel
theorem dX7_flagMet_59 : decode cX7_flagMet 59 = .ok (.dup, 1) := by decide +kernel
theorem dX7_flagMet_60 : decode cX7_flagMet 60 = .ok (.getfield 21, 3) := by decide +kernel
theorem dX7_flagMet_63 : decode cX7_flagMet 63 = .ok (.iload_n 2, 1) := by decide +kernel
theorem dX7_flagMet_64 : decode cX7_flagMet 64 = .ok (.ifCond .eq 7, 3) := by decide +kernel
theorem dX7_flagMet_67 : decode cX7_flagMet 67 = .ok (.iconst 1, 1) := by decide +kernel
theorem dX7_flagMet_68 : decode cX7_flagMet 68 = .ok (.goto 4, 3) := by decide +kernel
theorem dX7_flagMet_71 : decode cX7_flagMet 71 = .ok (.iconst 0, 1) := by decide +kernel
theorem dX7_flagMet_72 : decode cX7_flagMet 72 = .ok (.iadd, 1) := by decide +kernel
theorem dX7_flagMet_73 : decode cX7_flagMet 73 = .ok (.putfield 21, 3) := by decide +kernel
theorem dX7_flagMet_76 : decode cX7_flagMet 76 = .ok (.iinc 1 1, 3) := by decide +kernel
theorem dX7_flagMet_79 : decode cX7_flagMet 79 = .ok (.goto (-72), 3) := by decide +kernel
theorem dX7_flagMet_82 : decode cX7_flagMet 82 = .ok (.return_, 1) := by decide +kernel
theorem dX7_flagPassable_0 : decode cX7_flagPassable 0 = .ok (.aload_n 0, 1) := by decide +kernel
theorem dX7_flagPassable_1 : decode cX7_flagPassable 1 = .ok (.getfield 42, 3) := by decide +kernel
theorem dX7_flagPassable_4 : decode cX7_flagPassable 4 = .ok (.getfield 62, 3) := by decide +kernel
theorem dX7_flagPassable_7 : decode cX7_flagPassable 7 = .ok (.iconst 1, 1) := by decide +kernel
theorem dX7_flagPassable_8 : decode cX7_flagPassable 8 = .ok (.isub, 1) := by decide +kernel
theorem dX7_flagPassable_9 : decode cX7_flagPassable 9 = .ok (.istore_n 1, 1) := by decide +kernel
theorem dX7_flagPassable_10 : decode cX7_flagPassable 10 = .ok (.iload_n 1, 1) := by decide +kernel
theorem dX7_flagPassable_11 : decode cX7_flagPassable 11 = .ok (.istore_n 2, 1) := by decide +kernel
theorem dX7_flagPassable_12 : decode cX7_flagPassable 12 = .ok (.iload_n 2, 1) := by decide +kernel
theorem dX7_flagPassable_13 : decode cX7_flagPassable 13 = .ok (.ifCond .lt 43, 3) := by decide +kernel
theorem dX7_flagPassable_16 : decode cX7_flagPassable 16 = .ok (.aload_n 0, 1) := by decide +kernel
theorem dX7_flagPassable_17 : decode cX7_flagPassable 17 = .ok (.getfield 28, 3) := by decide +kernel
theorem dX7_flagPassable_20 : decode cX7_flagPassable 20 = .ok (.iload_n 2, 1) := by decide +kernel
theorem dX7_flagPassable_21 : decode cX7_flagPassable 21 = .ok (.iaload, 1) := by decide +kernel
theorem dX7_flagPassable_22 : decode cX7_flagPassable 22 = .ok (.iconst 1, 1) := by decide +kernel
theorem dX7_flagPassable_23 : decode cX7_flagPassable 23 = .ok (.iand, 1) := by decide +kernel
theorem dX7_flagPassable_24 : decode cX7_flagPassable 24 = .ok (.ifCond .ne 26, 3) := by decide +kernel
theorem dX7_flagPassable_27 : decode cX7_flagPassable 27 = .ok (.iload_n 2, 1) := by decide +kernel
theorem dX7_flagPassable_28 : decode cX7_flagPassable 28 = .ok (.iload_n 1, 1) := by decide +kernel
theorem dX7_flagPassable_29 : decode cX7_flagPassable 29 = .ok (.if_icmp .eq 11, 3) := by decide +kernel
theorem dX7_flagPassable_32 : decode cX7_flagPassable 32 = .ok (.aload_n 0, 1) := by decide +kernel
theorem dX7_flagPassable_33 : decode cX7_flagPassable 33 = .ok (.iload_n 2, 1) := by decide +kernel
theorem dX7_flagPassable_34 : decode cX7_flagPassable 34 = .ok (.invokevirtual 76, 3) := by decide +kernel
theorem dX7_flagPassable_37 : decode cX7_flagPassable 37 = .ok (.ifCond .lt 13, 3) := by decide +kernel
theorem dX7_flagPassable_40 : decode cX7_flagPassable 40 = .ok (.aload_n 0, 1) := by decide +kernel
theorem dX7_flagPassable_41 : decode cX7_flagPassable 41 = .ok (.getfield 28, 3) := by decide +kernel
theorem dX7_flagPassable_44 : decode cX7_flagPassable 44 = .ok (.iload_n 2, 1) := by decide +kernel
theorem dX7_flagPassable_45 : decode cX7_flagPassable 45 = .ok (.dup2, 1) := by decide +kernel
theorem dX7_flagPassable_46 : decode cX7_flagPassable 46 = .ok (.iaload, 1) := by decide +kernel
theorem dX7_flagPassable_47 : decode cX7_flagPassable 47 = .ok (.iconst 2, 1) := by decide +kernel
theorem dX7_flagPassable_48 : decode cX7_flagPassable 48 = .ok (.ior, 1) := by decide +kernel
theorem dX7_flagPassable_49 : decode cX7_flagPassable 49 = .ok (.iastore, 1) := by decide +kernel
theorem dX7_flagPassable_50 : decode cX7_flagPassable 50 = .ok (.iinc 2 (-1), 3) := by decide +kernel
theorem dX7_flagPassable_53 : decode cX7_flagPassable 53 = .ok (.goto (-41), 3) := by decide +kernel
theorem dX7_flagPassable_56 : decode cX7_flagPassable 56 = .ok (.return_, 1) := by decide +kernel
theorem dX7_passableStep_0 : decode cX7_passableStep 0 = .ok (.iconst 0, 1) := by decide +kernel
theorem dX7_passableStep_1 : decode cX7_passableStep 1 = .ok (.istore_n 2, 1) := by decide +kernel
theorem dX7_passableStep_2 : decode cX7_passableStep 2 = .ok (.iload_n 2, 1) := by decide +kernel
theorem dX7_passableStep_3 : decode cX7_passableStep 3 = .ok (.aload_n 0, 1) := by decide +kernel
theorem dX7_passableStep_4 : decode cX7_passableStep 4 = .ok (.getfield 46, 3) := by decide +kernel
theorem dX7_passableStep_7 : decode cX7_passableStep 7 = .ok (.getfield 80, 3) := by decide +kernel
theorem dX7_passableStep_10 : decode cX7_passableStep 10 = .ok (.if_icmp .ge 36, 3) := by decide +kernel
theorem dX7_passableStep_13 : decode cX7_passableStep 13 = .ok (.aload_n 0, 1) := by decide +kernel
theorem dX7_passableStep_14 : decode cX7_passableStep 14 = .ok (.getfield 42, 3) := by decide +kernel
theorem dX7_passableStep_17 : decode cX7_passableStep 17 = .ok (.iload_n 1, 1) := by decide +kernel
theorem dX7_passableStep_18 : decode cX7_passableStep 18 = .ok (.iload_n 2, 1) := by decide +kernel
theorem dX7_passableStep_19 : decode cX7_passableStep 19 = .ok (.invokevirtual 85, 3) := by decide +kernel
theorem dX7_passableStep_22 : decode cX7_passableStep 22 = .ok (.istore_n 3, 1) := by decide +kernel
theorem dX7_passableStep_23 : decode cX7_passableStep 23 = .ok (.iload_n 3, 1) := by decide +kernel
theorem dX7_passableStep_24 : decode cX7_passableStep 24 = .ok (.ifCond .lt 16, 3) := by decide +kernel
theorem dX7_passableStep_27 : decode cX7_passableStep 27 = .ok (.aload_n 0, 1) := by decide +kernel
theorem dX7_passableStep_28 : decode cX7_passableStep 28 = .ok (.getfield 28, 3) := by decide +kernel
theorem dX7_passableStep_31 : decode cX7_passableStep 31 = .ok (.iload_n 3, 1) := by decide +kernel
theorem dX7_passableStep_32 : decode cX7_passableStep 32 = .ok (.iaload, 1) := by decide +kernel
theorem dX7_passableStep_33 : decode cX7_passableStep 33 = .ok (.iconst 2, 1) := by decide +kernel
theorem dX7_passableStep_34 : decode cX7_passableStep 34 = .ok (.iand, 1) := by decide +kernel
theorem dX7_passableStep_35 : decode cX7_passableStep 35 = .ok (.ifCond .eq 5, 3) := by decide +kernel
theorem dX7_passableStep_38 : decode cX7_passableStep 38 = .ok (.iload_n 2, 1) := by decide +kernel
theorem dX7_passableStep_39 : decode cX7_passableStep 39 = .ok (.ireturn, 1) := by decide +kernel
theorem dX7_passableStep_40 : decode cX7_passableStep 40 = .ok (.iinc 2 1, 3) := by decide +kernel
theorem dX7_passableStep_43 : decode cX7_passableStep 43 = .ok (.goto (-41), 3) := by decide +kernel
theorem dX7_passableStep_46 : decode cX7_passableStep 46 = .ok (.iconst (-1), 1) := by decide +kernel
theorem dX7_passableStep_47 : decode cX7_passableStep 47 = .ok (.ireturn, 1) := by decide +kernel
theorem dX7_gatherLeastRows_0 : decode cX7_gatherLeastRows 0 = .ok (.aload_n 0, 1) := by decide +kernel
theorem dX7_gatherLeastRows_1 : decode cX7_gatherLeastRows 1 = .ok (.getfield 32, 3) := by decide +kernel
theorem dX7_gatherLeastRows_4 : decode cX7_gatherLeastRows 4 = .ok (.iconst (-1), 1) := by decide +kernel
theorem dX7_gatherLeastRows_5 : decode cX7_gatherLeastRows 5 = .ok (.invokestatic 89, 3) := by decide +kernel
theorem dX7_gatherLeastRows_8 : decode cX7_gatherLeastRows 8 = .ok (.iconst 0, 1) := by decide +kernel
theorem dX7_gatherLeastRows_9 : decode cX7_gatherLeastRows 9 = .ok (.istore_n 1, 1) := by decide +kernel
theorem dX7_gatherLeastRows_10 : decode cX7_gatherLeastRows 10 = .ok (.iload_n 1, 1) := by decide +kernel
theorem dX7_gatherLeastRows_11 : decode cX7_gatherLeastRows 11 = .ok (.aload_n 0, 1) := by decide +kernel
theorem dX7_gatherLeastRows_12 : decode cX7_gatherLeastRows 12 = .ok (.getfield 42, 3) := by decide +kernel
theorem dX7_gatherLeastRows_15 : decode cX7_gatherLeastRows 15 = .ok (.getfield 62, 3) := by decide +kernel
theorem dX7_gatherLeastRows_18 : decode cX7_gatherLeastRows 18 = .ok (.if_icmp .ge 33, 3) := by decide +kernel
theorem dX7_gatherLeastRows_21 : decode cX7_gatherLeastRows 21 = .ok (.aload_n 0, 1) := by decide +kernel
theorem dX7_gatherLeastRows_22 : decode cX7_gatherLeastRows 22 = .ok (.getfield 28, 3) := by decide +kernel
theorem dX7_gatherLeastRows_25 : decode cX7_gatherLeastRows 25 = .ok (.iload_n 1, 1) := by decide +kernel
theorem dX7_gatherLeastRows_26 : decode cX7_gatherLeastRows 26 = .ok (.iaload, 1) := by decide +kernel
theorem dX7_gatherLeastRows_27 : decode cX7_gatherLeastRows 27 = .ok (.iconst 1, 1) := by decide +kernel
theorem dX7_gatherLeastRows_28 : decode cX7_gatherLeastRows 28 = .ok (.iand, 1) := by decide +kernel
theorem dX7_gatherLeastRows_29 : decode cX7_gatherLeastRows 29 = .ok (.ifCond .eq 16, 3) := by decide +kernel
theorem dX7_gatherLeastRows_32 : decode cX7_gatherLeastRows 32 = .ok (.aload_n 0, 1) := by decide +kernel
theorem dX7_gatherLeastRows_33 : decode cX7_gatherLeastRows 33 = .ok (.aload_n 0, 1) := by decide +kernel
theorem dX7_gatherLeastRows_34 : decode cX7_gatherLeastRows 34 = .ok (.getfield 42, 3) := by decide +kernel
theorem dX7_gatherLeastRows_37 : decode cX7_gatherLeastRows 37 = .ok (.getfield 67, 3) := by decide +kernel
theorem dX7_gatherLeastRows_40 : decode cX7_gatherLeastRows 40 = .ok (.iload_n 1, 1) := by decide +kernel
theorem dX7_gatherLeastRows_41 : decode cX7_gatherLeastRows 41 = .ok (.iaload, 1) := by decide +kernel
theorem dX7_gatherLeastRows_42 : decode cX7_gatherLeastRows 42 = .ok (.invokevirtual 95, 3) := by decide +kernel
theorem dX7_gatherLeastRows_45 : decode cX7_gatherLeastRows 45 = .ok (.iinc 1 1, 3) := by decide +kernel
theorem dX7_gatherLeastRows_48 : decode cX7_gatherLeastRows 48 = .ok (.goto (-38), 3) := by decide +kernel
theorem dX7_gatherLeastRows_51 : decode cX7_gatherLeastRows 51 = .ok (.iconst 0, 1) := by decide +kernel
theorem dX7_gatherLeastRows_52 : decode cX7_gatherLeastRows 52 = .ok (.istore_n 1, 1) := by decide +kernel
theorem dX7_gatherLeastRows_53 : decode cX7_gatherLeastRows 53 = .ok (.iload_n 1, 1) := by decide +kernel
theorem dX7_gatherLeastRows_54 : decode cX7_gatherLeastRows 54 = .ok (.aload_n 0, 1) := by decide +kernel
theorem dX7_gatherLeastRows_55 : decode cX7_gatherLeastRows 55 = .ok (.getfield 46, 3) := by decide +kernel
theorem dX7_gatherLeastRows_58 : decode cX7_gatherLeastRows 58 = .ok (.getfield 80, 3) := by decide +kernel
theorem dX7_gatherLeastRows_61 : decode cX7_gatherLeastRows 61 = .ok (.if_icmp .ge 51, 3) := by decide +kernel
theorem dX7_gatherLeastRows_64 : decode cX7_gatherLeastRows 64 = .ok (.iconst 4, 1) := by decide +kernel
theorem dX7_gatherLeastRows_65 : decode cX7_gatherLeastRows 65 = .ok (.istore_n 2, 1) := by decide +kernel
theorem dX7_gatherLeastRows_66 : decode cX7_gatherLeastRows 66 = .ok (.iload_n 2, 1) := by decide +kernel
theorem dX7_gatherLeastRows_67 : decode cX7_gatherLeastRows 67 = .ok (.ifCond .lt 39, 3) := by decide +kernel
theorem dX7_gatherLeastRows_70 : decode cX7_gatherLeastRows 70 = .ok (.iload_n 1, 1) := by decide +kernel
theorem dX7_gatherLeastRows_71 : decode cX7_gatherLeastRows 71 = .ok (.bipush 6, 2) := by decide +kernel
theorem dX7_gatherLeastRows_73 : decode cX7_gatherLeastRows 73 = .ok (.imul, 1) := by decide +kernel
theorem dX7_gatherLeastRows_74 : decode cX7_gatherLeastRows 74 = .ok (.iload_n 2, 1) := by decide +kernel
theorem dX7_gatherLeastRows_75 : decode cX7_gatherLeastRows 75 = .ok (.iadd, 1) := by decide +kernel
theorem dX7_gatherLeastRows_76 : decode cX7_gatherLeastRows 76 = .ok (.istore_n 3, 1) := by decide +kernel
theorem dX7_gatherLeastRows_77 : decode cX7_gatherLeastRows 77 = .ok (.aload_n 0, 1) := by decide +kernel
theorem dX7_gatherLeastRows_78 : decode cX7_gatherLeastRows 78 = .ok (.getfield 32, 3) := by decide +kernel
theorem dX7_gatherLeastRows_81 : decode cX7_gatherLeastRows 81 = .ok (.iload_n 3, 1) := by decide +kernel
theorem dX7_gatherLeastRows_82 : decode cX7_gatherLeastRows 82 = .ok (.aload_n 0, 1) := by decide +kernel
theorem dX7_gatherLeastRows_83 : decode cX7_gatherLeastRows 83 = .ok (.getfield 32, 3) := by decide +kernel
theorem dX7_gatherLeastRows_86 : decode cX7_gatherLeastRows 86 = .ok (.iload_n 3, 1) := by decide +kernel
theorem dX7_gatherLeastRows_87 : decode cX7_gatherLeastRows 87 = .ok (.iaload, 1) := by decide +kernel
theorem dX7_gatherLeastRows_88 : decode cX7_gatherLeastRows 88 = .ok (.aload_n 0, 1) := by decide +kernel
theorem dX7_gatherLeastRows_89 : decode cX7_gatherLeastRows 89 = .ok (.getfield 32, 3) := by decide +kernel
theorem dX7_gatherLeastRows_92 : decode cX7_gatherLeastRows 92 = .ok (.iload_n 3, 1) := by decide +kernel
theorem dX7_gatherLeastRows_93 : decode cX7_gatherLeastRows 93 = .ok (.iconst 1, 1) := by decide +kernel
theorem dX7_gatherLeastRows_94 : decode cX7_gatherLeastRows 94 = .ok (.iadd, 1) := by decide +kernel
theorem dX7_gatherLeastRows_95 : decode cX7_gatherLeastRows 95 = .ok (.iaload, 1) := by decide +kernel
theorem dX7_gatherLeastRows_96 : decode cX7_gatherLeastRows 96 = .ok (.invokestatic 99, 3) := by decide +kernel
theorem dX7_gatherLeastRows_99 : decode cX7_gatherLeastRows 99 = .ok (.iastore, 1) := by decide +kernel
theorem dX7_gatherLeastRows_100 : decode cX7_gatherLeastRows 100 = .ok (.iinc 2 (-1), 3) := by decide +kernel
theorem dX7_gatherLeastRows_103 : decode cX7_gatherLeastRows 103 = .ok (.goto (-37), 3) := by decide +kernel
theorem dX7_gatherLeastRows_106 : decode cX7_gatherLeastRows 106 = .ok (.iinc 1 1, 3) := by decide +kernel
theorem dX7_gatherLeastRows_109 : decode cX7_gatherLeastRows 109 = .ok (.goto (-56), 3) := by decide +kernel
theorem dX7_gatherLeastRows_112 : decode cX7_gatherLeastRows 112 = .ok (.return_, 1) := by decide +kernel
theorem dX7_gather_0 : decode cX7_gather 0 = .ok (.iconst 0, 1) := by decide +kernel
theorem dX7_gather_1 : decode cX7_gather 1 = .ok (.istore_n 2, 1) := by decide +kernel
theorem dX7_gather_2 : decode cX7_gather 2 = .ok (.iload_n 2, 1) := by decide +kernel
theorem dX7_gather_3 : decode cX7_gather 3 = .ok (.aload_n 0, 1) := by decide +kernel
theorem dX7_gather_4 : decode cX7_gather 4 = .ok (.getfield 46, 3) := by decide +kernel
theorem dX7_gather_7 : decode cX7_gather 7 = .ok (.getfield 80, 3) := by decide +kernel
theorem dX7_gather_10 : decode cX7_gather 10 = .ok (.if_icmp .ge 43, 3) := by decide +kernel
theorem dX7_gather_13 : decode cX7_gather 13 = .ok (.iload_n 2, 1) := by decide +kernel
theorem dX7_gather_14 : decode cX7_gather 14 = .ok (.bipush 6, 2) := by decide +kernel
theorem dX7_gather_16 : decode cX7_gather 16 = .ok (.imul, 1) := by decide +kernel
theorem dX7_gather_17 : decode cX7_gather 17 = .ok (.iload_n 1, 1) := by decide +kernel
theorem dX7_gather_18 : decode cX7_gather 18 = .ok (.aload_n 0, 1) := by decide +kernel
theorem dX7_gather_19 : decode cX7_gather 19 = .ok (.getfield 46, 3) := by decide +kernel
theorem dX7_gather_22 : decode cX7_gather 22 = .ok (.iload_n 2, 1) := by decide +kernel
theorem dX7_gather_23 : decode cX7_gather 23 = .ok (.invokevirtual 102, 3) := by decide +kernel
theorem dX7_gather_26 : decode cX7_gather 26 = .ok (.invokestatic 105, 3) := by decide +kernel
theorem dX7_gather_29 : decode cX7_gather 29 = .ok (.iadd, 1) := by decide +kernel
theorem dX7_gather_30 : decode cX7_gather 30 = .ok (.istore_n 3, 1) := by decide +kernel
theorem dX7_gather_31 : decode cX7_gather 31 = .ok (.aload_n 0, 1) := by decide +kernel
theorem dX7_gather_32 : decode cX7_gather 32 = .ok (.getfield 32, 3) := by decide +kernel
theorem dX7_gather_35 : decode cX7_gather 35 = .ok (.iload_n 3, 1) := by decide +kernel
theorem dX7_gather_36 : decode cX7_gather 36 = .ok (.aload_n 0, 1) := by decide +kernel
theorem dX7_gather_37 : decode cX7_gather 37 = .ok (.getfield 32, 3) := by decide +kernel
theorem dX7_gather_40 : decode cX7_gather 40 = .ok (.iload_n 3, 1) := by decide +kernel
theorem dX7_gather_41 : decode cX7_gather 41 = .ok (.iaload, 1) := by decide +kernel
theorem dX7_gather_42 : decode cX7_gather 42 = .ok (.iload_n 1, 1) := by decide +kernel
theorem dX7_gather_43 : decode cX7_gather 43 = .ok (.invokestatic 99, 3) := by decide +kernel
theorem dX7_gather_46 : decode cX7_gather 46 = .ok (.iastore, 1) := by decide +kernel
theorem dX7_gather_47 : decode cX7_gather 47 = .ok (.iinc 2 1, 3) := by decide +kernel
theorem dX7_gather_50 : decode cX7_gather 50 = .ok (.goto (-48), 3) := by decide +kernel
theorem dX7_gather_53 : decode cX7_gather 53 = .ok (.return_, 1) := by decide +kernel
theorem dX7_meetOf_0 : decode cX7_meetOf 0 = .ok (.iload_n 0, 1) := by decide +kernel
theorem dX7_meetOf_1 : decode cX7_meetOf 1 = .ok (.iconst (-1), 1) := by decide +kernel
theorem dX7_meetOf_2 : decode cX7_meetOf 2 = .ok (.if_icmp .ne 5, 3) := by decide +kernel
theorem dX7_meetOf_5 : decode cX7_meetOf 5 = .ok (.iload_n 1, 1) := by decide +kernel
theorem dX7_meetOf_6 : decode cX7_meetOf 6 = .ok (.ireturn, 1) := by decide +kernel
theorem dX7_meetOf_7 : decode cX7_meetOf 7 = .ok (.iload_n 1, 1) := by decide +kernel
theorem dX7_meetOf_8 : decode cX7_meetOf 8 = .ok (.iconst (-1), 1) := by decide +kernel
theorem dX7_meetOf_9 : decode cX7_meetOf 9 = .ok (.if_icmp .ne 7, 3) := by decide +kernel
theorem dX7_meetOf_12 : decode cX7_meetOf 12 = .ok (.iload_n 0, 1) := by decide +kernel
theorem dX7_meetOf_13 : decode cX7_meetOf 13 = .ok (.goto 8, 3) := by decide +kernel
theorem dX7_meetOf_16 : decode cX7_meetOf 16 = .ok (.iload_n 0, 1) := by decide +kernel
theorem dX7_meetOf_17 : decode cX7_meetOf 17 = .ok (.iload_n 1, 1) := by decide +kernel
theorem dX7_meetOf_18 : decode cX7_meetOf 18 = .ok (.invokestatic 110, 3) := by decide +kernel
theorem dX7_meetOf_21 : decode cX7_meetOf 21 = .ok (.ireturn, 1) := by decide +kernel
theorem dX7_flagSliced_0 : decode cX7_flagSliced 0 = .ok (.aload_n 0, 1) := by decide +kernel
theorem dX7_flagSliced_1 : decode cX7_flagSliced 1 = .ok (.iconst 0, 1) := by decide +kernel
theorem dX7_flagSliced_2 : decode cX7_flagSliced 2 = .ok (.putfield 25, 3) := by decide +kernel
theorem dX7_flagSliced_5 : decode cX7_flagSliced 5 = .ok (.iconst 0, 1) := by decide +kernel
theorem dX7_flagSliced_6 : decode cX7_flagSliced 6 = .ok (.istore_n 1, 1) := by decide +kernel
theorem dX7_flagSliced_7 : decode cX7_flagSliced 7 = .ok (.iload_n 1, 1) := by decide +kernel
theorem dX7_flagSliced_8 : decode cX7_flagSliced 8 = .ok (.aload_n 0, 1) := by decide +kernel
theorem dX7_flagSliced_9 : decode cX7_flagSliced 9 = .ok (.getfield 42, 3) := by decide +kernel
theorem dX7_flagSliced_12 : decode cX7_flagSliced 12 = .ok (.getfield 62, 3) := by decide +kernel
theorem dX7_flagSliced_15 : decode cX7_flagSliced 15 = .ok (.if_icmp .ge 45, 3) := by decide +kernel
theorem dX7_flagSliced_18 : decode cX7_flagSliced 18 = .ok (.aload_n 0, 1) := by decide +kernel
theorem dX7_flagSliced_19 : decode cX7_flagSliced 19 = .ok (.aload_n 0, 1) := by decide +kernel
theorem dX7_flagSliced_20 : decode cX7_flagSliced 20 = .ok (.getfield 42, 3) := by decide +kernel
theorem dX7_flagSliced_23 : decode cX7_flagSliced 23 = .ok (.getfield 67, 3) := by decide +kernel
theorem dX7_flagSliced_26 : decode cX7_flagSliced 26 = .ok (.iload_n 1, 1) := by decide +kernel
theorem dX7_flagSliced_27 : decode cX7_flagSliced 27 = .ok (.iaload, 1) := by decide +kernel
theorem dX7_flagSliced_28 : decode cX7_flagSliced 28 = .ok (.invokevirtual 113, 3) := by decide +kernel
theorem dX7_flagSliced_31 : decode cX7_flagSliced 31 = .ok (.ifCond .eq 23, 3) := by decide +kernel
theorem dX7_flagSliced_34 : decode cX7_flagSliced 34 = .ok (.aload_n 0, 1) := by decide +kernel
theorem dX7_flagSliced_35 : decode cX7_flagSliced 35 = .ok (.getfield 28, 3) := by decide +kernel
theorem dX7_flagSliced_38 : decode cX7_flagSliced 38 = .ok (.iload_n 1, 1) := by decide +kernel
theorem dX7_flagSliced_39 : decode cX7_flagSliced 39 = .ok (.dup2, 1) := by decide +kernel
theorem dX7_flagSliced_40 : decode cX7_flagSliced 40 = .ok (.iaload, 1) := by decide +kernel
theorem dX7_flagSliced_41 : decode cX7_flagSliced 41 = .ok (.iconst 4, 1) := by decide +kernel
theorem dX7_flagSliced_42 : decode cX7_flagSliced 42 = .ok (.ior, 1) := by decide +kernel
theorem dX7_flagSliced_43 : decode cX7_flagSliced 43 = .ok (.iastore, 1) := by decide +kernel
theorem dX7_flagSliced_44 : decode cX7_flagSliced 44 = .ok (.aload_n 0, 1) := by decide +kernel
theorem dX7_flagSliced_45 : decode cX7_flagSliced 45 = .ok (.dup, 1) := by decide +kernel
theorem dX7_flagSliced_46 : decode cX7_flagSliced 46 = .ok (.getfield 25, 3) := by decide +kernel
theorem dX7_flagSliced_49 : decode cX7_flagSliced 49 = .ok (.iconst 1, 1) := by decide +kernel
theorem dX7_flagSliced_50 : decode cX7_flagSliced 50 = .ok (.iadd, 1) := by decide +kernel
theorem dX7_flagSliced_51 : decode cX7_flagSliced 51 = .ok (.putfield 25, 3) := by decide +kernel
theorem dX7_flagSliced_54 : decode cX7_flagSliced 54 = .ok (.iinc 1 1, 3) := by decide +kernel
theorem dX7_flagSliced_57 : decode cX7_flagSliced 57 = .ok (.goto (-50), 3) := by decide +kernel
theorem dX7_flagSliced_60 : decode cX7_flagSliced 60 = .ok (.return_, 1) := by decide +kernel
theorem dX7_isJoinOfLeast_0 : decode cX7_isJoinOfLeast 0 = .ok (.iconst 0, 1) := by decide +kernel
theorem dX7_isJoinOfLeast_1 : decode cX7_isJoinOfLeast 1 = .ok (.istore_n 2, 1) := by decide +kernel
theorem dX7_isJoinOfLeast_2 : decode cX7_isJoinOfLeast 2 = .ok (.iload_n 2, 1) := by decide +kernel
theorem dX7_isJoinOfLeast_3 : decode cX7_isJoinOfLeast 3 = .ok (.aload_n 0, 1) := by decide +kernel
theorem dX7_isJoinOfLeast_4 : decode cX7_isJoinOfLeast 4 = .ok (.getfield 46, 3) := by decide +kernel
theorem dX7_isJoinOfLeast_7 : decode cX7_isJoinOfLeast 7 = .ok (.getfield 80, 3) := by decide +kernel
theorem dX7_isJoinOfLeast_10 : decode cX7_isJoinOfLeast 10 = .ok (.if_icmp .ge 47, 3) := by decide +kernel
theorem dX7_isJoinOfLeast_13 : decode cX7_isJoinOfLeast 13 = .ok (.aload_n 0, 1) := by decide +kernel
theorem dX7_isJoinOfLeast_14 : decode cX7_isJoinOfLeast 14 = .ok (.getfield 32, 3) := by decide +kernel
theorem dX7_isJoinOfLeast_17 : decode cX7_isJoinOfLeast 17 = .ok (.iload_n 2, 1) := by decide +kernel
theorem dX7_isJoinOfLeast_18 : decode cX7_isJoinOfLeast 18 = .ok (.bipush 6, 2) := by decide +kernel
theorem dX7_isJoinOfLeast_20 : decode cX7_isJoinOfLeast 20 = .ok (.imul, 1) := by decide +kernel
theorem dX7_isJoinOfLeast_21 : decode cX7_isJoinOfLeast 21 = .ok (.iload_n 1, 1) := by decide +kernel
theorem dX7_isJoinOfLeast_22 : decode cX7_isJoinOfLeast 22 = .ok (.aload_n 0, 1) := by decide +kernel
theorem dX7_isJoinOfLeast_23 : decode cX7_isJoinOfLeast 23 = .ok (.getfield 46, 3) := by decide +kernel
theorem dX7_isJoinOfLeast_26 : decode cX7_isJoinOfLeast 26 = .ok (.iload_n 2, 1) := by decide +kernel
theorem dX7_isJoinOfLeast_27 : decode cX7_isJoinOfLeast 27 = .ok (.invokevirtual 102, 3) := by decide +kernel
theorem dX7_isJoinOfLeast_30 : decode cX7_isJoinOfLeast 30 = .ok (.invokestatic 105, 3) := by decide +kernel
theorem dX7_isJoinOfLeast_33 : decode cX7_isJoinOfLeast 33 = .ok (.iadd, 1) := by decide +kernel
theorem dX7_isJoinOfLeast_34 : decode cX7_isJoinOfLeast 34 = .ok (.iaload, 1) := by decide +kernel
theorem dX7_isJoinOfLeast_35 : decode cX7_isJoinOfLeast 35 = .ok (.istore_n 3, 1) := by decide +kernel
theorem dX7_isJoinOfLeast_36 : decode cX7_isJoinOfLeast 36 = .ok (.iload_n 3, 1) := by decide +kernel
theorem dX7_isJoinOfLeast_37 : decode cX7_isJoinOfLeast 37 = .ok (.iconst (-1), 1) := by decide +kernel
theorem dX7_isJoinOfLeast_38 : decode cX7_isJoinOfLeast 38 = .ok (.if_icmp .eq 11, 3) := by decide +kernel
theorem dX7_isJoinOfLeast_41 : decode cX7_isJoinOfLeast 41 = .ok (.iload_n 3, 1) := by decide +kernel
theorem dX7_isJoinOfLeast_42 : decode cX7_isJoinOfLeast 42 = .ok (.iload_n 1, 1) := by decide +kernel
theorem dX7_isJoinOfLeast_43 : decode cX7_isJoinOfLeast 43 = .ok (.invokestatic 117, 3) := by decide +kernel
theorem dX7_isJoinOfLeast_46 : decode cX7_isJoinOfLeast 46 = .ok (.ifCond .ne 5, 3) := by decide +kernel
theorem dX7_isJoinOfLeast_49 : decode cX7_isJoinOfLeast 49 = .ok (.iconst 0, 1) := by decide +kernel
theorem dX7_isJoinOfLeast_50 : decode cX7_isJoinOfLeast 50 = .ok (.ireturn, 1) := by decide +kernel
theorem dX7_isJoinOfLeast_51 : decode cX7_isJoinOfLeast 51 = .ok (.iinc 2 1, 3) := by decide +kernel
theorem dX7_isJoinOfLeast_54 : decode cX7_isJoinOfLeast 54 = .ok (.goto (-52), 3) := by decide +kernel
theorem dX7_isJoinOfLeast_57 : decode cX7_isJoinOfLeast 57 = .ok (.iconst 1, 1) := by decide +kernel
theorem dX7_isJoinOfLeast_58 : decode cX7_isJoinOfLeast 58 = .ok (.ireturn, 1) := by decide +kernel
theorem dX7_meetsAt_0 : decode cX7_meetsAt 0 = .ok (.aload_n 0, 1) := by decide +kernel
theorem dX7_meetsAt_1 : decode cX7_meetsAt 1 = .ok (.getfield 28, 3) := by decide +kernel
theorem dX7_meetsAt_4 : decode cX7_meetsAt 4 = .ok (.iload_n 1, 1) := by decide +kernel
theorem dX7_meetsAt_5 : decode cX7_meetsAt 5 = .ok (.iaload, 1) := by decide +kernel
theorem dX7_meetsAt_6 : decode cX7_meetsAt 6 = .ok (.iconst 1, 1) := by decide +kernel
theorem dX7_meetsAt_7 : decode cX7_meetsAt 7 = .ok (.iand, 1) := by decide +kernel
theorem dX7_meetsAt_8 : decode cX7_meetsAt 8 = .ok (.ireturn, 1) := by decide +kernel
theorem dX7_pickMet_0 : decode cX7_pickMet 0 = .ok (.iload_n 1, 1) := by decide +kernel
theorem dX7_pickMet_1 : decode cX7_pickMet 1 = .ok (.iconst (-1), 1) := by decide +kernel
theorem dX7_pickMet_2 : decode cX7_pickMet 2 = .ok (.if_icmp .ne 10, 3) := by decide +kernel
theorem dX7_pickMet_5 : decode cX7_pickMet 5 = .ok (.aload_n 0, 1) := by decide +kernel
theorem dX7_pickMet_6 : decode cX7_pickMet 6 = .ok (.getfield 21, 3) := by decide +kernel
theorem dX7_pickMet_9 : decode cX7_pickMet 9 = .ok (.goto 9, 3) := by decide +kernel
theorem dX7_pickMet_12 : decode cX7_pickMet 12 = .ok (.aload_n 0, 1) := by decide +kernel
theorem dX7_pickMet_13 : decode cX7_pickMet 13 = .ok (.iconst 1, 1) := by decide +kernel
theorem dX7_pickMet_14 : decode cX7_pickMet 14 = .ok (.iload_n 1, 1) := by decide +kernel
theorem dX7_pickMet_15 : decode cX7_pickMet 15 = .ok (.invokevirtual 121, 3) := by decide +kernel
theorem dX7_pickMet_18 : decode cX7_pickMet 18 = .ok (.ireturn, 1) := by decide +kernel
theorem dX7_pickSliced_0 : decode cX7_pickSliced 0 = .ok (.aload_n 0, 1) := by decide +kernel
theorem dX7_pickSliced_1 : decode cX7_pickSliced 1 = .ok (.invokevirtual 124, 3) := by decide +kernel
theorem dX7_pickSliced_4 : decode cX7_pickSliced 4 = .ok (.iload_n 1, 1) := by decide +kernel
theorem dX7_pickSliced_5 : decode cX7_pickSliced 5 = .ok (.iconst (-1), 1) := by decide +kernel
theorem dX7_pickSliced_6 : decode cX7_pickSliced 6 = .ok (.if_icmp .ne 10, 3) := by decide +kernel
theorem dX7_pickSliced_9 : decode cX7_pickSliced 9 = .ok (.aload_n 0, 1) := by decide +kernel
theorem dX7_pickSliced_10 : decode cX7_pickSliced 10 = .ok (.getfield 25, 3) := by decide +kernel
theorem dX7_pickSliced_13 : decode cX7_pickSliced 13 = .ok (.goto 9, 3) := by decide +kernel
theorem dX7_pickSliced_16 : decode cX7_pickSliced 16 = .ok (.aload_n 0, 1) := by decide +kernel
theorem dX7_pickSliced_17 : decode cX7_pickSliced 17 = .ok (.iconst 4, 1) := by decide +kernel
theorem dX7_pickSliced_18 : decode cX7_pickSliced 18 = .ok (.iload_n 1, 1) := by decide +kernel
theorem dX7_pickSliced_19 : decode cX7_pickSliced 19 = .ok (.invokevirtual 121, 3) := by decide +kernel
theorem dX7_pickSliced_22 : decode cX7_pickSliced 22 = .ok (.ireturn, 1) := by decide +kernel
theorem dX7_flaggedAt_0 : decode cX7_flaggedAt 0 = .ok (.iload_n 2, 1) := by decide +kernel
theorem dX7_flaggedAt_1 : decode cX7_flaggedAt 1 = .ok (.istore_n 3, 1) := by decide +kernel
theorem dX7_flaggedAt_2 : decode cX7_flaggedAt 2 = .ok (.iconst 0, 1) := by decide +kernel
theorem dX7_flaggedAt_3 : decode cX7_flaggedAt 3 = .ok (.istore 4, 2) := by decide +kernel
theorem dX7_flaggedAt_5 : decode cX7_flaggedAt 5 = .ok (.iload 4, 2) := by decide +kernel
theorem dX7_flaggedAt_7 : decode cX7_flaggedAt 7 = .ok (.aload_n 0, 1) := by decide +kernel
theorem dX7_flaggedAt_8 : decode cX7_flaggedAt 8 = .ok (.getfield 42, 3) := by decide +kernel
theorem dX7_flaggedAt_11 : decode cX7_flaggedAt 11 = .ok (.getfield 62, 3) := by decide +kernel
theorem dX7_flaggedAt_14 : decode cX7_flaggedAt 14 = .ok (.if_icmp .ge 31, 3) := by decide +kernel
theorem dX7_flaggedAt_17 : decode cX7_flaggedAt 17 = .ok (.aload_n 0, 1) := by decide +kernel
theorem dX7_flaggedAt_18 : decode cX7_flaggedAt 18 = .ok (.getfield 28, 3) := by decide +kernel
theorem dX7_flaggedAt_21 : decode cX7_flaggedAt 21 = .ok (.iload 4, 2) := by decide +kernel
theorem dX7_flaggedAt_23 : decode cX7_flaggedAt 23 = .ok (.iaload, 1) := by decide +kernel
theorem dX7_flaggedAt_24 : decode cX7_flaggedAt 24 = .ok (.iload_n 1, 1) := by decide +kernel
theorem dX7_flaggedAt_25 : decode cX7_flaggedAt 25 = .ok (.iand, 1) := by decide +kernel
theorem dX7_flaggedAt_26 : decode cX7_flaggedAt 26 = .ok (.ifCond .eq 13, 3) := by decide +kernel
theorem dX7_flaggedAt_29 : decode cX7_flaggedAt 29 = .ok (.iload_n 3, 1) := by decide +kernel
theorem dX7_flaggedAt_30 : decode cX7_flaggedAt 30 = .ok (.ifCond .ne 6, 3) := by decide +kernel
theorem dX7_flaggedAt_33 : decode cX7_flaggedAt 33 = .ok (.iload 4, 2) := by decide +kernel
theorem dX7_flaggedAt_35 : decode cX7_flaggedAt 35 = .ok (.ireturn, 1) := by decide +kernel
theorem dX7_flaggedAt_36 : decode cX7_flaggedAt 36 = .ok (.iinc 3 (-1), 3) := by decide +kernel
theorem dX7_flaggedAt_39 : decode cX7_flaggedAt 39 = .ok (.iinc 4 1, 3) := by decide +kernel
theorem dX7_flaggedAt_42 : decode cX7_flaggedAt 42 = .ok (.goto (-37), 3) := by decide +kernel
theorem dX7_flaggedAt_45 : decode cX7_flaggedAt 45 = .ok (.bipush (-5), 2) := by decide +kernel
theorem dX7_flaggedAt_47 : decode cX7_flaggedAt 47 = .ok (.ireturn, 1) := by decide +kernel
theorem dX7_isExact_0 : decode cX7_isExact 0 = .ok (.aload_n 0, 1) := by decide +kernel
theorem dX7_isExact_1 : decode cX7_isExact 1 = .ok (.invokevirtual 124, 3) := by decide +kernel
theorem dX7_isExact_4 : decode cX7_isExact 4 = .ok (.aload_n 0, 1) := by decide +kernel
theorem dX7_isExact_5 : decode cX7_isExact 5 = .ok (.getfield 21, 3) := by decide +kernel
theorem dX7_isExact_8 : decode cX7_isExact 8 = .ok (.aload_n 0, 1) := by decide +kernel
theorem dX7_isExact_9 : decode cX7_isExact 9 = .ok (.getfield 25, 3) := by decide +kernel
theorem dX7_isExact_12 : decode cX7_isExact 12 = .ok (.if_icmp .ne 7, 3) := by decide +kernel
theorem dX7_isExact_15 : decode cX7_isExact 15 = .ok (.iconst 1, 1) := by decide +kernel
theorem dX7_isExact_16 : decode cX7_isExact 16 = .ok (.goto 4, 3) := by decide +kernel
theorem dX7_isExact_19 : decode cX7_isExact 19 = .ok (.iconst 0, 1) := by decide +kernel
theorem dX7_isExact_20 : decode cX7_isExact 20 = .ok (.ireturn, 1) := by decide +kernel
theorem dX7_hasWayRound_0 : decode cX7_hasWayRound 0 = .ok (.aload_n 0, 1) := by decide +kernel
theorem dX7_hasWayRound_1 : decode cX7_hasWayRound 1 = .ok (.invokevirtual 127, 3) := by decide +kernel
theorem dX7_hasWayRound_4 : decode cX7_hasWayRound 4 = .ok (.aload_n 0, 1) := by decide +kernel
theorem dX7_hasWayRound_5 : decode cX7_hasWayRound 5 = .ok (.getfield 28, 3) := by decide +kernel
theorem dX7_hasWayRound_8 : decode cX7_hasWayRound 8 = .ok (.iconst 0, 1) := by decide +kernel
theorem dX7_hasWayRound_9 : decode cX7_hasWayRound 9 = .ok (.iaload, 1) := by decide +kernel
theorem dX7_hasWayRound_10 : decode cX7_hasWayRound 10 = .ok (.iconst 2, 1) := by decide +kernel
theorem dX7_hasWayRound_11 : decode cX7_hasWayRound 11 = .ok (.iand, 1) := by decide +kernel
theorem dX7_hasWayRound_12 : decode cX7_hasWayRound 12 = .ok (.ifCond .eq 7, 3) := by decide +kernel
theorem dX7_hasWayRound_15 : decode cX7_hasWayRound 15 = .ok (.iconst 1, 1) := by decide +kernel
theorem dX7_hasWayRound_16 : decode cX7_hasWayRound 16 = .ok (.goto 4, 3) := by decide +kernel
theorem dX7_hasWayRound_19 : decode cX7_hasWayRound 19 = .ok (.iconst 0, 1) := by decide +kernel
theorem dX7_hasWayRound_20 : decode cX7_hasWayRound 20 = .ok (.ireturn, 1) := by decide +kernel
theorem dX7_stepRound_0 : decode cX7_stepRound 0 = .ok (.aload_n 0, 1) := by decide +kernel
theorem dX7_stepRound_1 : decode cX7_stepRound 1 = .ok (.invokevirtual 130, 3) := by decide +kernel
theorem dX7_stepRound_4 : decode cX7_stepRound 4 = .ok (.ifCond .eq 14, 3) := by decide +kernel
theorem dX7_stepRound_7 : decode cX7_stepRound 7 = .ok (.iload_n 1, 1) := by decide +kernel
theorem dX7_stepRound_8 : decode cX7_stepRound 8 = .ok (.aload_n 0, 1) := by decide +kernel
theorem dX7_stepRound_9 : decode cX7_stepRound 9 = .ok (.getfield 46, 3) := by decide +kernel
theorem dX7_stepRound_12 : decode cX7_stepRound 12 = .ok (.getfield 134, 3) := by decide +kernel
theorem dX7_stepRound_15 : decode cX7_stepRound 15 = .ok (.if_icmp .lt 6, 3) := by decide +kernel
theorem dX7_stepRound_18 : decode cX7_stepRound 18 = .ok (.bipush (-5), 2) := by decide +kernel
theorem dX7_stepRound_20 : decode cX7_stepRound 20 = .ok (.ireturn, 1) := by decide +kernel
theorem dX7_stepRound_21 : decode cX7_stepRound 21 = .ok (.iload_n 1, 1) := by decide +kernel
theorem dX7_stepRound_22 : decode cX7_stepRound 22 = .ok (.iconst (-1), 1) := by decide +kernel
theorem dX7_stepRound_23 : decode cX7_stepRound 23 = .ok (.if_icmp .ne 11, 3) := by decide +kernel
theorem dX7_stepRound_26 : decode cX7_stepRound 26 = .ok (.aload_n 0, 1) := by decide +kernel
theorem dX7_stepRound_27 : decode cX7_stepRound 27 = .ok (.getfield 46, 3) := by decide +kernel
theorem dX7_stepRound_30 : decode cX7_stepRound 30 = .ok (.getfield 134, 3) := by decide +kernel
theorem dX7_stepRound_33 : decode cX7_stepRound 33 = .ok (.ireturn, 1) := by decide +kernel
theorem dX7_stepRound_34 : decode cX7_stepRound 34 = .ok (.iconst 0, 1) := by decide +kernel
theorem dX7_stepRound_35 : decode cX7_stepRound 35 = .ok (.istore_n 2, 1) := by decide +kernel
theorem dX7_stepRound_36 : decode cX7_stepRound 36 = .ok (.bipush (-5), 2) := by decide +kernel
theorem dX7_stepRound_38 : decode cX7_stepRound 38 = .ok (.istore_n 3, 1) := by decide +kernel
theorem dX7_stepRound_39 : decode cX7_stepRound 39 = .ok (.iconst 0, 1) := by decide +kernel
theorem dX7_stepRound_40 : decode cX7_stepRound 40 = .ok (.istore 4, 2) := by decide +kernel
theorem dX7_stepRound_42 : decode cX7_stepRound 42 = .ok (.iload 4, 2) := by decide +kernel
theorem dX7_stepRound_44 : decode cX7_stepRound 44 = .ok (.iload_n 1, 1) := by decide +kernel
theorem dX7_stepRound_45 : decode cX7_stepRound 45 = .ok (.if_icmp .gt 37, 3) := by decide +kernel
theorem dX7_stepRound_48 : decode cX7_stepRound 48 = .ok (.iload_n 2, 1) := by decide +kernel
theorem dX7_stepRound_49 : decode cX7_stepRound 49 = .ok (.ifCond .lt 33, 3) := by decide +kernel
theorem dX7_stepRound_52 : decode cX7_stepRound 52 = .ok (.aload_n 0, 1) := by decide +kernel
theorem dX7_stepRound_53 : decode cX7_stepRound 53 = .ok (.iload_n 2, 1) := by decide +kernel
theorem dX7_stepRound_54 : decode cX7_stepRound 54 = .ok (.invokevirtual 76, 3) := by decide +kernel
theorem dX7_stepRound_57 : decode cX7_stepRound 57 = .ok (.istore_n 3, 1) := by decide +kernel
theorem dX7_stepRound_58 : decode cX7_stepRound 58 = .ok (.iload_n 3, 1) := by decide +kernel
theorem dX7_stepRound_59 : decode cX7_stepRound 59 = .ok (.ifCond .lt 15, 3) := by decide +kernel
theorem dX7_stepRound_62 : decode cX7_stepRound 62 = .ok (.aload_n 0, 1) := by decide +kernel
theorem dX7_stepRound_63 : decode cX7_stepRound 63 = .ok (.getfield 42, 3) := by decide +kernel
theorem dX7_stepRound_66 : decode cX7_stepRound 66 = .ok (.iload_n 2, 1) := by decide +kernel
theorem dX7_stepRound_67 : decode cX7_stepRound 67 = .ok (.iload_n 3, 1) := by decide +kernel
theorem dX7_stepRound_68 : decode cX7_stepRound 68 = .ok (.invokevirtual 85, 3) := by decide +kernel
theorem dX7_stepRound_71 : decode cX7_stepRound 71 = .ok (.goto 4, 3) := by decide +kernel
theorem dX7_stepRound_74 : decode cX7_stepRound 74 = .ok (.iconst (-1), 1) := by decide +kernel
theorem dX7_stepRound_75 : decode cX7_stepRound 75 = .ok (.istore_n 2, 1) := by decide +kernel
theorem dX7_stepRound_76 : decode cX7_stepRound 76 = .ok (.iinc 4 1, 3) := by decide +kernel
theorem dX7_stepRound_79 : decode cX7_stepRound 79 = .ok (.goto (-37), 3) := by decide +kernel
theorem dX7_stepRound_82 : decode cX7_stepRound 82 = .ok (.iload_n 3, 1) := by decide +kernel
theorem dX7_stepRound_83 : decode cX7_stepRound 83 = .ok (.ireturn, 1) := by decide +kernel
theorem dX7_leastWith_0 : decode cX7_leastWith 0 = .ok (.aload_n 0, 1) := by decide +kernel
theorem dX7_leastWith_1 : decode cX7_leastWith 1 = .ok (.invokevirtual 124, 3) := by decide +kernel
theorem dX7_leastWith_4 : decode cX7_leastWith 4 = .ok (.aload_n 0, 1) := by decide +kernel
theorem dX7_leastWith_5 : decode cX7_leastWith 5 = .ok (.getfield 32, 3) := by decide +kernel
theorem dX7_leastWith_8 : decode cX7_leastWith 8 = .ok (.iload_n 1, 1) := by decide +kernel
theorem dX7_leastWith_9 : decode cX7_leastWith 9 = .ok (.bipush 6, 2) := by decide +kernel
theorem dX7_leastWith_11 : decode cX7_leastWith 11 = .ok (.imul, 1) := by decide +kernel
theorem dX7_leastWith_12 : decode cX7_leastWith 12 = .ok (.iload_n 2, 1) := by decide +kernel
theorem dX7_leastWith_13 : decode cX7_leastWith 13 = .ok (.iadd, 1) := by decide +kernel
theorem dX7_leastWith_14 : decode cX7_leastWith 14 = .ok (.iaload, 1) := by decide +kernel
theorem dX7_leastWith_15 : decode cX7_leastWith 15 = .ok (.istore_n 3, 1) := by decide +kernel
theorem dX7_leastWith_16 : decode cX7_leastWith 16 = .ok (.iload_n 3, 1) := by decide +kernel
theorem dX7_leastWith_17 : decode cX7_leastWith 17 = .ok (.iconst (-1), 1) := by decide +kernel
theorem dX7_leastWith_18 : decode cX7_leastWith 18 = .ok (.if_icmp .ne 8, 3) := by decide +kernel
theorem dX7_leastWith_21 : decode cX7_leastWith 21 = .ok (.bipush (-5), 2) := by decide +kernel
theorem dX7_leastWith_23 : decode cX7_leastWith 23 = .ok (.goto 11, 3) := by decide +kernel
theorem dX7_leastWith_26 : decode cX7_leastWith 26 = .ok (.aload_n 0, 1) := by decide +kernel
theorem dX7_leastWith_27 : decode cX7_leastWith 27 = .ok (.getfield 42, 3) := by decide +kernel
theorem dX7_leastWith_30 : decode cX7_leastWith 30 = .ok (.iload_n 3, 1) := by decide +kernel
theorem dX7_leastWith_31 : decode cX7_leastWith 31 = .ok (.invokevirtual 137, 3) := by decide +kernel
theorem dX7_leastWith_34 : decode cX7_leastWith 34 = .ok (.ireturn, 1) := by decide +kernel
theorem dX7_copyMetTo_0 : decode cX7_copyMetTo 0 = .ok (.aload_n 1, 1) := by decide +kernel
theorem dX7_copyMetTo_1 : decode cX7_copyMetTo 1 = .ok (.aload_n 0, 1) := by decide +kernel
theorem dX7_copyMetTo_2 : decode cX7_copyMetTo 2 = .ok (.getfield 21, 3) := by decide +kernel
theorem dX7_copyMetTo_5 : decode cX7_copyMetTo 5 = .ok (.bipush 20, 2) := by decide +kernel
theorem dX7_copyMetTo_7 : decode cX7_copyMetTo 7 = .ok (.invokestatic 140, 3) := by decide +kernel
theorem dX7_copyMetTo_10 : decode cX7_copyMetTo 10 = .ok (.invokevirtual 145, 3) := by decide +kernel
theorem dX7_copyMetTo_13 : decode cX7_copyMetTo 13 = .ok (.iconst 0, 1) := by decide +kernel
theorem dX7_copyMetTo_14 : decode cX7_copyMetTo 14 = .ok (.istore_n 2, 1) := by decide +kernel
theorem dX7_copyMetTo_15 : decode cX7_copyMetTo 15 = .ok (.iconst 0, 1) := by decide +kernel
theorem dX7_copyMetTo_16 : decode cX7_copyMetTo 16 = .ok (.istore_n 3, 1) := by decide +kernel
theorem dX7_copyMetTo_17 : decode cX7_copyMetTo 17 = .ok (.iload_n 3, 1) := by decide +kernel
theorem dX7_copyMetTo_18 : decode cX7_copyMetTo 18 = .ok (.aload_n 0, 1) := by decide +kernel
theorem dX7_copyMetTo_19 : decode cX7_copyMetTo 19 = .ok (.getfield 42, 3) := by decide +kernel
theorem dX7_copyMetTo_22 : decode cX7_copyMetTo 22 = .ok (.getfield 62, 3) := by decide +kernel
theorem dX7_copyMetTo_25 : decode cX7_copyMetTo 25 = .ok (.if_icmp .ge 39, 3) := by decide +kernel
theorem dX7_copyMetTo_28 : decode cX7_copyMetTo 28 = .ok (.iload_n 2, 1) := by decide +kernel
theorem dX7_copyMetTo_29 : decode cX7_copyMetTo 29 = .ok (.aload_n 1, 1) := by decide +kernel
theorem dX7_copyMetTo_30 : decode cX7_copyMetTo 30 = .ok (.getfield 150, 3) := by decide +kernel
theorem dX7_copyMetTo_33 : decode cX7_copyMetTo 33 = .ok (.if_icmp .ge 31, 3) := by decide +kernel
theorem dX7_copyMetTo_36 : decode cX7_copyMetTo 36 = .ok (.aload_n 0, 1) := by decide +kernel
theorem dX7_copyMetTo_37 : decode cX7_copyMetTo 37 = .ok (.getfield 28, 3) := by decide +kernel
theorem dX7_copyMetTo_40 : decode cX7_copyMetTo 40 = .ok (.iload_n 3, 1) := by decide +kernel
theorem dX7_copyMetTo_41 : decode cX7_copyMetTo 41 = .ok (.iaload, 1) := by decide +kernel
theorem dX7_copyMetTo_42 : decode cX7_copyMetTo 42 = .ok (.iconst 1, 1) := by decide +kernel
theorem dX7_copyMetTo_43 : decode cX7_copyMetTo 43 = .ok (.iand, 1) := by decide +kernel
theorem dX7_copyMetTo_44 : decode cX7_copyMetTo 44 = .ok (.ifCond .eq 14, 3) := by decide +kernel
theorem dX7_copyMetTo_47 : decode cX7_copyMetTo 47 = .ok (.aload_n 1, 1) := by decide +kernel
theorem dX7_copyMetTo_48 : decode cX7_copyMetTo 48 = .ok (.getfield 151, 3) := by decide +kernel
theorem dX7_copyMetTo_51 : decode cX7_copyMetTo 51 = .ok (.iload_n 2, 1) := by decide +kernel
theorem dX7_copyMetTo_52 : decode cX7_copyMetTo 52 = .ok (.iload_n 3, 1) := by decide +kernel
theorem dX7_copyMetTo_53 : decode cX7_copyMetTo 53 = .ok (.i2l, 1) := by decide +kernel
theorem dX7_copyMetTo_54 : decode cX7_copyMetTo 54 = .ok (.lastore, 1) := by decide +kernel
theorem dX7_copyMetTo_55 : decode cX7_copyMetTo 55 = .ok (.iinc 2 1, 3) := by decide +kernel
theorem dX7_copyMetTo_58 : decode cX7_copyMetTo 58 = .ok (.iinc 3 1, 3) := by decide +kernel
theorem dX7_copyMetTo_61 : decode cX7_copyMetTo 61 = .ok (.goto (-44), 3) := by decide +kernel
theorem dX7_copyMetTo_64 : decode cX7_copyMetTo 64 = .ok (.aload_n 1, 1) := by decide +kernel
theorem dX7_copyMetTo_65 : decode cX7_copyMetTo 65 = .ok (.getfield 150, 3) := by decide +kernel
theorem dX7_copyMetTo_68 : decode cX7_copyMetTo 68 = .ok (.ireturn, 1) := by decide +kernel
theorem dX7_judgeOf_0 : decode cX7_judgeOf 0 = .ok (.iconst 0, 1) := by decide +kernel
theorem dX7_judgeOf_1 : decode cX7_judgeOf 1 = .ok (.istore_n 2, 1) := by decide +kernel
theorem dX7_judgeOf_2 : decode cX7_judgeOf 2 = .ok (.iconst 0, 1) := by decide +kernel
theorem dX7_judgeOf_3 : decode cX7_judgeOf 3 = .ok (.istore_n 3, 1) := by decide +kernel
theorem dX7_judgeOf_4 : decode cX7_judgeOf 4 = .ok (.iload_n 3, 1) := by decide +kernel
theorem dX7_judgeOf_5 : decode cX7_judgeOf 5 = .ok (.aload_n 0, 1) := by decide +kernel
theorem dX7_judgeOf_6 : decode cX7_judgeOf 6 = .ok (.getfield 42, 3) := by decide +kernel
theorem dX7_judgeOf_9 : decode cX7_judgeOf 9 = .ok (.getfield 62, 3) := by decide +kernel
theorem dX7_judgeOf_12 : decode cX7_judgeOf 12 = .ok (.if_icmp .ge 45, 3) := by decide +kernel
theorem dX7_judgeOf_15 : decode cX7_judgeOf 15 = .ok (.iload_n 2, 1) := by decide +kernel
theorem dX7_judgeOf_16 : decode cX7_judgeOf 16 = .ok (.aload_n 1, 1) := by decide +kernel
theorem dX7_judgeOf_17 : decode cX7_judgeOf 17 = .ok (.getfield 150, 3) := by decide +kernel
theorem dX7_judgeOf_20 : decode cX7_judgeOf 20 = .ok (.if_icmp .ge 37, 3) := by decide +kernel
theorem dX7_judgeOf_23 : decode cX7_judgeOf 23 = .ok (.aload_n 0, 1) := by decide +kernel
theorem dX7_judgeOf_24 : decode cX7_judgeOf 24 = .ok (.getfield 28, 3) := by decide +kernel
theorem dX7_judgeOf_27 : decode cX7_judgeOf 27 = .ok (.iload_n 3, 1) := by decide +kernel
theorem dX7_judgeOf_28 : decode cX7_judgeOf 28 = .ok (.iaload, 1) := by decide +kernel
theorem dX7_judgeOf_29 : decode cX7_judgeOf 29 = .ok (.iconst 1, 1) := by decide +kernel
theorem dX7_judgeOf_30 : decode cX7_judgeOf 30 = .ok (.iand, 1) := by decide +kernel
theorem dX7_judgeOf_31 : decode cX7_judgeOf 31 = .ok (.ifCond .eq 20, 3) := by decide +kernel
theorem dX7_judgeOf_34 : decode cX7_judgeOf 34 = .ok (.aload_n 1, 1) := by decide +kernel
theorem dX7_judgeOf_35 : decode cX7_judgeOf 35 = .ok (.getfield 151, 3) := by decide +kernel
theorem dX7_judgeOf_38 : decode cX7_judgeOf 38 = .ok (.iload_n 2, 1) := by decide +kernel
theorem dX7_judgeOf_39 : decode cX7_judgeOf 39 = .ok (.laload, 1) := by decide +kernel
theorem dX7_judgeOf_40 : decode cX7_judgeOf 40 = .ok (.iload_n 3, 1) := by decide +kernel
theorem dX7_judgeOf_41 : decode cX7_judgeOf 41 = .ok (.i2l, 1) := by decide +kernel
theorem dX7_judgeOf_42 : decode cX7_judgeOf 42 = .ok (.lcmp, 1) := by decide +kernel
theorem dX7_judgeOf_43 : decode cX7_judgeOf 43 = .ok (.ifCond .eq 5, 3) := by decide +kernel
theorem dX7_judgeOf_46 : decode cX7_judgeOf 46 = .ok (.iload_n 2, 1) := by decide +kernel
theorem dX7_judgeOf_47 : decode cX7_judgeOf 47 = .ok (.ireturn, 1) := by decide +kernel
theorem dX7_judgeOf_48 : decode cX7_judgeOf 48 = .ok (.iinc 2 1, 3) := by decide +kernel
theorem dX7_judgeOf_51 : decode cX7_judgeOf 51 = .ok (.iinc 3 1, 3) := by decide +kernel
theorem dX7_judgeOf_54 : decode cX7_judgeOf 54 = .ok (.goto (-50), 3) := by decide +kernel
theorem dX7_judgeOf_57 : decode cX7_judgeOf 57 = .ok (.iload_n 2, 1) := by decide +kernel
theorem dX7_judgeOf_58 : decode cX7_judgeOf 58 = .ok (.aload_n 1, 1) := by decide +kernel
theorem dX7_judgeOf_59 : decode cX7_judgeOf 59 = .ok (.getfield 150, 3) := by decide +kernel
theorem dX7_judgeOf_62 : decode cX7_judgeOf 62 = .ok (.if_icmp .ne 13, 3) := by decide +kernel
theorem dX7_judgeOf_65 : decode cX7_judgeOf 65 = .ok (.bipush 100, 2) := by decide +kernel
theorem dX7_judgeOf_67 : decode cX7_judgeOf 67 = .ok (.aload_n 1, 1) := by decide +kernel
theorem dX7_judgeOf_68 : decode cX7_judgeOf 68 = .ok (.getfield 150, 3) := by decide +kernel
theorem dX7_judgeOf_71 : decode cX7_judgeOf 71 = .ok (.iadd, 1) := by decide +kernel
theorem dX7_judgeOf_72 : decode cX7_judgeOf 72 = .ok (.goto 4, 3) := by decide +kernel
theorem dX7_judgeOf_75 : decode cX7_judgeOf 75 = .ok (.iload_n 2, 1) := by decide +kernel
theorem dX7_judgeOf_76 : decode cX7_judgeOf 76 = .ok (.ireturn, 1) := by decide +kernel
theorem dX8_init_0 : decode cX8_init 0 = .ok (.aload_n 0, 1) := by decide +kernel
theorem dX8_init_1 : decode cX8_init 1 = .ok (.invokespecial 3, 3) := by decide +kernel
theorem dX8_init_4 : decode cX8_init 4 = .ok (.aload_n 0, 1) := by decide +kernel
theorem dX8_init_5 : decode cX8_init 5 = .ok (.iconst 0, 1) := by decide +kernel
theorem dX8_init_6 : decode cX8_init 6 = .ok (.putfield 9, 3) := by decide +kernel
theorem dX8_init_9 : decode cX8_init 9 = .ok (.aload_n 0, 1) := by decide +kernel
theorem dX8_init_10 : decode cX8_init 10 = .ok (.iconst 0, 1) := by decide +kernel
theorem dX8_init_11 : decode cX8_init 11 = .ok (.putfield 15, 3) := by decide +kernel
theorem dX8_init_14 : decode cX8_init 14 = .ok (.aload_n 0, 1) := by decide +kernel
theorem dX8_init_15 : decode cX8_init 15 = .ok (.bipush 60, 2) := by decide +kernel
theorem dX8_init_17 : decode cX8_init 17 = .ok (.newarray .int, 2) := by decide +kernel
theorem dX8_init_19 : decode cX8_init 19 = .ok (.putfield 18, 3) := by decide +kernel
theorem dX8_init_22 : decode cX8_init 22 = .ok (.return_, 1) := by decide +kernel
theorem dX8_append_0 : decode cX8_append 0 = .ok (.aload_n 0, 1) := by decide +kernel
theorem dX8_append_1 : decode cX8_append 1 = .ok (.getfield 18, 3) := by decide +kernel
theorem dX8_append_4 : decode cX8_append 4 = .ok (.aload_n 0, 1) := by decide +kernel
theorem dX8_append_5 : decode cX8_append 5 = .ok (.getfield 9, 3) := by decide +kernel
theorem dX8_append_8 : decode cX8_append 8 = .ok (.iload_n 1, 1) := by decide +kernel
theorem dX8_append_9 : decode cX8_append 9 = .ok (.iastore, 1) := by decide +kernel
theorem dX8_append_10 : decode cX8_append 10 = .ok (.aload_n 0, 1) := by decide +kernel
theorem dX8_append_11 : decode cX8_append 11 = .ok (.dup, 1) := by decide +kernel
theorem dX8_append_12 : decode cX8_append 12 = .ok (.getfield 9, 3) := by decide +kernel
theorem dX8_append_15 : decode cX8_append 15 = .ok (.iconst 1, 1) := by decide +kernel
theorem dX8_append_16 : decode cX8_append 16 = .ok (.iadd, 1) := by decide +kernel
theorem dX8_append_17 : decode cX8_append 17 = .ok (.putfield 9, 3) := by decide +kernel
theorem dX8_append_20 : decode cX8_append 20 = .ok (.return_, 1) := by decide +kernel
theorem dX8_clear_0 : decode cX8_clear 0 = .ok (.aload_n 0, 1) := by decide +kernel
theorem dX8_clear_1 : decode cX8_clear 1 = .ok (.iconst 0, 1) := by decide +kernel
theorem dX8_clear_2 : decode cX8_clear 2 = .ok (.putfield 9, 3) := by decide +kernel
theorem dX8_clear_5 : decode cX8_clear 5 = .ok (.aload_n 0, 1) := by decide +kernel
theorem dX8_clear_6 : decode cX8_clear 6 = .ok (.iconst 0, 1) := by decide +kernel
theorem dX8_clear_7 : decode cX8_clear 7 = .ok (.putfield 15, 3) := by decide +kernel
theorem dX8_clear_10 : decode cX8_clear 10 = .ok (.return_, 1) := by decide +kernel
theorem dX8_isAtEnd_0 : decode cX8_isAtEnd 0 = .ok (.aload_n 0, 1) := by decide +kernel
theorem dX8_isAtEnd_1 : decode cX8_isAtEnd 1 = .ok (.getfield 15, 3) := by decide +kernel
theorem dX8_isAtEnd_4 : decode cX8_isAtEnd 4 = .ok (.aload_n 0, 1) := by decide +kernel
theorem dX8_isAtEnd_5 : decode cX8_isAtEnd 5 = .ok (.getfield 9, 3) := by decide +kernel
theorem dX8_isAtEnd_8 : decode cX8_isAtEnd 8 = .ok (.if_icmp .lt 7, 3) := by decide +kernel
theorem dX8_isAtEnd_11 : decode cX8_isAtEnd 11 = .ok (.iconst 1, 1) := by decide +kernel
theorem dX8_isAtEnd_12 : decode cX8_isAtEnd 12 = .ok (.goto 4, 3) := by decide +kernel
theorem dX8_isAtEnd_15 : decode cX8_isAtEnd 15 = .ok (.iconst 0, 1) := by decide +kernel
theorem dX8_isAtEnd_16 : decode cX8_isAtEnd 16 = .ok (.ireturn, 1) := by decide +kernel
theorem dX8_peek_0 : decode cX8_peek 0 = .ok (.aload_n 0, 1) := by decide +kernel
theorem dX8_peek_1 : decode cX8_peek 1 = .ok (.getfield 15, 3) := by decide +kernel
theorem dX8_peek_4 : decode cX8_peek 4 = .ok (.aload_n 0, 1) := by decide +kernel
theorem dX8_peek_5 : decode cX8_peek 5 = .ok (.getfield 9, 3) := by decide +kernel
theorem dX8_peek_8 : decode cX8_peek 8 = .ok (.if_icmp .ge 15, 3) := by decide +kernel
theorem dX8_peek_11 : decode cX8_peek 11 = .ok (.aload_n 0, 1) := by decide +kernel
theorem dX8_peek_12 : decode cX8_peek 12 = .ok (.getfield 18, 3) := by decide +kernel
theorem dX8_peek_15 : decode cX8_peek 15 = .ok (.aload_n 0, 1) := by decide +kernel
theorem dX8_peek_16 : decode cX8_peek 16 = .ok (.getfield 15, 3) := by decide +kernel
theorem dX8_peek_19 : decode cX8_peek 19 = .ok (.iaload, 1) := by decide +kernel
theorem dX8_peek_20 : decode cX8_peek 20 = .ok (.goto 4, 3) := by decide +kernel
theorem dX8_peek_23 : decode cX8_peek 23 = .ok (.iconst (-1), 1) := by decide +kernel
theorem dX8_peek_24 : decode cX8_peek 24 = .ok (.ireturn, 1) := by decide +kernel
theorem dX8_accept_0 : decode cX8_accept 0 = .ok (.aload_n 0, 1) := by decide +kernel
theorem dX8_accept_1 : decode cX8_accept 1 = .ok (.getfield 15, 3) := by decide +kernel
theorem dX8_accept_4 : decode cX8_accept 4 = .ok (.aload_n 0, 1) := by decide +kernel
theorem dX8_accept_5 : decode cX8_accept 5 = .ok (.getfield 9, 3) := by decide +kernel
theorem dX8_accept_8 : decode cX8_accept 8 = .ok (.if_icmp .ge 16, 3) := by decide +kernel
theorem dX8_accept_11 : decode cX8_accept 11 = .ok (.aload_n 0, 1) := by decide +kernel
theorem dX8_accept_12 : decode cX8_accept 12 = .ok (.getfield 18, 3) := by decide +kernel
theorem dX8_accept_15 : decode cX8_accept 15 = .ok (.aload_n 0, 1) := by decide +kernel
theorem dX8_accept_16 : decode cX8_accept 16 = .ok (.getfield 15, 3) := by decide +kernel
theorem dX8_accept_19 : decode cX8_accept 19 = .ok (.iaload, 1) := by decide +kernel
theorem dX8_accept_20 : decode cX8_accept 20 = .ok (.iload_n 1, 1) := by decide +kernel
theorem dX8_accept_21 : decode cX8_accept 21 = .ok (.if_icmp .eq 5, 3) := by decide +kernel
theorem dX8_accept_24 : decode cX8_accept 24 = .ok (.iconst 0, 1) := by decide +kernel
theorem dX8_accept_25 : decode cX8_accept 25 = .ok (.ireturn, 1) := by decide +kernel
theorem dX8_accept_26 : decode cX8_accept 26 = .ok (.aload_n 0, 1) := by decide +kernel
theorem dX8_accept_27 : decode cX8_accept 27 = .ok (.dup, 1) := by decide +kernel
theorem dX8_accept_28 : decode cX8_accept 28 = .ok (.getfield 15, 3) := by decide +kernel
theorem dX8_accept_31 : decode cX8_accept 31 = .ok (.iconst 1, 1) := by decide +kernel
theorem dX8_accept_32 : decode cX8_accept 32 = .ok (.iadd, 1) := by decide +kernel
theorem dX8_accept_33 : decode cX8_accept 33 = .ok (.putfield 15, 3) := by decide +kernel
theorem dX8_accept_36 : decode cX8_accept 36 = .ok (.iconst 1, 1) := by decide +kernel
theorem dX8_accept_37 : decode cX8_accept 37 = .ok (.ireturn, 1) := by decide +kernel
theorem dX8_figureBelow_0 : decode cX8_figureBelow 0 = .ok (.aload_n 0, 1) := by decide +kernel
theorem dX8_figureBelow_1 : decode cX8_figureBelow 1 = .ok (.getfield 15, 3) := by decide +kernel
theorem dX8_figureBelow_4 : decode cX8_figureBelow 4 = .ok (.aload_n 0, 1) := by decide +kernel
theorem dX8_figureBelow_5 : decode cX8_figureBelow 5 = .ok (.getfield 9, 3) := by decide +kernel
theorem dX8_figureBelow_8 : decode cX8_figureBelow 8 = .ok (.if_icmp .ge 18, 3) := by decide +kernel
theorem dX8_figureBelow_11 : decode cX8_figureBelow 11 = .ok (.aload_n 0, 1) := by decide +kernel
theorem dX8_figureBelow_12 : decode cX8_figureBelow 12 = .ok (.getfield 18, 3) := by decide +kernel
theorem dX8_figureBelow_15 : decode cX8_figureBelow 15 = .ok (.aload_n 0, 1) := by decide +kernel
theorem dX8_figureBelow_16 : decode cX8_figureBelow 16 = .ok (.getfield 15, 3) := by decide +kernel
theorem dX8_figureBelow_19 : decode cX8_figureBelow 19 = .ok (.iaload, 1) := by decide +kernel
theorem dX8_figureBelow_20 : decode cX8_figureBelow 20 = .ok (.bipush 48, 2) := by decide +kernel
theorem dX8_figureBelow_22 : decode cX8_figureBelow 22 = .ok (.isub, 1) := by decide +kernel
theorem dX8_figureBelow_23 : decode cX8_figureBelow 23 = .ok (.goto 4, 3) := by decide +kernel
theorem dX8_figureBelow_26 : decode cX8_figureBelow 26 = .ok (.iconst (-1), 1) := by decide +kernel
theorem dX8_figureBelow_27 : decode cX8_figureBelow 27 = .ok (.istore_n 2, 1) := by decide +kernel
theorem dX8_figureBelow_28 : decode cX8_figureBelow 28 = .ok (.iload_n 2, 1) := by decide +kernel
theorem dX8_figureBelow_29 : decode cX8_figureBelow 29 = .ok (.ifCond .lt 14, 3) := by decide +kernel
theorem dX8_figureBelow_32 : decode cX8_figureBelow 32 = .ok (.iload_n 2, 1) := by decide +kernel
theorem dX8_figureBelow_33 : decode cX8_figureBelow 33 = .ok (.bipush 9, 2) := by decide +kernel
theorem dX8_figureBelow_35 : decode cX8_figureBelow 35 = .ok (.if_icmp .gt 8, 3) := by decide +kernel
theorem dX8_figureBelow_38 : decode cX8_figureBelow 38 = .ok (.iload_n 2, 1) := by decide +kernel
theorem dX8_figureBelow_39 : decode cX8_figureBelow 39 = .ok (.iload_n 1, 1) := by decide +kernel
theorem dX8_figureBelow_40 : decode cX8_figureBelow 40 = .ok (.if_icmp .lt 5, 3) := by decide +kernel
theorem dX8_figureBelow_43 : decode cX8_figureBelow 43 = .ok (.iconst (-1), 1) := by decide +kernel
theorem dX8_figureBelow_44 : decode cX8_figureBelow 44 = .ok (.ireturn, 1) := by decide +kernel
theorem dX8_figureBelow_45 : decode cX8_figureBelow 45 = .ok (.aload_n 0, 1) := by decide +kernel
theorem dX8_figureBelow_46 : decode cX8_figureBelow 46 = .ok (.dup, 1) := by decide +kernel
theorem dX8_figureBelow_47 : decode cX8_figureBelow 47 = .ok (.getfield 15, 3) := by decide +kernel
theorem dX8_figureBelow_50 : decode cX8_figureBelow 50 = .ok (.iconst 1, 1) := by decide +kernel
theorem dX8_figureBelow_51 : decode cX8_figureBelow 51 = .ok (.iadd, 1) := by decide +kernel
theorem dX8_figureBelow_52 : decode cX8_figureBelow 52 = .ok (.putfield 15, 3) := by decide +kernel
theorem dX8_figureBelow_55 : decode cX8_figureBelow 55 = .ok (.iload_n 2, 1) := by decide +kernel
theorem dX8_figureBelow_56 : decode cX8_figureBelow 56 = .ok (.ireturn, 1) := by decide +kernel
theorem dX8_number_0 : decode cX8_number 0 = .ok (.iconst (-1), 1) := by decide +kernel
theorem dX8_number_1 : decode cX8_number 1 = .ok (.istore_n 1, 1) := by decide +kernel
theorem dX8_number_2 : decode cX8_number 2 = .ok (.iconst 0, 1) := by decide +kernel
theorem dX8_number_3 : decode cX8_number 3 = .ok (.istore_n 2, 1) := by decide +kernel
theorem dX8_number_4 : decode cX8_number 4 = .ok (.iload_n 2, 1) := by decide +kernel
theorem dX8_number_5 : decode cX8_number 5 = .ok (.iconst 2, 1) := by decide +kernel
theorem dX8_number_6 : decode cX8_number 6 = .ok (.if_icmp .ge 70, 3) := by decide +kernel
theorem dX8_number_9 : decode cX8_number 9 = .ok (.aload_n 0, 1) := by decide +kernel
theorem dX8_number_10 : decode cX8_number 10 = .ok (.getfield 15, 3) := by decide +kernel
theorem dX8_number_13 : decode cX8_number 13 = .ok (.aload_n 0, 1) := by decide +kernel
theorem dX8_number_14 : decode cX8_number 14 = .ok (.getfield 9, 3) := by decide +kernel
theorem dX8_number_17 : decode cX8_number 17 = .ok (.if_icmp .ge 59, 3) := by decide +kernel
theorem dX8_number_20 : decode cX8_number 20 = .ok (.aload_n 0, 1) := by decide +kernel
theorem dX8_number_21 : decode cX8_number 21 = .ok (.getfield 18, 3) := by decide +kernel
theorem dX8_number_24 : decode cX8_number 24 = .ok (.aload_n 0, 1) := by decide +kernel
theorem dX8_number_25 : decode cX8_number 25 = .ok (.getfield 15, 3) := by decide +kernel
theorem dX8_number_28 : decode cX8_number 28 = .ok (.iaload, 1) := by decide +kernel
theorem dX8_number_29 : decode cX8_number 29 = .ok (.bipush 48, 2) := by decide +kernel
theorem dX8_number_31 : decode cX8_number 31 = .ok (.isub, 1) := by decide +kernel
theorem dX8_number_32 : decode cX8_number 32 = .ok (.istore_n 3, 1) := by decide +kernel
theorem dX8_number_33 : decode cX8_number 33 = .ok (.iload_n 3, 1) := by decide +kernel
theorem dX8_number_34 : decode cX8_number 34 = .ok (.ifCond .lt 9, 3) := by decide +kernel
theorem dX8_number_37 : decode cX8_number 37 = .ok (.iload_n 3, 1) := by decide +kernel
theorem dX8_number_38 : decode cX8_number 38 = .ok (.bipush 9, 2) := by decide +kernel
theorem dX8_number_40 : decode cX8_number 40 = .ok (.if_icmp .le 5, 3) := by decide +kernel
theorem dX8_number_43 : decode cX8_number 43 = .ok (.iload_n 1, 1) := by decide +kernel
theorem dX8_number_44 : decode cX8_number 44 = .ok (.ireturn, 1) := by decide +kernel
theorem dX8_number_45 : decode cX8_number 45 = .ok (.iload_n 2, 1) := by decide +kernel
theorem dX8_number_46 : decode cX8_number 46 = .ok (.ifCond .ne 7, 3) := by decide +kernel
theorem dX8_number_49 : decode cX8_number 49 = .ok (.iload_n 3, 1) := by decide +kernel
theorem dX8_number_50 : decode cX8_number 50 = .ok (.goto 9, 3) := by decide +kernel
theorem dX8_number_53 : decode cX8_number 53 = .ok (.iload_n 1, 1) := by decide +kernel
theorem dX8_number_54 : decode cX8_number 54 = .ok (.bipush 10, 2) := by decide +kernel
theorem dX8_number_56 : decode cX8_number 56 = .ok (.imul, 1) := by decide +kernel
theorem dX8_number_57 : decode cX8_number 57 = .ok (.iload_n 3, 1) := by decide +kernel
theorem dX8_number_58 : decode cX8_number 58 = .ok (.iadd, 1) := by decide +kernel
theorem dX8_number_59 : decode cX8_number 59 = .ok (.istore_n 1, 1) := by decide +kernel
theorem dX8_number_60 : decode cX8_number 60 = .ok (.aload_n 0, 1) := by decide +kernel
theorem dX8_number_61 : decode cX8_number 61 = .ok (.dup, 1) := by decide +kernel
theorem dX8_number_62 : decode cX8_number 62 = .ok (.getfield 15, 3) := by decide +kernel
theorem dX8_number_65 : decode cX8_number 65 = .ok (.iconst 1, 1) := by decide +kernel
theorem dX8_number_66 : decode cX8_number 66 = .ok (.iadd, 1) := by decide +kernel
theorem dX8_number_67 : decode cX8_number 67 = .ok (.putfield 15, 3) := by decide +kernel
theorem dX8_number_70 : decode cX8_number 70 = .ok (.iinc 2 1, 3) := by decide +kernel
theorem dX8_number_73 : decode cX8_number 73 = .ok (.goto (-69), 3) := by decide +kernel
theorem dX8_number_76 : decode cX8_number 76 = .ok (.iload_n 1, 1) := by decide +kernel
theorem dX8_number_77 : decode cX8_number 77 = .ok (.ireturn, 1) := by decide +kernel
theorem dX9_init_0 : decode cX9_init 0 = .ok (.aload_n 0, 1) := by decide +kernel
theorem dX9_init_1 : decode cX9_init 1 = .ok (.invokespecial 3, 3) := by decide +kernel
theorem dX9_init_4 : decode cX9_init 4 = .ok (.aload_n 0, 1) := by decide +kernel
theorem dX9_init_5 : decode cX9_init 5 = .ok (.new 9, 3) := by decide +kernel
theorem dX9_init_8 : decode cX9_init 8 = .ok (.dup, 1) := by decide +kernel
theorem dX9_init_9 : decode cX9_init 9 = .ok (.invokespecial 11, 3) := by decide +kernel
theorem dX9_init_12 : decode cX9_init 12 = .ok (.putfield 12, 3) := by decide +kernel
theorem dX9_init_15 : decode cX9_init 15 = .ok (.aload_n 0, 1) := by decide +kernel
theorem dX9_init_16 : decode cX9_init 16 = .ok (.new 9, 3) := by decide +kernel
theorem dX9_init_19 : decode cX9_init 19 = .ok (.dup, 1) := by decide +kernel
theorem dX9_init_20 : decode cX9_init 20 = .ok (.invokespecial 11, 3) := by decide +kernel
theorem dX9_init_23 : decode cX9_init 23 = .ok (.putfield 18, 3) := by decide +kernel
theorem dX9_init_26 : decode cX9_init 26 = .ok (.aload_n 0, 1) := by decide +kernel
theorem dX9_init_27 : decode cX9_init 27 = .ok (.iconst 3, 1) := by decide +kernel
theorem dX9_init_28 : decode cX9_init 28 = .ok (.anewarray 21, 3) := by decide +kernel
theorem dX9_init_31 : decode cX9_init 31 = .ok (.putfield 23, 3) := by decide +kernel
theorem dX9_init_34 : decode cX9_init 34 = .ok (.aload_n 0, 1) := by decide +kernel
theorem dX9_init_35 : decode cX9_init 35 = .ok (.iconst 3, 1) := by decide +kernel
theorem dX9_init_36 : decode cX9_init 36 = .ok (.anewarray 21, 3) := by decide +kernel
theorem dX9_init_39 : decode cX9_init 39 = .ok (.putfield 27, 3) := by decide +kernel
theorem dX9_init_42 : decode cX9_init 42 = .ok (.aload_n 0, 1) := by decide +kernel
theorem dX9_init_43 : decode cX9_init 43 = .ok (.iconst 3, 1) := by decide +kernel
theorem dX9_init_44 : decode cX9_init 44 = .ok (.anewarray 30, 3) := by decide +kernel
theorem dX9_init_47 : decode cX9_init 47 = .ok (.putfield 32, 3) := by decide +kernel
theorem dX9_init_50 : decode cX9_init 50 = .ok (.aload_n 0, 1) := by decide +kernel
theorem dX9_init_51 : decode cX9_init 51 = .ok (.iconst 3, 1) := by decide +kernel
theorem dX9_init_52 : decode cX9_init 52 = .ok (.anewarray 36, 3) := by decide +kernel
theorem dX9_init_55 : decode cX9_init 55 = .ok (.putfield 38, 3) := by decide +kernel
theorem dX9_init_58 : decode cX9_init 58 = .ok (.aload_n 0, 1) := by decide +kernel
theorem dX9_init_59 : decode cX9_init 59 = .ok (.new 42, 3) := by decide +kernel
theorem dX9_init_62 : decode cX9_init 62 = .ok (.dup, 1) := by decide +kernel
theorem dX9_init_63 : decode cX9_init 63 = .ok (.invokespecial 44, 3) := by decide +kernel
theorem dX9_init_66 : decode cX9_init 66 = .ok (.putfield 45, 3) := by decide +kernel
theorem dX9_init_69 : decode cX9_init 69 = .ok (.aload_n 0, 1) := by decide +kernel
theorem dX9_init_70 : decode cX9_init 70 = .ok (.iconst 0, 1) := by decide +kernel
theorem dX9_init_71 : decode cX9_init 71 = .ok (.putfield 49, 3) := by decide +kernel
theorem dX9_init_74 : decode cX9_init 74 = .ok (.aload_n 0, 1) := by decide +kernel
theorem dX9_init_75 : decode cX9_init 75 = .ok (.new 53, 3) := by decide +kernel
theorem dX9_init_78 : decode cX9_init 78 = .ok (.dup, 1) := by decide +kernel
theorem dX9_init_79 : decode cX9_init 79 = .ok (.aload_n 0, 1) := by decide +kernel
theorem dX9_init_80 : decode cX9_init 80 = .ok (.getfield 12, 3) := by decide +kernel
theorem dX9_init_83 : decode cX9_init 83 = .ok (.invokespecial 55, 3) := by decide +kernel
theorem dX9_init_86 : decode cX9_init 86 = .ok (.putfield 58, 3) := by decide +kernel
theorem dX9_init_89 : decode cX9_init 89 = .ok (.aload_n 0, 1) := by decide +kernel
theorem dX9_init_90 : decode cX9_init 90 = .ok (.new 62, 3) := by decide +kernel
theorem dX9_init_93 : decode cX9_init 93 = .ok (.dup, 1) := by decide +kernel
theorem dX9_init_94 : decode cX9_init 94 = .ok (.aload_n 0, 1) := by decide +kernel
theorem dX9_init_95 : decode cX9_init 95 = .ok (.getfield 45, 3) := by decide +kernel
theorem dX9_init_98 : decode cX9_init 98 = .ok (.aload_n 0, 1) := by decide +kernel
theorem dX9_init_99 : decode cX9_init 99 = .ok (.getfield 12, 3) := by decide +kernel
theorem dX9_init_102 : decode cX9_init 102 = .ok (.invokespecial 64, 3) := by decide +kernel
theorem dX9_init_105 : decode cX9_init 105 = .ok (.putfield 67, 3) := by decide +kernel
theorem dX9_init_108 : decode cX9_init 108 = .ok (.aload_n 0, 1) := by decide +kernel
theorem dX9_init_109 : decode cX9_init 109 = .ok (.new 71, 3) := by decide +kernel
theorem dX9_init_112 : decode cX9_init 112 = .ok (.dup, 1) := by decide +kernel
theorem dX9_init_113 : decode cX9_init 113 = .ok (.aload_n 0, 1) := by decide +kernel
theorem dX9_init_114 : decode cX9_init 114 = .ok (.getfield 45, 3) := by decide +kernel
theorem dX9_init_117 : decode cX9_init 117 = .ok (.aload_n 0, 1) := by decide +kernel
theorem dX9_init_118 : decode cX9_init 118 = .ok (.getfield 12, 3) := by decide +kernel
theorem dX9_init_121 : decode cX9_init 121 = .ok (.invokespecial 73, 3) := by decide +kernel
theorem dX9_init_124 : decode cX9_init 124 = .ok (.putfield 74, 3) := by decide +kernel
theorem dX9_init_127 : decode cX9_init 127 = .ok (.iconst 0, 1) := by decide +kernel
theorem dX9_init_128 : decode cX9_init 128 = .ok (.istore_n 1, 1) := by decide +kernel
theorem dX9_init_129 : decode cX9_init 129 = .ok (.iload_n 1, 1) := by decide +kernel
theorem dX9_init_130 : decode cX9_init 130 = .ok (.iconst 3, 1) := by decide +kernel
theorem dX9_init_131 : decode cX9_init 131 = .ok (.if_icmp .ge 62, 3) := by decide +kernel
theorem dX9_init_134 : decode cX9_init 134 = .ok (.aload_n 0, 1) := by decide +kernel
theorem dX9_init_135 : decode cX9_init 135 = .ok (.getfield 23, 3) := by decide +kernel
theorem dX9_init_138 : decode cX9_init 138 = .ok (.iload_n 1, 1) := by decide +kernel
theorem dX9_init_139 : decode cX9_init 139 = .ok (.new 21, 3) := by decide +kernel
theorem dX9_init_142 : decode cX9_init 142 = .ok (.dup, 1) := by decide +kernel
theorem dX9_init_143 : decode cX9_init 143 = .ok (.invokespecial 78, 3) := by decide +kernel
theorem dX9_init_146 : decode cX9_init 146 = .ok (.aastore, 1) := by decide +kernel
theorem dX9_init_147 : decode cX9_init 147 = .ok (.aload_n 0, 1) := by decide +kernel
theorem dX9_init_148 : decode cX9_init 148 = .ok (.getfield 27, 3) := by decide +kernel
theorem dX9_init_151 : decode cX9_init 151 = .ok (.iload_n 1, 1) := by decide +kernel
theorem dX9_init_152 : decode cX9_init 152 = .ok (.new 21, 3) := by decide +kernel
theorem dX9_init_155 : decode cX9_init 155 = .ok (.dup, 1) := by decide +kernel
theorem dX9_init_156 : decode cX9_init 156 = .ok (.invokespecial 78, 3) := by decide +kernel
theorem dX9_init_159 : decode cX9_init 159 = .ok (.aastore, 1) := by decide +kernel
theorem dX9_init_160 : decode cX9_init 160 = .ok (.aload_n 0, 1) := by decide +kernel
theorem dX9_init_161 : decode cX9_init 161 = .ok (.getfield 32, 3) := by decide +kernel
theorem dX9_init_164 : decode cX9_init 164 = .ok (.iload_n 1, 1) := by decide +kernel
theorem dX9_init_165 : decode cX9_init 165 = .ok (.new 30, 3) := by decide +kernel
theorem dX9_init_168 : decode cX9_init 168 = .ok (.dup, 1) := by decide +kernel
theorem dX9_init_169 : decode cX9_init 169 = .ok (.aload_n 0, 1) := by decide +kernel
theorem dX9_init_170 : decode cX9_init 170 = .ok (.getfield 23, 3) := by decide +kernel
theorem dX9_init_173 : decode cX9_init 173 = .ok (.iload_n 1, 1) := by decide +kernel
theorem dX9_init_174 : decode cX9_init 174 = .ok (.aaload, 1) := by decide +kernel
theorem dX9_init_175 : decode cX9_init 175 = .ok (.aload_n 0, 1) := by decide +kernel
theorem dX9_init_176 : decode cX9_init 176 = .ok (.getfield 58, 3) := by decide +kernel
theorem dX9_init_179 : decode cX9_init 179 = .ok (.aload_n 0, 1) := by decide +kernel
theorem dX9_init_180 : decode cX9_init 180 = .ok (.getfield 12, 3) := by decide +kernel
theorem dX9_init_183 : decode cX9_init 183 = .ok (.invokespecial 79, 3) := by decide +kernel
theorem dX9_init_186 : decode cX9_init 186 = .ok (.aastore, 1) := by decide +kernel
theorem dX9_init_187 : decode cX9_init 187 = .ok (.iinc 1 1, 3) := by decide +kernel
theorem dX9_init_190 : decode cX9_init 190 = .ok (.goto (-61), 3) := by decide +kernel
theorem dX9_init_193 : decode cX9_init 193 = .ok (.iconst 0, 1) := by decide +kernel
theorem dX9_init_194 : decode cX9_init 194 = .ok (.istore_n 1, 1) := by decide +kernel
theorem dX9_init_195 : decode cX9_init 195 = .ok (.iload_n 1, 1) := by decide +kernel
theorem dX9_init_196 : decode cX9_init 196 = .ok (.iconst 3, 1) := by decide +kernel
theorem dX9_init_197 : decode cX9_init 197 = .ok (.if_icmp .ge 22, 3) := by decide +kernel
theorem dX9_init_200 : decode cX9_init 200 = .ok (.aload_n 0, 1) := by decide +kernel
theorem dX9_init_201 : decode cX9_init 201 = .ok (.getfield 38, 3) := by decide +kernel
theorem dX9_init_204 : decode cX9_init 204 = .ok (.iload_n 1, 1) := by decide +kernel
theorem dX9_init_205 : decode cX9_init 205 = .ok (.new 36, 3) := by decide +kernel
theorem dX9_init_208 : decode cX9_init 208 = .ok (.dup, 1) := by decide +kernel
theorem dX9_init_209 : decode cX9_init 209 = .ok (.invokespecial 82, 3) := by decide +kernel
theorem dX9_init_212 : decode cX9_init 212 = .ok (.aastore, 1) := by decide +kernel
theorem dX9_init_213 : decode cX9_init 213 = .ok (.iinc 1 1, 3) := by decide +kernel
theorem dX9_init_216 : decode cX9_init 216 = .ok (.goto (-21), 3) := by decide +kernel
theorem dX9_init_219 : decode cX9_init 219 = .ok (.return_, 1) := by decide +kernel
theorem dX9_processes_0 : decode cX9_processes 0 = .ok (.iload_n 1, 1) := by decide +kernel
theorem dX9_processes_1 : decode cX9_processes 1 = .ok (.iconst 1, 1) := by decide +kernel
theorem dX9_processes_2 : decode cX9_processes 2 = .ok (.if_icmp .lt 8, 3) := by decide +kernel
theorem dX9_processes_5 : decode cX9_processes 5 = .ok (.iload_n 1, 1) := by decide +kernel
theorem dX9_processes_6 : decode cX9_processes 6 = .ok (.iconst 4, 1) := by decide +kernel
theorem dX9_processes_7 : decode cX9_processes 7 = .ok (.if_icmp .le 6, 3) := by decide +kernel
theorem dX9_processes_10 : decode cX9_processes 10 = .ok (.bipush (-2), 2) := by decide +kernel
theorem dX9_processes_12 : decode cX9_processes 12 = .ok (.ireturn, 1) := by decide +kernel
theorem dX9_processes_13 : decode cX9_processes 13 = .ok (.aload_n 0, 1) := by decide +kernel
theorem dX9_processes_14 : decode cX9_processes 14 = .ok (.getfield 12, 3) := by decide +kernel
theorem dX9_processes_17 : decode cX9_processes 17 = .ok (.getfield 83, 3) := by decide +kernel
theorem dX9_processes_20 : decode cX9_processes 20 = .ok (.istore_n 2, 1) := by decide +kernel
theorem dX9_processes_21 : decode cX9_processes 21 = .ok (.aload_n 0, 1) := by decide +kernel
theorem dX9_processes_22 : decode cX9_processes 22 = .ok (.getfield 12, 3) := by decide +kernel
theorem dX9_processes_25 : decode cX9_processes 25 = .ok (.iload_n 1, 1) := by decide +kernel
theorem dX9_processes_26 : decode cX9_processes 26 = .ok (.invokevirtual 87, 3) := by decide +kernel
theorem dX9_processes_29 : decode cX9_processes 29 = .ok (.iconst 0, 1) := by decide +kernel
theorem dX9_processes_30 : decode cX9_processes 30 = .ok (.istore_n 3, 1) := by decide +kernel
theorem dX9_processes_31 : decode cX9_processes 31 = .ok (.iload_n 3, 1) := by decide +kernel
theorem dX9_processes_32 : decode cX9_processes 32 = .ok (.iconst 3, 1) := by decide +kernel
theorem dX9_processes_33 : decode cX9_processes 33 = .ok (.if_icmp .ge 19, 3) := by decide +kernel
theorem dX9_processes_36 : decode cX9_processes 36 = .ok (.aload_n 0, 1) := by decide +kernel
theorem dX9_processes_37 : decode cX9_processes 37 = .ok (.getfield 23, 3) := by decide +kernel
theorem dX9_processes_40 : decode cX9_processes 40 = .ok (.iload_n 3, 1) := by decide +kernel
theorem dX9_processes_41 : decode cX9_processes 41 = .ok (.aaload, 1) := by decide +kernel
theorem dX9_processes_42 : decode cX9_processes 42 = .ok (.iconst 0, 1) := by decide +kernel
theorem dX9_processes_43 : decode cX9_processes 43 = .ok (.putfield 91, 3) := by decide +kernel
theorem dX9_processes_46 : decode cX9_processes 46 = .ok (.iinc 3 1, 3) := by decide +kernel
theorem dX9_processes_49 : decode cX9_processes 49 = .ok (.goto (-18), 3) := by decide +kernel
theorem dX9_processes_52 : decode cX9_processes 52 = .ok (.aload_n 0, 1) := by decide +kernel
theorem dX9_processes_53 : decode cX9_processes 53 = .ok (.invokevirtual 94, 3) := by decide +kernel
theorem dX9_processes_56 : decode cX9_processes 56 = .ok (.iload_n 2, 1) := by decide +kernel
theorem dX9_processes_57 : decode cX9_processes 57 = .ok (.ireturn, 1) := by decide +kernel
theorem dX9_start_0 : decode cX9_start 0 = .ok (.aload_n 0, 1) := by decide +kernel
theorem dX9_start_1 : decode cX9_start 1 = .ok (.getfield 12, 3) := by decide +kernel
theorem dX9_start_4 : decode cX9_start 4 = .ok (.iload_n 1, 1) := by decide +kernel
theorem dX9_start_5 : decode cX9_start 5 = .ok (.invokevirtual 97, 3) := by decide +kernel
theorem dX9_start_8 : decode cX9_start 8 = .ok (.ifCond .ne 5, 3) := by decide +kernel
theorem dX9_start_11 : decode cX9_start 11 = .ok (.iconst (-1), 1) := by decide +kernel
theorem dX9_start_12 : decode cX9_start 12 = .ok (.ireturn, 1) := by decide +kernel
theorem dX9_start_13 : decode cX9_start 13 = .ok (.iload_n 2, 1) := by decide +kernel
theorem dX9_start_14 : decode cX9_start 14 = .ok (.invokestatic 101, 3) := by decide +kernel
theorem dX9_start_17 : decode cX9_start 17 = .ok (.ifCond .ne 6, 3) := by decide +kernel
theorem dX9_start_20 : decode cX9_start 20 = .ok (.bipush (-2), 2) := by decide +kernel
theorem dX9_start_22 : decode cX9_start 22 = .ok (.ireturn, 1) := by decide +kernel
theorem dX9_start_23 : decode cX9_start 23 = .ok (.aload_n 0, 1) := by decide +kernel
theorem dX9_start_24 : decode cX9_start 24 = .ok (.getfield 12, 3) := by decide +kernel
theorem dX9_start_27 : decode cX9_start 27 = .ok (.getfield 104, 3) := by decide +kernel
theorem dX9_start_30 : decode cX9_start 30 = .ok (.iload_n 1, 1) := by decide +kernel
theorem dX9_start_31 : decode cX9_start 31 = .ok (.iaload, 1) := by decide +kernel
theorem dX9_start_32 : decode cX9_start 32 = .ok (.istore_n 3, 1) := by decide +kernel
theorem dX9_start_33 : decode cX9_start 33 = .ok (.aload_n 0, 1) := by decide +kernel
theorem dX9_start_34 : decode cX9_start 34 = .ok (.getfield 12, 3) := by decide +kernel
theorem dX9_start_37 : decode cX9_start 37 = .ok (.getfield 104, 3) := by decide +kernel
theorem dX9_start_40 : decode cX9_start 40 = .ok (.iload_n 1, 1) := by decide +kernel
theorem dX9_start_41 : decode cX9_start 41 = .ok (.iload_n 2, 1) := by decide +kernel
theorem dX9_start_42 : decode cX9_start 42 = .ok (.iastore, 1) := by decide +kernel
theorem dX9_start_43 : decode cX9_start 43 = .ok (.aload_n 0, 1) := by decide +kernel
theorem dX9_start_44 : decode cX9_start 44 = .ok (.invokevirtual 108, 3) := by decide +kernel
theorem dX9_start_47 : decode cX9_start 47 = .ok (.iload_n 3, 1) := by decide +kernel
theorem dX9_start_48 : decode cX9_start 48 = .ok (.bipush 100, 2) := by decide +kernel
theorem dX9_start_50 : decode cX9_start 50 = .ok (.iadd, 1) := by decide +kernel
theorem dX9_start_51 : decode cX9_start 51 = .ok (.ireturn, 1) := by decide +kernel
theorem dX9_step_0 : decode cX9_step 0 = .ok (.aload_n 0, 1) := by decide +kernel
theorem dX9_step_1 : decode cX9_step 1 = .ok (.getfield 12, 3) := by decide +kernel
theorem dX9_step_4 : decode cX9_step 4 = .ok (.iload_n 1, 1) := by decide +kernel
theorem dX9_step_5 : decode cX9_step 5 = .ok (.invokevirtual 97, 3) := by decide +kernel
theorem dX9_step_8 : decode cX9_step 8 = .ok (.ifCond .ne 5, 3) := by decide +kernel
theorem dX9_step_11 : decode cX9_step 11 = .ok (.iconst (-1), 1) := by decide +kernel
theorem dX9_step_12 : decode cX9_step 12 = .ok (.ireturn, 1) := by decide +kernel
theorem dX9_step_13 : decode cX9_step 13 = .ok (.iload_n 2, 1) := by decide +kernel
theorem dX9_step_14 : decode cX9_step 14 = .ok (.invokestatic 101, 3) := by decide +kernel
theorem dX9_step_17 : decode cX9_step 17 = .ok (.ifCond .ne 6, 3) := by decide +kernel
theorem dX9_step_20 : decode cX9_step 20 = .ok (.bipush (-2), 2) := by decide +kernel
theorem dX9_step_22 : decode cX9_step 22 = .ok (.ireturn, 1) := by decide +kernel
theorem dX9_step_23 : decode cX9_step 23 = .ok (.aload_n 0, 1) := by decide +kernel
theorem dX9_step_24 : decode cX9_step 24 = .ok (.getfield 12, 3) := by decide +kernel
theorem dX9_step_27 : decode cX9_step 27 = .ok (.iload_n 1, 1) := by decide +kernel
theorem dX9_step_28 : decode cX9_step 28 = .ok (.invokevirtual 111, 3) := by decide +kernel
theorem dX9_step_31 : decode cX9_step 31 = .ok (.ifCond .eq 6, 3) := by decide +kernel
theorem dX9_step_34 : decode cX9_step 34 = .ok (.bipush (-4), 2) := by decide +kernel
theorem dX9_step_36 : decode cX9_step 36 = .ok (.ireturn, 1) := by decide +kernel
theorem dX9_step_37 : decode cX9_step 37 = .ok (.aload_n 0, 1) := by decide +kernel
theorem dX9_step_38 : decode cX9_step 38 = .ok (.getfield 12, 3) := by decide +kernel
theorem dX9_step_41 : decode cX9_step 41 = .ok (.iload_n 1, 1) := by decide +kernel
theorem dX9_step_42 : decode cX9_step 42 = .ok (.iconst 0, 1) := by decide +kernel
theorem dX9_step_43 : decode cX9_step 43 = .ok (.bipush (-5), 2) := by decide +kernel
theorem dX9_step_45 : decode cX9_step 45 = .ok (.iload_n 2, 1) := by decide +kernel
theorem dX9_step_46 : decode cX9_step 46 = .ok (.invokevirtual 114, 3) := by decide +kernel
theorem dX9_step_49 : decode cX9_step 49 = .ok (.aload_n 0, 1) := by decide +kernel
theorem dX9_step_50 : decode cX9_step 50 = .ok (.invokevirtual 94, 3) := by decide +kernel
theorem dX9_step_53 : decode cX9_step 53 = .ok (.aload_n 0, 1) := by decide +kernel
theorem dX9_step_54 : decode cX9_step 54 = .ok (.getfield 12, 3) := by decide +kernel
theorem dX9_step_57 : decode cX9_step 57 = .ok (.getfield 118, 3) := by decide +kernel
theorem dX9_step_60 : decode cX9_step 60 = .ok (.iload_n 1, 1) := by decide +kernel
theorem dX9_step_61 : decode cX9_step 61 = .ok (.iaload, 1) := by decide +kernel
theorem dX9_step_62 : decode cX9_step 62 = .ok (.ireturn, 1) := by decide +kernel
theorem dX9_send_0 : decode cX9_send 0 = .ok (.aload_n 0, 1) := by decide +kernel
theorem dX9_send_1 : decode cX9_send 1 = .ok (.getfield 12, 3) := by decide +kernel
theorem dX9_send_4 : decode cX9_send 4 = .ok (.iload_n 1, 1) := by decide +kernel
theorem dX9_send_5 : decode cX9_send 5 = .ok (.invokevirtual 97, 3) := by decide +kernel
theorem dX9_send_8 : decode cX9_send 8 = .ok (.ifCond .ne 5, 3) := by decide +kernel
theorem dX9_send_11 : decode cX9_send 11 = .ok (.iconst (-1), 1) := by decide +kernel
theorem dX9_send_12 : decode cX9_send 12 = .ok (.ireturn, 1) := by decide +kernel
theorem dX9_send_13 : decode cX9_send 13 = .ok (.iload_n 2, 1) := by decide +kernel
theorem dX9_send_14 : decode cX9_send 14 = .ok (.invokestatic 101, 3) := by decide +kernel
theorem dX9_send_17 : decode cX9_send 17 = .ok (.ifCond .ne 6, 3) := by decide +kernel
theorem dX9_send_20 : decode cX9_send 20 = .ok (.bipush (-2), 2) := by decide +kernel
theorem dX9_send_22 : decode cX9_send 22 = .ok (.ireturn, 1) := by decide +kernel
theorem dX9_send_23 : decode cX9_send 23 = .ok (.aload_n 0, 1) := by decide +kernel
theorem dX9_send_24 : decode cX9_send 24 = .ok (.getfield 12, 3) := by decide +kernel
theorem dX9_send_27 : decode cX9_send 27 = .ok (.iload_n 1, 1) := by decide +kernel
theorem dX9_send_28 : decode cX9_send 28 = .ok (.invokevirtual 111, 3) := by decide +kernel
theorem dX9_send_31 : decode cX9_send 31 = .ok (.ifCond .ne 15, 3) := by decide +kernel
theorem dX9_send_34 : decode cX9_send 34 = .ok (.aload_n 0, 1) := by decide +kernel
theorem dX9_send_35 : decode cX9_send 35 = .ok (.getfield 12, 3) := by decide +kernel
theorem dX9_send_38 : decode cX9_send 38 = .ok (.getfield 121, 3) := by decide +kernel
theorem dX9_send_41 : decode cX9_send 41 = .ok (.bipush 8, 2) := by decide +kernel
theorem dX9_send_43 : decode cX9_send 43 = .ok (.if_icmp .lt 6, 3) := by decide +kernel
theorem dX9_send_46 : decode cX9_send 46 = .ok (.bipush (-4), 2) := by decide +kernel
theorem dX9_send_48 : decode cX9_send 48 = .ok (.ireturn, 1) := by decide +kernel
theorem dX9_send_49 : decode cX9_send 49 = .ok (.aload_n 0, 1) := by decide +kernel
theorem dX9_send_50 : decode cX9_send 50 = .ok (.getfield 12, 3) := by decide +kernel
theorem dX9_send_53 : decode cX9_send 53 = .ok (.iload_n 1, 1) := by decide +kernel
theorem dX9_send_54 : decode cX9_send 54 = .ok (.invokevirtual 124, 3) := by decide +kernel
theorem dX9_send_57 : decode cX9_send 57 = .ok (.istore_n 3, 1) := by decide +kernel
theorem dX9_send_58 : decode cX9_send 58 = .ok (.aload_n 0, 1) := by decide +kernel
theorem dX9_send_59 : decode cX9_send 59 = .ok (.getfield 12, 3) := by decide +kernel
theorem dX9_send_62 : decode cX9_send 62 = .ok (.iload_n 1, 1) := by decide +kernel
theorem dX9_send_63 : decode cX9_send 63 = .ok (.iconst 1, 1) := by decide +kernel
theorem dX9_send_64 : decode cX9_send 64 = .ok (.iload_n 3, 1) := by decide +kernel
theorem dX9_send_65 : decode cX9_send 65 = .ok (.iload_n 2, 1) := by decide +kernel
theorem dX9_send_66 : decode cX9_send 66 = .ok (.invokevirtual 114, 3) := by decide +kernel
theorem dX9_send_69 : decode cX9_send 69 = .ok (.aload_n 0, 1) := by decide +kernel
theorem dX9_send_70 : decode cX9_send 70 = .ok (.invokevirtual 94, 3) := by decide +kernel
theorem dX9_send_73 : decode cX9_send 73 = .ok (.iload_n 3, 1) := by decide +kernel
theorem dX9_send_74 : decode cX9_send 74 = .ok (.ireturn, 1) := by decide +kernel
theorem dX9_take_0 : decode cX9_take 0 = .ok (.aload_n 0, 1) := by decide +kernel
theorem dX9_take_1 : decode cX9_take 1 = .ok (.getfield 12, 3) := by decide +kernel
theorem dX9_take_4 : decode cX9_take 4 = .ok (.iload_n 1, 1) := by decide +kernel
theorem dX9_take_5 : decode cX9_take 5 = .ok (.invokevirtual 97, 3) := by decide +kernel
theorem dX9_take_8 : decode cX9_take 8 = .ok (.ifCond .eq 14, 3) := by decide +kernel
theorem dX9_take_11 : decode cX9_take 11 = .ok (.aload_n 0, 1) := by decide +kernel
theorem dX9_take_12 : decode cX9_take 12 = .ok (.getfield 12, 3) := by decide +kernel
theorem dX9_take_15 : decode cX9_take 15 = .ok (.iload_n 2, 1) := by decide +kernel
theorem dX9_take_16 : decode cX9_take 16 = .ok (.invokevirtual 128, 3) := by decide +kernel
theorem dX9_take_19 : decode cX9_take 19 = .ok (.ifCond .ne 5, 3) := by decide +kernel
theorem dX9_take_22 : decode cX9_take 22 = .ok (.iconst (-1), 1) := by decide +kernel
theorem dX9_take_23 : decode cX9_take 23 = .ok (.ireturn, 1) := by decide +kernel
theorem dX9_take_24 : decode cX9_take 24 = .ok (.iload_n 3, 1) := by decide +kernel
theorem dX9_take_25 : decode cX9_take 25 = .ok (.invokestatic 101, 3) := by decide +kernel
theorem dX9_take_28 : decode cX9_take 28 = .ok (.ifCond .ne 6, 3) := by decide +kernel
theorem dX9_take_31 : decode cX9_take 31 = .ok (.bipush (-2), 2) := by decide +kernel
theorem dX9_take_33 : decode cX9_take 33 = .ok (.ireturn, 1) := by decide +kernel
theorem dX9_take_34 : decode cX9_take 34 = .ok (.aload_n 0, 1) := by decide +kernel
theorem dX9_take_35 : decode cX9_take 35 = .ok (.getfield 12, 3) := by decide +kernel
theorem dX9_take_38 : decode cX9_take 38 = .ok (.iload_n 2, 1) := by decide +kernel
theorem dX9_take_39 : decode cX9_take 39 = .ok (.invokevirtual 131, 3) := by decide +kernel
theorem dX9_take_42 : decode cX9_take 42 = .ok (.ifCond .eq 6, 3) := by decide +kernel
theorem dX9_take_45 : decode cX9_take 45 = .ok (.bipush (-3), 2) := by decide +kernel
theorem dX9_take_47 : decode cX9_take 47 = .ok (.ireturn, 1) := by decide +kernel
theorem dX9_take_48 : decode cX9_take 48 = .ok (.aload_n 0, 1) := by decide +kernel
theorem dX9_take_49 : decode cX9_take 49 = .ok (.getfield 12, 3) := by decide +kernel
theorem dX9_take_52 : decode cX9_take 52 = .ok (.iload_n 1, 1) := by decide +kernel
theorem dX9_take_53 : decode cX9_take 53 = .ok (.invokevirtual 111, 3) := by decide +kernel
theorem dX9_take_56 : decode cX9_take 56 = .ok (.ifCond .eq 6, 3) := by decide +kernel
theorem dX9_take_59 : decode cX9_take 59 = .ok (.bipush (-4), 2) := by decide +kernel
theorem dX9_take_61 : decode cX9_take 61 = .ok (.ireturn, 1) := by decide +kernel
theorem dX9_take_62 : decode cX9_take 62 = .ok (.aload_n 0, 1) := by decide +kernel
theorem dX9_take_63 : decode cX9_take 63 = .ok (.getfield 12, 3) := by decide +kernel
theorem dX9_take_66 : decode cX9_take 66 = .ok (.iload_n 1, 1) := by decide +kernel
theorem dX9_take_67 : decode cX9_take 67 = .ok (.iconst 2, 1) := by decide +kernel
theorem dX9_take_68 : decode cX9_take 68 = .ok (.iload_n 2, 1) := by decide +kernel
theorem dX9_take_69 : decode cX9_take 69 = .ok (.iload_n 3, 1) := by decide +kernel
theorem dX9_take_70 : decode cX9_take 70 = .ok (.invokevirtual 114, 3) := by decide +kernel
theorem dX9_take_73 : decode cX9_take 73 = .ok (.aload_n 0, 1) := by decide +kernel
theorem dX9_take_74 : decode cX9_take 74 = .ok (.getfield 12, 3) := by decide +kernel
theorem dX9_take_77 : decode cX9_take 77 = .ok (.iload_n 2, 1) := by decide +kernel
theorem dX9_take_78 : decode cX9_take 78 = .ok (.iload_n 1, 1) := by decide +kernel
theorem dX9_take_79 : decode cX9_take 79 = .ok (.invokevirtual 134, 3) := by decide +kernel
theorem dX9_take_82 : decode cX9_take 82 = .ok (.aload_n 0, 1) := by decide +kernel
theorem dX9_take_83 : decode cX9_take 83 = .ok (.invokevirtual 94, 3) := by decide +kernel
theorem dX9_take_86 : decode cX9_take 86 = .ok (.aload_n 0, 1) := by decide +kernel
theorem dX9_take_87 : decode cX9_take 87 = .ok (.getfield 12, 3) := by decide +kernel
theorem dX9_take_90 : decode cX9_take 90 = .ok (.getfield 118, 3) := by decide +kernel
theorem dX9_take_93 : decode cX9_take 93 = .ok (.iload_n 1, 1) := by decide +kernel
theorem dX9_take_94 : decode cX9_take 94 = .ok (.iaload, 1) := by decide +kernel
theorem dX9_take_95 : decode cX9_take 95 = .ok (.ireturn, 1) := by decide +kernel
theorem dX9_back_0 : decode cX9_back 0 = .ok (.aload_n 0, 1) := by decide +kernel
theorem dX9_back_1 : decode cX9_back 1 = .ok (.getfield 12, 3) := by decide +kernel
theorem dX9_back_4 : decode cX9_back 4 = .ok (.getfield 138, 3) := by decide +kernel
theorem dX9_back_7 : decode cX9_back 7 = .ok (.ifCond .ne 6, 3) := by decide +kernel
theorem dX9_back_10 : decode cX9_back 10 = .ok (.bipush (-3), 2) := by decide +kernel
theorem dX9_back_12 : decode cX9_back 12 = .ok (.ireturn, 1) := by decide +kernel
theorem dX9_back_13 : decode cX9_back 13 = .ok (.aload_n 0, 1) := by decide +kernel
theorem dX9_back_14 : decode cX9_back 14 = .ok (.getfield 12, 3) := by decide +kernel
theorem dX9_back_17 : decode cX9_back 17 = .ok (.invokevirtual 141, 3) := by decide +kernel
theorem dX9_back_20 : decode cX9_back 20 = .ok (.aload_n 0, 1) := by decide +kernel
theorem dX9_back_21 : decode cX9_back 21 = .ok (.invokevirtual 94, 3) := by decide +kernel
theorem dX9_back_24 : decode cX9_back 24 = .ok (.aload_n 0, 1) := by decide +kernel
theorem dX9_back_25 : decode cX9_back 25 = .ok (.getfield 12, 3) := by decide +kernel
theorem dX9_back_28 : decode cX9_back 28 = .ok (.getfield 138, 3) := by decide +kernel
theorem dX9_back_31 : decode cX9_back 31 = .ok (.ireturn, 1) := by decide +kernel
theorem dX9_eventOf_0 : decode cX9_eventOf 0 = .ok (.aload_n 0, 1) := by decide +kernel
theorem dX9_eventOf_1 : decode cX9_eventOf 1 = .ok (.getfield 12, 3) := by decide +kernel
theorem dX9_eventOf_4 : decode cX9_eventOf 4 = .ok (.iload_n 1, 1) := by decide +kernel
theorem dX9_eventOf_5 : decode cX9_eventOf 5 = .ok (.iload_n 2, 1) := by decide +kernel
theorem dX9_eventOf_6 : decode cX9_eventOf 6 = .ok (.invokevirtual 144, 3) := by decide +kernel
theorem dX9_eventOf_9 : decode cX9_eventOf 9 = .ok (.ifCond .ne 5, 3) := by decide +kernel
theorem dX9_eventOf_12 : decode cX9_eventOf 12 = .ok (.iconst (-1), 1) := by decide +kernel
theorem dX9_eventOf_13 : decode cX9_eventOf 13 = .ok (.ireturn, 1) := by decide +kernel
theorem dX9_eventOf_14 : decode cX9_eventOf 14 = .ok (.iload_n 1, 1) := by decide +kernel
theorem dX9_eventOf_15 : decode cX9_eventOf 15 = .ok (.iload_n 2, 1) := by decide +kernel
theorem dX9_eventOf_16 : decode cX9_eventOf 16 = .ok (.invokestatic 148, 3) := by decide +kernel
theorem dX9_eventOf_19 : decode cX9_eventOf 19 = .ok (.istore 4, 2) := by decide +kernel
theorem dX9_eventOf_21 : decode cX9_eventOf 21 = .ok (.iload_n 3, 1) := by decide +kernel
theorem dX9_eventOf_22 : decode cX9_eventOf 22 = .ok (.tableswitch 77 0 3 #[30, 41, 55, 66], 30) := by decide +kernel
theorem dX9_eventOf_52 : decode cX9_eventOf 52 = .ok (.aload_n 0, 1) := by decide +kernel
theorem dX9_eventOf_53 : decode cX9_eventOf 53 = .ok (.getfield 12, 3) := by decide +kernel
theorem dX9_eventOf_56 : decode cX9_eventOf 56 = .ok (.getfield 152, 3) := by decide +kernel
theorem dX9_eventOf_59 : decode cX9_eventOf 59 = .ok (.iload 4, 2) := by decide +kernel
theorem dX9_eventOf_61 : decode cX9_eventOf 61 = .ok (.iaload, 1) := by decide +kernel
theorem dX9_eventOf_62 : decode cX9_eventOf 62 = .ok (.ireturn, 1) := by decide +kernel
theorem dX9_eventOf_63 : decode cX9_eventOf 63 = .ok (.aload_n 0, 1) := by decide +kernel
theorem dX9_eventOf_64 : decode cX9_eventOf 64 = .ok (.getfield 12, 3) := by decide +kernel
theorem dX9_eventOf_67 : decode cX9_eventOf 67 = .ok (.getfield 155, 3) := by decide +kernel
theorem dX9_eventOf_70 : decode cX9_eventOf 70 = .ok (.iload 4, 2) := by decide +kernel
theorem dX9_eventOf_72 : decode cX9_eventOf 72 = .ok (.iaload, 1) := by decide +kernel
theorem dX9_eventOf_73 : decode cX9_eventOf 73 = .ok (.bipush 100, 2) := by decide +kernel
theorem dX9_eventOf_75 : decode cX9_eventOf 75 = .ok (.iadd, 1) := by decide +kernel
theorem dX9_eventOf_76 : decode cX9_eventOf 76 = .ok (.ireturn, 1) := by decide +kernel
theorem dX9_eventOf_77 : decode cX9_eventOf 77 = .ok (.aload_n 0, 1) := by decide +kernel
theorem dX9_eventOf_78 : decode cX9_eventOf 78 = .ok (.getfield 12, 3) := by decide +kernel
theorem dX9_eventOf_81 : decode cX9_eventOf 81 = .ok (.getfield 158, 3) := by decide +kernel
theorem dX9_eventOf_84 : decode cX9_eventOf 84 = .ok (.iload 4, 2) := by decide +kernel
theorem dX9_eventOf_86 : decode cX9_eventOf 86 = .ok (.iaload, 1) := by decide +kernel
theorem dX9_eventOf_87 : decode cX9_eventOf 87 = .ok (.ireturn, 1) := by decide +kernel
theorem dX9_eventOf_88 : decode cX9_eventOf 88 = .ok (.aload_n 0, 1) := by decide +kernel
theorem dX9_eventOf_89 : decode cX9_eventOf 89 = .ok (.getfield 12, 3) := by decide +kernel
theorem dX9_eventOf_92 : decode cX9_eventOf 92 = .ok (.getfield 161, 3) := by decide +kernel
theorem dX9_eventOf_95 : decode cX9_eventOf 95 = .ok (.iload 4, 2) := by decide +kernel
theorem dX9_eventOf_97 : decode cX9_eventOf 97 = .ok (.iaload, 1) := by decide +kernel
theorem dX9_eventOf_98 : decode cX9_eventOf 98 = .ok (.ireturn, 1) := by decide +kernel
theorem dX9_eventOf_99 : decode cX9_eventOf 99 = .ok (.iconst (-1), 1) := by decide +kernel
theorem dX9_eventOf_100 : decode cX9_eventOf 100 = .ok (.ireturn, 1) := by decide +kernel
theorem dX9_clock_0 : decode cX9_clock 0 = .ok (.aload_n 0, 1) := by decide +kernel
theorem dX9_clock_1 : decode cX9_clock 1 = .ok (.getfield 12, 3) := by decide +kernel
theorem dX9_clock_4 : decode cX9_clock 4 = .ok (.iload_n 1, 1) := by decide +kernel
theorem dX9_clock_5 : decode cX9_clock 5 = .ok (.iload_n 2, 1) := by decide +kernel
theorem dX9_clock_6 : decode cX9_clock 6 = .ok (.invokevirtual 144, 3) := by decide +kernel
theorem dX9_clock_9 : decode cX9_clock 9 = .ok (.ifCond .eq 14, 3) := by decide +kernel
theorem dX9_clock_12 : decode cX9_clock 12 = .ok (.aload_n 0, 1) := by decide +kernel
theorem dX9_clock_13 : decode cX9_clock 13 = .ok (.getfield 12, 3) := by decide +kernel
theorem dX9_clock_16 : decode cX9_clock 16 = .ok (.iload_n 3, 1) := by decide +kernel
theorem dX9_clock_17 : decode cX9_clock 17 = .ok (.invokevirtual 97, 3) := by decide +kernel
theorem dX9_clock_20 : decode cX9_clock 20 = .ok (.ifCond .ne 5, 3) := by decide +kernel
theorem dX9_clock_23 : decode cX9_clock 23 = .ok (.iconst (-1), 1) := by decide +kernel
theorem dX9_clock_24 : decode cX9_clock 24 = .ok (.ireturn, 1) := by decide +kernel
theorem dX9_clock_25 : decode cX9_clock 25 = .ok (.aload_n 0, 1) := by decide +kernel
theorem dX9_clock_26 : decode cX9_clock 26 = .ok (.getfield 12, 3) := by decide +kernel
theorem dX9_clock_29 : decode cX9_clock 29 = .ok (.iload_n 1, 1) := by decide +kernel
theorem dX9_clock_30 : decode cX9_clock 30 = .ok (.iload_n 2, 1) := by decide +kernel
theorem dX9_clock_31 : decode cX9_clock 31 = .ok (.invokevirtual 164, 3) := by decide +kernel
theorem dX9_clock_34 : decode cX9_clock 34 = .ok (.aload_n 0, 1) := by decide +kernel
theorem dX9_clock_35 : decode cX9_clock 35 = .ok (.getfield 12, 3) := by decide +kernel
theorem dX9_clock_38 : decode cX9_clock 38 = .ok (.iload_n 3, 1) := by decide +kernel
theorem dX9_clock_39 : decode cX9_clock 39 = .ok (.invokevirtual 167, 3) := by decide +kernel
theorem dX9_clock_42 : decode cX9_clock 42 = .ok (.invokestatic 170, 3) := by decide +kernel
theorem dX9_clock_45 : decode cX9_clock 45 = .ok (.ireturn, 1) := by decide +kernel
theorem dX9_ahead_0 : decode cX9_ahead 0 = .ok (.aload_n 0, 1) := by decide +kernel
theorem dX9_ahead_1 : decode cX9_ahead 1 = .ok (.getfield 12, 3) := by decide +kernel
theorem dX9_ahead_4 : decode cX9_ahead 4 = .ok (.iload_n 1, 1) := by decide +kernel
theorem dX9_ahead_5 : decode cX9_ahead 5 = .ok (.iload_n 2, 1) := by decide +kernel
theorem dX9_ahead_6 : decode cX9_ahead 6 = .ok (.invokevirtual 144, 3) := by decide +kernel
theorem dX9_ahead_9 : decode cX9_ahead 9 = .ok (.ifCond .eq 16, 3) := by decide +kernel
theorem dX9_ahead_12 : decode cX9_ahead 12 = .ok (.aload_n 0, 1) := by decide +kernel
theorem dX9_ahead_13 : decode cX9_ahead 13 = .ok (.getfield 12, 3) := by decide +kernel
theorem dX9_ahead_16 : decode cX9_ahead 16 = .ok (.iload_n 3, 1) := by decide +kernel
theorem dX9_ahead_17 : decode cX9_ahead 17 = .ok (.iload 4, 2) := by decide +kernel
theorem dX9_ahead_19 : decode cX9_ahead 19 = .ok (.invokevirtual 144, 3) := by decide +kernel
theorem dX9_ahead_22 : decode cX9_ahead 22 = .ok (.ifCond .ne 5, 3) := by decide +kernel
theorem dX9_ahead_25 : decode cX9_ahead 25 = .ok (.iconst (-1), 1) := by decide +kernel
theorem dX9_ahead_26 : decode cX9_ahead 26 = .ok (.ireturn, 1) := by decide +kernel
theorem dX9_ahead_27 : decode cX9_ahead 27 = .ok (.iload_n 1, 1) := by decide +kernel
theorem dX9_ahead_28 : decode cX9_ahead 28 = .ok (.iload_n 3, 1) := by decide +kernel
theorem dX9_ahead_29 : decode cX9_ahead 29 = .ok (.if_icmp .ne 11, 3) := by decide +kernel
theorem dX9_ahead_32 : decode cX9_ahead 32 = .ok (.iload_n 2, 1) := by decide +kernel
theorem dX9_ahead_33 : decode cX9_ahead 33 = .ok (.iload 4, 2) := by decide +kernel
theorem dX9_ahead_35 : decode cX9_ahead 35 = .ok (.if_icmp .ne 5, 3) := by decide +kernel
theorem dX9_ahead_38 : decode cX9_ahead 38 = .ok (.iconst 0, 1) := by decide +kernel
theorem dX9_ahead_39 : decode cX9_ahead 39 = .ok (.ireturn, 1) := by decide +kernel
theorem dX9_ahead_40 : decode cX9_ahead 40 = .ok (.aload_n 0, 1) := by decide +kernel
theorem dX9_ahead_41 : decode cX9_ahead 41 = .ok (.getfield 12, 3) := by decide +kernel
theorem dX9_ahead_44 : decode cX9_ahead 44 = .ok (.iload_n 3, 1) := by decide +kernel
theorem dX9_ahead_45 : decode cX9_ahead 45 = .ok (.iload 4, 2) := by decide +kernel
theorem dX9_ahead_47 : decode cX9_ahead 47 = .ok (.invokevirtual 164, 3) := by decide +kernel
theorem dX9_ahead_50 : decode cX9_ahead 50 = .ok (.aload_n 0, 1) := by decide +kernel
theorem dX9_ahead_51 : decode cX9_ahead 51 = .ok (.getfield 12, 3) := by decide +kernel
theorem dX9_ahead_54 : decode cX9_ahead 54 = .ok (.iload_n 1, 1) := by decide +kernel
theorem dX9_ahead_55 : decode cX9_ahead 55 = .ok (.invokevirtual 167, 3) := by decide +kernel
theorem dX9_ahead_58 : decode cX9_ahead 58 = .ok (.invokestatic 170, 3) := by decide +kernel
theorem dX9_ahead_61 : decode cX9_ahead 61 = .ok (.iload_n 2, 1) := by decide +kernel
theorem dX9_ahead_62 : decode cX9_ahead 62 = .ok (.if_icmp .lt 5, 3) := by decide +kernel
theorem dX9_ahead_65 : decode cX9_ahead 65 = .ok (.iconst 1, 1) := by decide +kernel
theorem dX9_ahead_66 : decode cX9_ahead 66 = .ok (.ireturn, 1) := by decide +kernel
theorem dX9_ahead_67 : decode cX9_ahead 67 = .ok (.aload_n 0, 1) := by decide +kernel
theorem dX9_ahead_68 : decode cX9_ahead 68 = .ok (.getfield 12, 3) := by decide +kernel
theorem dX9_ahead_71 : decode cX9_ahead 71 = .ok (.iload_n 1, 1) := by decide +kernel
theorem dX9_ahead_72 : decode cX9_ahead 72 = .ok (.iload_n 2, 1) := by decide +kernel
theorem dX9_ahead_73 : decode cX9_ahead 73 = .ok (.invokevirtual 164, 3) := by decide +kernel
theorem dX9_ahead_76 : decode cX9_ahead 76 = .ok (.aload_n 0, 1) := by decide +kernel
theorem dX9_ahead_77 : decode cX9_ahead 77 = .ok (.getfield 12, 3) := by decide +kernel
theorem dX9_ahead_80 : decode cX9_ahead 80 = .ok (.iload_n 3, 1) := by decide +kernel
theorem dX9_ahead_81 : decode cX9_ahead 81 = .ok (.invokevirtual 167, 3) := by decide +kernel
theorem dX9_ahead_84 : decode cX9_ahead 84 = .ok (.invokestatic 170, 3) := by decide +kernel
theorem dX9_ahead_87 : decode cX9_ahead 87 = .ok (.iload 4, 2) := by decide +kernel
theorem dX9_ahead_89 : decode cX9_ahead 89 = .ok (.if_icmp .lt 7, 3) := by decide +kernel
theorem dX9_ahead_92 : decode cX9_ahead 92 = .ok (.iconst 2, 1) := by decide +kernel
theorem dX9_ahead_93 : decode cX9_ahead 93 = .ok (.goto 4, 3) := by decide +kernel
theorem dX9_ahead_96 : decode cX9_ahead 96 = .ok (.iconst 0, 1) := by decide +kernel
theorem dX9_ahead_97 : decode cX9_ahead 97 = .ok (.ireturn, 1) := by decide +kernel
theorem dX9_message_0 : decode cX9_message 0 = .ok (.aload_n 0, 1) := by decide +kernel
theorem dX9_message_1 : decode cX9_message 1 = .ok (.getfield 12, 3) := by decide +kernel
theorem dX9_message_4 : decode cX9_message 4 = .ok (.iload_n 1, 1) := by decide +kernel
theorem dX9_message_5 : decode cX9_message 5 = .ok (.invokevirtual 128, 3) := by decide +kernel
theorem dX9_message_8 : decode cX9_message 8 = .ok (.ifCond .ne 5, 3) := by decide +kernel
theorem dX9_message_11 : decode cX9_message 11 = .ok (.iconst (-1), 1) := by decide +kernel
theorem dX9_message_12 : decode cX9_message 12 = .ok (.ireturn, 1) := by decide +kernel
theorem dX9_message_13 : decode cX9_message 13 = .ok (.iload_n 2, 1) := by decide +kernel
theorem dX9_message_14 : decode cX9_message 14 = .ok (.tableswitch 70 0 3 #[30, 40, 50, 60], 30) := by decide +kernel
theorem dX9_message_44 : decode cX9_message 44 = .ok (.aload_n 0, 1) := by decide +kernel
theorem dX9_message_45 : decode cX9_message 45 = .ok (.getfield 12, 3) := by decide +kernel
theorem dX9_message_48 : decode cX9_message 48 = .ok (.getfield 175, 3) := by decide +kernel
theorem dX9_message_51 : decode cX9_message 51 = .ok (.iload_n 1, 1) := by decide +kernel
theorem dX9_message_52 : decode cX9_message 52 = .ok (.iaload, 1) := by decide +kernel
theorem dX9_message_53 : decode cX9_message 53 = .ok (.ireturn, 1) := by decide +kernel
theorem dX9_message_54 : decode cX9_message 54 = .ok (.aload_n 0, 1) := by decide +kernel
theorem dX9_message_55 : decode cX9_message 55 = .ok (.getfield 12, 3) := by decide +kernel
theorem dX9_message_58 : decode cX9_message 58 = .ok (.getfield 178, 3) := by decide +kernel
theorem dX9_message_61 : decode cX9_message 61 = .ok (.iload_n 1, 1) := by decide +kernel
theorem dX9_message_62 : decode cX9_message 62 = .ok (.iaload, 1) := by decide +kernel
theorem dX9_message_63 : decode cX9_message 63 = .ok (.ireturn, 1) := by decide +kernel
theorem dX9_message_64 : decode cX9_message 64 = .ok (.aload_n 0, 1) := by decide +kernel
theorem dX9_message_65 : decode cX9_message 65 = .ok (.getfield 12, 3) := by decide +kernel
theorem dX9_message_68 : decode cX9_message 68 = .ok (.getfield 181, 3) := by decide +kernel
theorem dX9_message_71 : decode cX9_message 71 = .ok (.iload_n 1, 1) := by decide +kernel
theorem dX9_message_72 : decode cX9_message 72 = .ok (.iaload, 1) := by decide +kernel
theorem dX9_message_73 : decode cX9_message 73 = .ok (.ireturn, 1) := by decide +kernel
theorem dX9_message_74 : decode cX9_message 74 = .ok (.aload_n 0, 1) := by decide +kernel
theorem dX9_message_75 : decode cX9_message 75 = .ok (.getfield 12, 3) := by decide +kernel
theorem dX9_message_78 : decode cX9_message 78 = .ok (.getfield 184, 3) := by decide +kernel
theorem dX9_message_81 : decode cX9_message 81 = .ok (.iload_n 1, 1) := by decide +kernel
theorem dX9_message_82 : decode cX9_message 82 = .ok (.iaload, 1) := by decide +kernel
theorem dX9_message_83 : decode cX9_message 83 = .ok (.ireturn, 1) := by decide +kernel
theorem dX9_message_84 : decode cX9_message 84 = .ok (.iconst (-1), 1) := by decide +kernel
theorem dX9_message_85 : decode cX9_message 85 = .ok (.ireturn, 1) := by decide +kernel
theorem dX9_cuts_0 : decode cX9_cuts 0 = .ok (.aload_n 0, 1) := by decide +kernel
theorem dX9_cuts_1 : decode cX9_cuts 1 = .ok (.invokevirtual 187, 3) := by decide +kernel
theorem dX9_cuts_4 : decode cX9_cuts 4 = .ok (.getfield 191, 3) := by decide +kernel
theorem dX9_cuts_7 : decode cX9_cuts 7 = .ok (.ireturn, 1) := by decide +kernel
theorem dX9_cut_0 : decode cX9_cut 0 = .ok (.aload_n 0, 1) := by decide +kernel
theorem dX9_cut_1 : decode cX9_cut 1 = .ok (.iload_n 1, 1) := by decide +kernel
theorem dX9_cut_2 : decode cX9_cut 2 = .ok (.invokevirtual 194, 3) := by decide +kernel
theorem dX9_cut_5 : decode cX9_cut 5 = .ok (.ifCond .eq 18, 3) := by decide +kernel
theorem dX9_cut_8 : decode cX9_cut 8 = .ok (.aload_n 0, 1) := by decide +kernel
theorem dX9_cut_9 : decode cX9_cut 9 = .ok (.getfield 58, 3) := by decide +kernel
theorem dX9_cut_12 : decode cX9_cut 12 = .ok (.getfield 197, 3) := by decide +kernel
theorem dX9_cut_15 : decode cX9_cut 15 = .ok (.iload_n 1, 1) := by decide +kernel
theorem dX9_cut_16 : decode cX9_cut 16 = .ok (.iaload, 1) := by decide +kernel
theorem dX9_cut_17 : decode cX9_cut 17 = .ok (.invokestatic 200, 3) := by decide +kernel
theorem dX9_cut_20 : decode cX9_cut 20 = .ok (.goto 4, 3) := by decide +kernel
theorem dX9_cut_23 : decode cX9_cut 23 = .ok (.iconst (-1), 1) := by decide +kernel
theorem dX9_cut_24 : decode cX9_cut 24 = .ok (.ireturn, 1) := by decide +kernel
theorem dX9_which_0 : decode cX9_which 0 = .ok (.aload_n 0, 1) := by decide +kernel
theorem dX9_which_1 : decode cX9_which 1 = .ok (.getfield 12, 3) := by decide +kernel
theorem dX9_which_4 : decode cX9_which 4 = .ok (.iload_n 1, 1) := by decide +kernel
theorem dX9_which_5 : decode cX9_which 5 = .ok (.invokevirtual 203, 3) := by decide +kernel
theorem dX9_which_8 : decode cX9_which 8 = .ok (.istore_n 2, 1) := by decide +kernel
theorem dX9_which_9 : decode cX9_which 9 = .ok (.iload_n 2, 1) := by decide +kernel
theorem dX9_which_10 : decode cX9_which 10 = .ok (.ifCond .ge 5, 3) := by decide +kernel
theorem dX9_which_13 : decode cX9_which 13 = .ok (.iconst (-1), 1) := by decide +kernel
theorem dX9_which_14 : decode cX9_which 14 = .ok (.ireturn, 1) := by decide +kernel
theorem dX9_which_15 : decode cX9_which 15 = .ok (.aload_n 0, 1) := by decide +kernel
theorem dX9_which_16 : decode cX9_which 16 = .ok (.invokevirtual 187, 3) := by decide +kernel
theorem dX9_which_19 : decode cX9_which 19 = .ok (.iload_n 2, 1) := by decide +kernel
theorem dX9_which_20 : decode cX9_which 20 = .ok (.invokevirtual 206, 3) := by decide +kernel
theorem dX9_which_23 : decode cX9_which 23 = .ok (.istore_n 3, 1) := by decide +kernel
theorem dX9_which_24 : decode cX9_which 24 = .ok (.iload_n 3, 1) := by decide +kernel
theorem dX9_which_25 : decode cX9_which 25 = .ok (.ifCond .ge 8, 3) := by decide +kernel
theorem dX9_which_28 : decode cX9_which 28 = .ok (.bipush (-5), 2) := by decide +kernel
theorem dX9_which_30 : decode cX9_which 30 = .ok (.goto 4, 3) := by decide +kernel
theorem dX9_which_33 : decode cX9_which 33 = .ok (.iload_n 3, 1) := by decide +kernel
theorem dX9_which_34 : decode cX9_which 34 = .ok (.ireturn, 1) := by decide +kernel
theorem dX9_level_0 : decode cX9_level 0 = .ok (.aload_n 0, 1) := by decide +kernel
theorem dX9_level_1 : decode cX9_level 1 = .ok (.iload_n 1, 1) := by decide +kernel
theorem dX9_level_2 : decode cX9_level 2 = .ok (.invokevirtual 194, 3) := by decide +kernel
theorem dX9_level_5 : decode cX9_level 5 = .ok (.ifCond .eq 18, 3) := by decide +kernel
theorem dX9_level_8 : decode cX9_level 8 = .ok (.aload_n 0, 1) := by decide +kernel
theorem dX9_level_9 : decode cX9_level 9 = .ok (.getfield 58, 3) := by decide +kernel
theorem dX9_level_12 : decode cX9_level 12 = .ok (.getfield 197, 3) := by decide +kernel
theorem dX9_level_15 : decode cX9_level 15 = .ok (.iload_n 1, 1) := by decide +kernel
theorem dX9_level_16 : decode cX9_level 16 = .ok (.iaload, 1) := by decide +kernel
theorem dX9_level_17 : decode cX9_level 17 = .ok (.invokestatic 209, 3) := by decide +kernel
theorem dX9_level_20 : decode cX9_level 20 = .ok (.goto 4, 3) := by decide +kernel
theorem dX9_level_23 : decode cX9_level 23 = .ok (.iconst (-1), 1) := by decide +kernel
theorem dX9_level_24 : decode cX9_level 24 = .ok (.ireturn, 1) := by decide +kernel
theorem dX9_next_0 : decode cX9_next 0 = .ok (.aload_n 0, 1) := by decide +kernel
theorem dX9_next_1 : decode cX9_next 1 = .ok (.iload_n 1, 1) := by decide +kernel
theorem dX9_next_2 : decode cX9_next 2 = .ok (.invokevirtual 194, 3) := by decide +kernel
theorem dX9_next_5 : decode cX9_next 5 = .ok (.ifCond .eq 8, 3) := by decide +kernel
theorem dX9_next_8 : decode cX9_next 8 = .ok (.iload_n 2, 1) := by decide +kernel
theorem dX9_next_9 : decode cX9_next 9 = .ok (.iconst (-1), 1) := by decide +kernel
theorem dX9_next_10 : decode cX9_next 10 = .ok (.if_icmp .ge 5, 3) := by decide +kernel
theorem dX9_next_13 : decode cX9_next 13 = .ok (.iconst (-1), 1) := by decide +kernel
theorem dX9_next_14 : decode cX9_next 14 = .ok (.ireturn, 1) := by decide +kernel
theorem dX9_next_15 : decode cX9_next 15 = .ok (.iconst 0, 1) := by decide +kernel
theorem dX9_next_16 : decode cX9_next 16 = .ok (.istore_n 3, 1) := by decide +kernel
theorem dX9_next_17 : decode cX9_next 17 = .ok (.iconst 0, 1) := by decide +kernel
theorem dX9_next_18 : decode cX9_next 18 = .ok (.istore 4, 2) := by decide +kernel
theorem dX9_next_20 : decode cX9_next 20 = .ok (.iload 4, 2) := by decide +kernel
theorem dX9_next_22 : decode cX9_next 22 = .ok (.aload_n 0, 1) := by decide +kernel
theorem dX9_next_23 : decode cX9_next 23 = .ok (.getfield 12, 3) := by decide +kernel
theorem dX9_next_26 : decode cX9_next 26 = .ok (.getfield 83, 3) := by decide +kernel
theorem dX9_next_29 : decode cX9_next 29 = .ok (.if_icmp .ge 42, 3) := by decide +kernel
theorem dX9_next_32 : decode cX9_next 32 = .ok (.aload_n 0, 1) := by decide +kernel
theorem dX9_next_33 : decode cX9_next 33 = .ok (.getfield 58, 3) := by decide +kernel
theorem dX9_next_36 : decode cX9_next 36 = .ok (.iload_n 1, 1) := by decide +kernel
theorem dX9_next_37 : decode cX9_next 37 = .ok (.iload 4, 2) := by decide +kernel
theorem dX9_next_39 : decode cX9_next 39 = .ok (.invokevirtual 212, 3) := by decide +kernel
theorem dX9_next_42 : decode cX9_next 42 = .ok (.istore 5, 2) := by decide +kernel
theorem dX9_next_44 : decode cX9_next 44 = .ok (.iload 5, 2) := by decide +kernel
theorem dX9_next_46 : decode cX9_next 46 = .ok (.ifCond .lt 11, 3) := by decide +kernel
theorem dX9_next_49 : decode cX9_next 49 = .ok (.iload_n 3, 1) := by decide +kernel
theorem dX9_next_50 : decode cX9_next 50 = .ok (.iload_n 2, 1) := by decide +kernel
theorem dX9_next_51 : decode cX9_next 51 = .ok (.if_icmp .ne 6, 3) := by decide +kernel
theorem dX9_next_54 : decode cX9_next 54 = .ok (.iload 5, 2) := by decide +kernel
theorem dX9_next_56 : decode cX9_next 56 = .ok (.ireturn, 1) := by decide +kernel
theorem dX9_next_57 : decode cX9_next 57 = .ok (.iload 5, 2) := by decide +kernel
theorem dX9_next_59 : decode cX9_next 59 = .ok (.ifCond .lt 6, 3) := by decide +kernel
theorem dX9_next_62 : decode cX9_next 62 = .ok (.iinc 3 1, 3) := by decide +kernel
theorem dX9_next_65 : decode cX9_next 65 = .ok (.iinc 4 1, 3) := by decide +kernel
theorem dX9_next_68 : decode cX9_next 68 = .ok (.goto (-48), 3) := by decide +kernel
theorem dX9_next_71 : decode cX9_next 71 = .ok (.iload_n 2, 1) := by decide +kernel
theorem dX9_next_72 : decode cX9_next 72 = .ok (.iconst (-1), 1) := by decide +kernel
theorem dX9_next_73 : decode cX9_next 73 = .ok (.if_icmp .ne 7, 3) := by decide +kernel
theorem dX9_next_76 : decode cX9_next 76 = .ok (.iload_n 3, 1) := by decide +kernel
theorem dX9_next_77 : decode cX9_next 77 = .ok (.goto 4, 3) := by decide +kernel
theorem dX9_next_80 : decode cX9_next 80 = .ok (.iconst (-1), 1) := by decide +kernel
theorem dX9_next_81 : decode cX9_next 81 = .ok (.ireturn, 1) := by decide +kernel
theorem dX9_meet_0 : decode cX9_meet 0 = .ok (.aload_n 0, 1) := by decide +kernel
theorem dX9_meet_1 : decode cX9_meet 1 = .ok (.iload_n 1, 1) := by decide +kernel
theorem dX9_meet_2 : decode cX9_meet 2 = .ok (.invokevirtual 194, 3) := by decide +kernel
theorem dX9_meet_5 : decode cX9_meet 5 = .ok (.ifCond .eq 11, 3) := by decide +kernel
theorem dX9_meet_8 : decode cX9_meet 8 = .ok (.aload_n 0, 1) := by decide +kernel
theorem dX9_meet_9 : decode cX9_meet 9 = .ok (.iload_n 2, 1) := by decide +kernel
theorem dX9_meet_10 : decode cX9_meet 10 = .ok (.invokevirtual 194, 3) := by decide +kernel
theorem dX9_meet_13 : decode cX9_meet 13 = .ok (.ifCond .ne 5, 3) := by decide +kernel
theorem dX9_meet_16 : decode cX9_meet 16 = .ok (.iconst (-1), 1) := by decide +kernel
theorem dX9_meet_17 : decode cX9_meet 17 = .ok (.ireturn, 1) := by decide +kernel
theorem dX9_meet_18 : decode cX9_meet 18 = .ok (.aload_n 0, 1) := by decide +kernel
theorem dX9_meet_19 : decode cX9_meet 19 = .ok (.getfield 58, 3) := by decide +kernel
theorem dX9_meet_22 : decode cX9_meet 22 = .ok (.aload_n 0, 1) := by decide +kernel
theorem dX9_meet_23 : decode cX9_meet 23 = .ok (.getfield 58, 3) := by decide +kernel
theorem dX9_meet_26 : decode cX9_meet 26 = .ok (.getfield 197, 3) := by decide +kernel
theorem dX9_meet_29 : decode cX9_meet 29 = .ok (.iload_n 1, 1) := by decide +kernel
theorem dX9_meet_30 : decode cX9_meet 30 = .ok (.iaload, 1) := by decide +kernel
theorem dX9_meet_31 : decode cX9_meet 31 = .ok (.aload_n 0, 1) := by decide +kernel
theorem dX9_meet_32 : decode cX9_meet 32 = .ok (.getfield 58, 3) := by decide +kernel
theorem dX9_meet_35 : decode cX9_meet 35 = .ok (.getfield 197, 3) := by decide +kernel
theorem dX9_meet_38 : decode cX9_meet 38 = .ok (.iload_n 2, 1) := by decide +kernel
theorem dX9_meet_39 : decode cX9_meet 39 = .ok (.iaload, 1) := by decide +kernel
theorem dX9_meet_40 : decode cX9_meet 40 = .ok (.invokestatic 215, 3) := by decide +kernel
theorem dX9_meet_43 : decode cX9_meet 43 = .ok (.invokevirtual 206, 3) := by decide +kernel
theorem dX9_meet_46 : decode cX9_meet 46 = .ok (.ireturn, 1) := by decide +kernel
theorem dX9_join_0 : decode cX9_join 0 = .ok (.aload_n 0, 1) := by decide +kernel
theorem dX9_join_1 : decode cX9_join 1 = .ok (.iload_n 1, 1) := by decide +kernel
theorem dX9_join_2 : decode cX9_join 2 = .ok (.invokevirtual 194, 3) := by decide +kernel
theorem dX9_join_5 : decode cX9_join 5 = .ok (.ifCond .eq 11, 3) := by decide +kernel
theorem dX9_join_8 : decode cX9_join 8 = .ok (.aload_n 0, 1) := by decide +kernel
theorem dX9_join_9 : decode cX9_join 9 = .ok (.iload_n 2, 1) := by decide +kernel
theorem dX9_join_10 : decode cX9_join 10 = .ok (.invokevirtual 194, 3) := by decide +kernel
theorem dX9_join_13 : decode cX9_join 13 = .ok (.ifCond .ne 5, 3) := by decide +kernel
theorem dX9_join_16 : decode cX9_join 16 = .ok (.iconst (-1), 1) := by decide +kernel
theorem dX9_join_17 : decode cX9_join 17 = .ok (.ireturn, 1) := by decide +kernel
theorem dX9_join_18 : decode cX9_join 18 = .ok (.aload_n 0, 1) := by decide +kernel
theorem dX9_join_19 : decode cX9_join 19 = .ok (.getfield 58, 3) := by decide +kernel
theorem dX9_join_22 : decode cX9_join 22 = .ok (.aload_n 0, 1) := by decide +kernel
theorem dX9_join_23 : decode cX9_join 23 = .ok (.getfield 58, 3) := by decide +kernel
theorem dX9_join_26 : decode cX9_join 26 = .ok (.getfield 197, 3) := by decide +kernel
theorem dX9_join_29 : decode cX9_join 29 = .ok (.iload_n 1, 1) := by decide +kernel
theorem dX9_join_30 : decode cX9_join 30 = .ok (.iaload, 1) := by decide +kernel
theorem dX9_join_31 : decode cX9_join 31 = .ok (.aload_n 0, 1) := by decide +kernel
theorem dX9_join_32 : decode cX9_join 32 = .ok (.getfield 58, 3) := by decide +kernel
theorem dX9_join_35 : decode cX9_join 35 = .ok (.getfield 197, 3) := by decide +kernel
theorem dX9_join_38 : decode cX9_join 38 = .ok (.iload_n 2, 1) := by decide +kernel
theorem dX9_join_39 : decode cX9_join 39 = .ok (.iaload, 1) := by decide +kernel
theorem dX9_join_40 : decode cX9_join 40 = .ok (.invokestatic 218, 3) := by decide +kernel
theorem dX9_join_43 : decode cX9_join 43 = .ok (.invokevirtual 206, 3) := by decide +kernel
theorem dX9_join_46 : decode cX9_join 46 = .ok (.ireturn, 1) := by decide +kernel
theorem dX9_under_0 : decode cX9_under 0 = .ok (.aload_n 0, 1) := by decide +kernel
theorem dX9_under_1 : decode cX9_under 1 = .ok (.iload_n 1, 1) := by decide +kernel
theorem dX9_under_2 : decode cX9_under 2 = .ok (.invokevirtual 194, 3) := by decide +kernel
theorem dX9_under_5 : decode cX9_under 5 = .ok (.ifCond .eq 22, 3) := by decide +kernel
theorem dX9_under_8 : decode cX9_under 8 = .ok (.aload_n 0, 1) := by decide +kernel
theorem dX9_under_9 : decode cX9_under 9 = .ok (.getfield 12, 3) := by decide +kernel
theorem dX9_under_12 : decode cX9_under 12 = .ok (.aload_n 0, 1) := by decide +kernel
theorem dX9_under_13 : decode cX9_under 13 = .ok (.getfield 58, 3) := by decide +kernel
theorem dX9_under_16 : decode cX9_under 16 = .ok (.getfield 197, 3) := by decide +kernel
theorem dX9_under_19 : decode cX9_under 19 = .ok (.iload_n 1, 1) := by decide +kernel
theorem dX9_under_20 : decode cX9_under 20 = .ok (.iaload, 1) := by decide +kernel
theorem dX9_under_21 : decode cX9_under 21 = .ok (.invokevirtual 221, 3) := by decide +kernel
theorem dX9_under_24 : decode cX9_under 24 = .ok (.goto 4, 3) := by decide +kernel
theorem dX9_under_27 : decode cX9_under 27 = .ok (.iconst (-1), 1) := by decide +kernel
theorem dX9_under_28 : decode cX9_under 28 = .ok (.ireturn, 1) := by decide +kernel
theorem dX9_value_0 : decode cX9_value 0 = .ok (.aload_n 0, 1) := by decide +kernel
theorem dX9_value_1 : decode cX9_value 1 = .ok (.iload_n 1, 1) := by decide +kernel
theorem dX9_value_2 : decode cX9_value 2 = .ok (.invokevirtual 194, 3) := by decide +kernel
theorem dX9_value_5 : decode cX9_value 5 = .ok (.ifCond .eq 14, 3) := by decide +kernel
theorem dX9_value_8 : decode cX9_value 8 = .ok (.aload_n 0, 1) := by decide +kernel
theorem dX9_value_9 : decode cX9_value 9 = .ok (.getfield 12, 3) := by decide +kernel
theorem dX9_value_12 : decode cX9_value 12 = .ok (.iload_n 2, 1) := by decide +kernel
theorem dX9_value_13 : decode cX9_value 13 = .ok (.invokevirtual 97, 3) := by decide +kernel
theorem dX9_value_16 : decode cX9_value 16 = .ok (.ifCond .ne 5, 3) := by decide +kernel
theorem dX9_value_19 : decode cX9_value 19 = .ok (.iconst (-1), 1) := by decide +kernel
theorem dX9_value_20 : decode cX9_value 20 = .ok (.ireturn, 1) := by decide +kernel
theorem dX9_value_21 : decode cX9_value 21 = .ok (.aload_n 0, 1) := by decide +kernel
theorem dX9_value_22 : decode cX9_value 22 = .ok (.getfield 12, 3) := by decide +kernel
theorem dX9_value_25 : decode cX9_value 25 = .ok (.aload_n 0, 1) := by decide +kernel
theorem dX9_value_26 : decode cX9_value 26 = .ok (.getfield 58, 3) := by decide +kernel
theorem dX9_value_29 : decode cX9_value 29 = .ok (.getfield 197, 3) := by decide +kernel
theorem dX9_value_32 : decode cX9_value 32 = .ok (.iload_n 1, 1) := by decide +kernel
theorem dX9_value_33 : decode cX9_value 33 = .ok (.iaload, 1) := by decide +kernel
theorem dX9_value_34 : decode cX9_value 34 = .ok (.iload_n 2, 1) := by decide +kernel
theorem dX9_value_35 : decode cX9_value 35 = .ok (.invokevirtual 224, 3) := by decide +kernel
theorem dX9_value_38 : decode cX9_value 38 = .ok (.bipush 100, 2) := by decide +kernel
theorem dX9_value_40 : decode cX9_value 40 = .ok (.iadd, 1) := by decide +kernel
theorem dX9_value_41 : decode cX9_value 41 = .ok (.ireturn, 1) := by decide +kernel
theorem dX9_ways_0 : decode cX9_ways 0 = .ok (.iload_n 1, 1) := by decide +kernel
theorem dX9_ways_1 : decode cX9_ways 1 = .ok (.iconst (-1), 1) := by decide +kernel
theorem dX9_ways_2 : decode cX9_ways 2 = .ok (.if_icmp .ne 12, 3) := by decide +kernel
theorem dX9_ways_5 : decode cX9_ways 5 = .ok (.aload_n 0, 1) := by decide +kernel
theorem dX9_ways_6 : decode cX9_ways 6 = .ok (.invokevirtual 187, 3) := by decide +kernel
theorem dX9_ways_9 : decode cX9_ways 9 = .ok (.iconst 0, 1) := by decide +kernel
theorem dX9_ways_10 : decode cX9_ways 10 = .ok (.invokevirtual 227, 3) := by decide +kernel
theorem dX9_ways_13 : decode cX9_ways 13 = .ok (.lreturn, 1) := by decide +kernel
theorem dX9_ways_14 : decode cX9_ways 14 = .ok (.aload_n 0, 1) := by decide +kernel
theorem dX9_ways_15 : decode cX9_ways 15 = .ok (.iload_n 1, 1) := by decide +kernel
theorem dX9_ways_16 : decode cX9_ways 16 = .ok (.invokevirtual 194, 3) := by decide +kernel
theorem dX9_ways_19 : decode cX9_ways 19 = .ok (.ifCond .eq 14, 3) := by decide +kernel
theorem dX9_ways_22 : decode cX9_ways 22 = .ok (.aload_n 0, 1) := by decide +kernel
theorem dX9_ways_23 : decode cX9_ways 23 = .ok (.getfield 58, 3) := by decide +kernel
theorem dX9_ways_26 : decode cX9_ways 26 = .ok (.iload_n 1, 1) := by decide +kernel
theorem dX9_ways_27 : decode cX9_ways 27 = .ok (.invokevirtual 227, 3) := by decide +kernel
theorem dX9_ways_30 : decode cX9_ways 30 = .ok (.goto 6, 3) := by decide +kernel
theorem dX9_ways_33 : decode cX9_ways 33 = .ok (.ldc2_w 231, 3) := by decide +kernel
theorem dX9_ways_36 : decode cX9_ways 36 = .ok (.lreturn, 1) := by decide +kernel
theorem dX9_read_0 : decode cX9_read 0 = .ok (.iload_n 1, 1) := by decide +kernel
theorem dX9_read_1 : decode cX9_read 1 = .ok (.invokestatic 233, 3) := by decide +kernel
theorem dX9_read_4 : decode cX9_read 4 = .ok (.ifCond .ne 5, 3) := by decide +kernel
theorem dX9_read_7 : decode cX9_read 7 = .ok (.iconst (-1), 1) := by decide +kernel
theorem dX9_read_8 : decode cX9_read 8 = .ok (.ireturn, 1) := by decide +kernel
theorem dX9_read_9 : decode cX9_read 9 = .ok (.aload_n 0, 1) := by decide +kernel
theorem dX9_read_10 : decode cX9_read 10 = .ok (.getfield 67, 3) := by decide +kernel
theorem dX9_read_13 : decode cX9_read 13 = .ok (.invokevirtual 236, 3) := by decide +kernel
theorem dX9_read_16 : decode cX9_read 16 = .ok (.aload_n 0, 1) := by decide +kernel
theorem dX9_read_17 : decode cX9_read 17 = .ok (.getfield 67, 3) := by decide +kernel
theorem dX9_read_20 : decode cX9_read 20 = .ok (.iconst 0, 1) := by decide +kernel
theorem dX9_read_21 : decode cX9_read 21 = .ok (.invokevirtual 239, 3) := by decide +kernel
theorem dX9_read_24 : decode cX9_read 24 = .ok (.ifCond .eq 17, 3) := by decide +kernel
theorem dX9_read_27 : decode cX9_read 27 = .ok (.aload_n 0, 1) := by decide +kernel
theorem dX9_read_28 : decode cX9_read 28 = .ok (.getfield 45, 3) := by decide +kernel
theorem dX9_read_31 : decode cX9_read 31 = .ok (.invokevirtual 242, 3) := by decide +kernel
theorem dX9_read_34 : decode cX9_read 34 = .ok (.ifCond .eq 7, 3) := by decide +kernel
theorem dX9_read_37 : decode cX9_read 37 = .ok (.iconst 1, 1) := by decide +kernel
theorem dX9_read_38 : decode cX9_read 38 = .ok (.goto 4, 3) := by decide +kernel
theorem dX9_read_41 : decode cX9_read 41 = .ok (.iconst 0, 1) := by decide +kernel
theorem dX9_read_42 : decode cX9_read 42 = .ok (.istore_n 2, 1) := by decide +kernel
theorem dX9_read_43 : decode cX9_read 43 = .ok (.aload_n 0, 1) := by decide +kernel
theorem dX9_read_44 : decode cX9_read 44 = .ok (.getfield 45, 3) := by decide +kernel
theorem dX9_read_47 : decode cX9_read 47 = .ok (.getfield 246, 3) := by decide +kernel
theorem dX9_read_50 : decode cX9_read 50 = .ok (.istore_n 3, 1) := by decide +kernel
theorem dX9_read_51 : decode cX9_read 51 = .ok (.aload_n 0, 1) := by decide +kernel
theorem dX9_read_52 : decode cX9_read 52 = .ok (.getfield 45, 3) := by decide +kernel
theorem dX9_read_55 : decode cX9_read 55 = .ok (.invokevirtual 249, 3) := by decide +kernel
theorem dX9_read_58 : decode cX9_read 58 = .ok (.iload_n 2, 1) := by decide +kernel
theorem dX9_read_59 : decode cX9_read 59 = .ok (.ifCond .ne 8, 3) := by decide +kernel
theorem dX9_read_62 : decode cX9_read 62 = .ok (.bipush (-100), 2) := by decide +kernel
theorem dX9_read_64 : decode cX9_read 64 = .ok (.iload_n 3, 1) := by decide +kernel
theorem dX9_read_65 : decode cX9_read 65 = .ok (.isub, 1) := by decide +kernel
theorem dX9_read_66 : decode cX9_read 66 = .ok (.ireturn, 1) := by decide +kernel
theorem dX9_read_67 : decode cX9_read 67 = .ok (.aload_n 0, 1) := by decide +kernel
theorem dX9_read_68 : decode cX9_read 68 = .ok (.getfield 67, 3) := by decide +kernel
theorem dX9_read_71 : decode cX9_read 71 = .ok (.aload_n 0, 1) := by decide +kernel
theorem dX9_read_72 : decode cX9_read 72 = .ok (.getfield 23, 3) := by decide +kernel
theorem dX9_read_75 : decode cX9_read 75 = .ok (.iload_n 1, 1) := by decide +kernel
theorem dX9_read_76 : decode cX9_read 76 = .ok (.aaload, 1) := by decide +kernel
theorem dX9_read_77 : decode cX9_read 77 = .ok (.invokevirtual 252, 3) := by decide +kernel
theorem dX9_read_80 : decode cX9_read 80 = .ok (.aload_n 0, 1) := by decide +kernel
theorem dX9_read_81 : decode cX9_read 81 = .ok (.getfield 32, 3) := by decide +kernel
theorem dX9_read_84 : decode cX9_read 84 = .ok (.iload_n 1, 1) := by decide +kernel
theorem dX9_read_85 : decode cX9_read 85 = .ok (.aaload, 1) := by decide +kernel
theorem dX9_read_86 : decode cX9_read 86 = .ok (.iconst 1, 1) := by decide +kernel
theorem dX9_read_87 : decode cX9_read 87 = .ok (.putfield 256, 3) := by decide +kernel
theorem dX9_read_90 : decode cX9_read 90 = .ok (.iload_n 3, 1) := by decide +kernel
theorem dX9_read_91 : decode cX9_read 91 = .ok (.ireturn, 1) := by decide +kernel
theorem dX9_holds_0 : decode cX9_holds 0 = .ok (.aload_n 0, 1) := by decide +kernel
theorem dX9_holds_1 : decode cX9_holds 1 = .ok (.iload_n 1, 1) := by decide +kernel
theorem dX9_holds_2 : decode cX9_holds 2 = .ok (.aload_n 0, 1) := by decide +kernel
theorem dX9_holds_3 : decode cX9_holds 3 = .ok (.iload_n 2, 1) := by decide +kernel
theorem dX9_holds_4 : decode cX9_holds 4 = .ok (.invokevirtual 194, 3) := by decide +kernel
theorem dX9_holds_7 : decode cX9_holds 7 = .ok (.invokevirtual 259, 3) := by decide +kernel
theorem dX9_holds_10 : decode cX9_holds 10 = .ok (.istore_n 3, 1) := by decide +kernel
theorem dX9_holds_11 : decode cX9_holds 11 = .ok (.iload_n 3, 1) := by decide +kernel
theorem dX9_holds_12 : decode cX9_holds 12 = .ok (.ifCond .eq 7, 3) := by decide +kernel
theorem dX9_holds_15 : decode cX9_holds 15 = .ok (.iload_n 3, 1) := by decide +kernel
theorem dX9_holds_16 : decode cX9_holds 16 = .ok (.goto 12, 3) := by decide +kernel
theorem dX9_holds_19 : decode cX9_holds 19 = .ok (.aload_n 0, 1) := by decide +kernel
theorem dX9_holds_20 : decode cX9_holds 20 = .ok (.iload_n 1, 1) := by decide +kernel
theorem dX9_holds_21 : decode cX9_holds 21 = .ok (.invokevirtual 263, 3) := by decide +kernel
theorem dX9_holds_24 : decode cX9_holds 24 = .ok (.iload_n 2, 1) := by decide +kernel
theorem dX9_holds_25 : decode cX9_holds 25 = .ok (.invokevirtual 267, 3) := by decide +kernel
theorem dX9_holds_28 : decode cX9_holds 28 = .ok (.ireturn, 1) := by decide +kernel
theorem dX9_possible_0 : decode cX9_possible 0 = .ok (.aload_n 0, 1) := by decide +kernel
theorem dX9_possible_1 : decode cX9_possible 1 = .ok (.iload_n 1, 1) := by decide +kernel
theorem dX9_possible_2 : decode cX9_possible 2 = .ok (.iload_n 2, 1) := by decide +kernel
theorem dX9_possible_3 : decode cX9_possible 3 = .ok (.iconst (-1), 1) := by decide +kernel
theorem dX9_possible_4 : decode cX9_possible 4 = .ok (.if_icmp .lt 7, 3) := by decide +kernel
theorem dX9_possible_7 : decode cX9_possible 7 = .ok (.iconst 1, 1) := by decide +kernel
theorem dX9_possible_8 : decode cX9_possible 8 = .ok (.goto 4, 3) := by decide +kernel
theorem dX9_possible_11 : decode cX9_possible 11 = .ok (.iconst 0, 1) := by decide +kernel
theorem dX9_possible_12 : decode cX9_possible 12 = .ok (.invokevirtual 259, 3) := by decide +kernel
theorem dX9_possible_15 : decode cX9_possible 15 = .ok (.istore_n 3, 1) := by decide +kernel
theorem dX9_possible_16 : decode cX9_possible 16 = .ok (.iload_n 3, 1) := by decide +kernel
theorem dX9_possible_17 : decode cX9_possible 17 = .ok (.ifCond .eq 7, 3) := by decide +kernel
theorem dX9_possible_20 : decode cX9_possible 20 = .ok (.iload_n 3, 1) := by decide +kernel
theorem dX9_possible_21 : decode cX9_possible 21 = .ok (.goto 12, 3) := by decide +kernel
theorem dX9_possible_24 : decode cX9_possible 24 = .ok (.aload_n 0, 1) := by decide +kernel
theorem dX9_possible_25 : decode cX9_possible 25 = .ok (.iload_n 1, 1) := by decide +kernel
theorem dX9_possible_26 : decode cX9_possible 26 = .ok (.invokevirtual 263, 3) := by decide +kernel
theorem dX9_possible_29 : decode cX9_possible 29 = .ok (.iload_n 2, 1) := by decide +kernel
theorem dX9_possible_30 : decode cX9_possible 30 = .ok (.invokevirtual 270, 3) := by decide +kernel
theorem dX9_possible_33 : decode cX9_possible 33 = .ok (.ireturn, 1) := by decide +kernel
theorem dX9_sure_0 : decode cX9_sure 0 = .ok (.aload_n 0, 1) := by decide +kernel
theorem dX9_sure_1 : decode cX9_sure 1 = .ok (.iload_n 1, 1) := by decide +kernel
theorem dX9_sure_2 : decode cX9_sure 2 = .ok (.iconst 1, 1) := by decide +kernel
theorem dX9_sure_3 : decode cX9_sure 3 = .ok (.invokevirtual 259, 3) := by decide +kernel
theorem dX9_sure_6 : decode cX9_sure 6 = .ok (.istore_n 2, 1) := by decide +kernel
theorem dX9_sure_7 : decode cX9_sure 7 = .ok (.iload_n 2, 1) := by decide +kernel
theorem dX9_sure_8 : decode cX9_sure 8 = .ok (.ifCond .eq 5, 3) := by decide +kernel
theorem dX9_sure_11 : decode cX9_sure 11 = .ok (.iload_n 2, 1) := by decide +kernel
theorem dX9_sure_12 : decode cX9_sure 12 = .ok (.ireturn, 1) := by decide +kernel
theorem dX9_sure_13 : decode cX9_sure 13 = .ok (.aload_n 0, 1) := by decide +kernel
theorem dX9_sure_14 : decode cX9_sure 14 = .ok (.iload_n 1, 1) := by decide +kernel
theorem dX9_sure_15 : decode cX9_sure 15 = .ok (.invokevirtual 263, 3) := by decide +kernel
theorem dX9_sure_18 : decode cX9_sure 18 = .ok (.invokevirtual 273, 3) := by decide +kernel
theorem dX9_sure_21 : decode cX9_sure 21 = .ok (.ifCond .eq 7, 3) := by decide +kernel
theorem dX9_sure_24 : decode cX9_sure 24 = .ok (.iconst 0, 1) := by decide +kernel
theorem dX9_sure_25 : decode cX9_sure 25 = .ok (.goto 4, 3) := by decide +kernel
theorem dX9_sure_28 : decode cX9_sure 28 = .ok (.iconst 1, 1) := by decide +kernel
theorem dX9_sure_29 : decode cX9_sure 29 = .ok (.ireturn, 1) := by decide +kernel
theorem dX9_around_0 : decode cX9_around 0 = .ok (.aload_n 0, 1) := by decide +kernel
theorem dX9_around_1 : decode cX9_around 1 = .ok (.iload_n 1, 1) := by decide +kernel
theorem dX9_around_2 : decode cX9_around 2 = .ok (.iload_n 2, 1) := by decide +kernel
theorem dX9_around_3 : decode cX9_around 3 = .ok (.iconst (-1), 1) := by decide +kernel
theorem dX9_around_4 : decode cX9_around 4 = .ok (.if_icmp .lt 7, 3) := by decide +kernel
theorem dX9_around_7 : decode cX9_around 7 = .ok (.iconst 1, 1) := by decide +kernel
theorem dX9_around_8 : decode cX9_around 8 = .ok (.goto 4, 3) := by decide +kernel
theorem dX9_around_11 : decode cX9_around 11 = .ok (.iconst 0, 1) := by decide +kernel
theorem dX9_around_12 : decode cX9_around 12 = .ok (.invokevirtual 259, 3) := by decide +kernel
theorem dX9_around_15 : decode cX9_around 15 = .ok (.istore_n 3, 1) := by decide +kernel
theorem dX9_around_16 : decode cX9_around 16 = .ok (.iload_n 3, 1) := by decide +kernel
theorem dX9_around_17 : decode cX9_around 17 = .ok (.ifCond .eq 7, 3) := by decide +kernel
theorem dX9_around_20 : decode cX9_around 20 = .ok (.iload_n 3, 1) := by decide +kernel
theorem dX9_around_21 : decode cX9_around 21 = .ok (.goto 12, 3) := by decide +kernel
theorem dX9_around_24 : decode cX9_around 24 = .ok (.aload_n 0, 1) := by decide +kernel
theorem dX9_around_25 : decode cX9_around 25 = .ok (.iload_n 1, 1) := by decide +kernel
theorem dX9_around_26 : decode cX9_around 26 = .ok (.invokevirtual 263, 3) := by decide +kernel
theorem dX9_around_29 : decode cX9_around 29 = .ok (.iload_n 2, 1) := by decide +kernel
theorem dX9_around_30 : decode cX9_around 30 = .ok (.invokevirtual 276, 3) := by decide +kernel
theorem dX9_around_33 : decode cX9_around 33 = .ok (.ireturn, 1) := by decide +kernel
theorem dX9_slice_0 : decode cX9_slice 0 = .ok (.aload_n 0, 1) := by decide +kernel
theorem dX9_slice_1 : decode cX9_slice 1 = .ok (.iload_n 1, 1) := by decide +kernel
theorem dX9_slice_2 : decode cX9_slice 2 = .ok (.iload_n 2, 1) := by decide +kernel
theorem dX9_slice_3 : decode cX9_slice 3 = .ok (.iconst (-1), 1) := by decide +kernel
theorem dX9_slice_4 : decode cX9_slice 4 = .ok (.if_icmp .lt 7, 3) := by decide +kernel
theorem dX9_slice_7 : decode cX9_slice 7 = .ok (.iconst 1, 1) := by decide +kernel
theorem dX9_slice_8 : decode cX9_slice 8 = .ok (.goto 4, 3) := by decide +kernel
theorem dX9_slice_11 : decode cX9_slice 11 = .ok (.iconst 0, 1) := by decide +kernel
theorem dX9_slice_12 : decode cX9_slice 12 = .ok (.invokevirtual 259, 3) := by decide +kernel
theorem dX9_slice_15 : decode cX9_slice 15 = .ok (.istore_n 3, 1) := by decide +kernel
theorem dX9_slice_16 : decode cX9_slice 16 = .ok (.iload_n 3, 1) := by decide +kernel
theorem dX9_slice_17 : decode cX9_slice 17 = .ok (.ifCond .eq 7, 3) := by decide +kernel
theorem dX9_slice_20 : decode cX9_slice 20 = .ok (.iload_n 3, 1) := by decide +kernel
theorem dX9_slice_21 : decode cX9_slice 21 = .ok (.goto 12, 3) := by decide +kernel
theorem dX9_slice_24 : decode cX9_slice 24 = .ok (.aload_n 0, 1) := by decide +kernel
theorem dX9_slice_25 : decode cX9_slice 25 = .ok (.iload_n 1, 1) := by decide +kernel
theorem dX9_slice_26 : decode cX9_slice 26 = .ok (.invokevirtual 263, 3) := by decide +kernel
theorem dX9_slice_29 : decode cX9_slice 29 = .ok (.iload_n 2, 1) := by decide +kernel
theorem dX9_slice_30 : decode cX9_slice 30 = .ok (.invokevirtual 279, 3) := by decide +kernel
theorem dX9_slice_33 : decode cX9_slice 33 = .ok (.ireturn, 1) := by decide +kernel
theorem dX9_regular_0 : decode cX9_regular 0 = .ok (.aload_n 0, 1) := by decide +kernel
theorem dX9_regular_1 : decode cX9_regular 1 = .ok (.iload_n 1, 1) := by decide +kernel
theorem dX9_regular_2 : decode cX9_regular 2 = .ok (.iconst 1, 1) := by decide +kernel
theorem dX9_regular_3 : decode cX9_regular 3 = .ok (.invokevirtual 259, 3) := by decide +kernel
theorem dX9_regular_6 : decode cX9_regular 6 = .ok (.istore_n 2, 1) := by decide +kernel
theorem dX9_regular_7 : decode cX9_regular 7 = .ok (.iload_n 2, 1) := by decide +kernel
theorem dX9_regular_8 : decode cX9_regular 8 = .ok (.ifCond .eq 5, 3) := by decide +kernel
theorem dX9_regular_11 : decode cX9_regular 11 = .ok (.iload_n 2, 1) := by decide +kernel
theorem dX9_regular_12 : decode cX9_regular 12 = .ok (.ireturn, 1) := by decide +kernel
theorem dX9_regular_13 : decode cX9_regular 13 = .ok (.aload_n 0, 1) := by decide +kernel
theorem dX9_regular_14 : decode cX9_regular 14 = .ok (.iload_n 1, 1) := by decide +kernel
theorem dX9_regular_15 : decode cX9_regular 15 = .ok (.invokevirtual 263, 3) := by decide +kernel
theorem dX9_regular_18 : decode cX9_regular 18 = .ok (.invokevirtual 282, 3) := by decide +kernel
theorem dX9_regular_21 : decode cX9_regular 21 = .ok (.ifCond .eq 7, 3) := by decide +kernel
theorem dX9_regular_24 : decode cX9_regular 24 = .ok (.iconst 1, 1) := by decide +kernel
theorem dX9_regular_25 : decode cX9_regular 25 = .ok (.goto 4, 3) := by decide +kernel
theorem dX9_regular_28 : decode cX9_regular 28 = .ok (.iconst 0, 1) := by decide +kernel
theorem dX9_regular_29 : decode cX9_regular 29 = .ok (.ireturn, 1) := by decide +kernel
theorem dX9_least_0 : decode cX9_least 0 = .ok (.aload_n 0, 1) := by decide +kernel
theorem dX9_least_1 : decode cX9_least 1 = .ok (.iload_n 1, 1) := by decide +kernel
theorem dX9_least_2 : decode cX9_least 2 = .ok (.aload_n 0, 1) := by decide +kernel
theorem dX9_least_3 : decode cX9_least 3 = .ok (.getfield 12, 3) := by decide +kernel
theorem dX9_least_6 : decode cX9_least 6 = .ok (.iload_n 2, 1) := by decide +kernel
theorem dX9_least_7 : decode cX9_least 7 = .ok (.iload_n 3, 1) := by decide +kernel
theorem dX9_least_8 : decode cX9_least 8 = .ok (.invokevirtual 144, 3) := by decide +kernel
theorem dX9_least_11 : decode cX9_least 11 = .ok (.invokevirtual 259, 3) := by decide +kernel
theorem dX9_least_14 : decode cX9_least 14 = .ok (.istore 4, 2) := by decide +kernel
theorem dX9_least_16 : decode cX9_least 16 = .ok (.iload 4, 2) := by decide +kernel
theorem dX9_least_18 : decode cX9_least 18 = .ok (.ifCond .eq 8, 3) := by decide +kernel
theorem dX9_least_21 : decode cX9_least 21 = .ok (.iload 4, 2) := by decide +kernel
theorem dX9_least_23 : decode cX9_least 23 = .ok (.goto 13, 3) := by decide +kernel
theorem dX9_least_26 : decode cX9_least 26 = .ok (.aload_n 0, 1) := by decide +kernel
theorem dX9_least_27 : decode cX9_least 27 = .ok (.iload_n 1, 1) := by decide +kernel
theorem dX9_least_28 : decode cX9_least 28 = .ok (.invokevirtual 263, 3) := by decide +kernel
theorem dX9_least_31 : decode cX9_least 31 = .ok (.iload_n 2, 1) := by decide +kernel
theorem dX9_least_32 : decode cX9_least 32 = .ok (.iload_n 3, 1) := by decide +kernel
theorem dX9_least_33 : decode cX9_least 33 = .ok (.invokevirtual 285, 3) := by decide +kernel
theorem dX9_least_36 : decode cX9_least 36 = .ok (.ireturn, 1) := by decide +kernel
theorem dX9_forget_0 : decode cX9_forget 0 = .ok (.aload_n 0, 1) := by decide +kernel
theorem dX9_forget_1 : decode cX9_forget 1 = .ok (.iload_n 1, 1) := by decide +kernel
theorem dX9_forget_2 : decode cX9_forget 2 = .ok (.iconst 1, 1) := by decide +kernel
theorem dX9_forget_3 : decode cX9_forget 3 = .ok (.invokevirtual 259, 3) := by decide +kernel
theorem dX9_forget_6 : decode cX9_forget 6 = .ok (.istore_n 2, 1) := by decide +kernel
theorem dX9_forget_7 : decode cX9_forget 7 = .ok (.iload_n 2, 1) := by decide +kernel
theorem dX9_forget_8 : decode cX9_forget 8 = .ok (.ifCond .eq 5, 3) := by decide +kernel
theorem dX9_forget_11 : decode cX9_forget 11 = .ok (.iload_n 2, 1) := by decide +kernel
theorem dX9_forget_12 : decode cX9_forget 12 = .ok (.ireturn, 1) := by decide +kernel
theorem dX9_forget_13 : decode cX9_forget 13 = .ok (.aload_n 0, 1) := by decide +kernel
theorem dX9_forget_14 : decode cX9_forget 14 = .ok (.getfield 23, 3) := by decide +kernel
theorem dX9_forget_17 : decode cX9_forget 17 = .ok (.iload_n 1, 1) := by decide +kernel
theorem dX9_forget_18 : decode cX9_forget 18 = .ok (.aaload, 1) := by decide +kernel
theorem dX9_forget_19 : decode cX9_forget 19 = .ok (.iconst 0, 1) := by decide +kernel
theorem dX9_forget_20 : decode cX9_forget 20 = .ok (.putfield 91, 3) := by decide +kernel
theorem dX9_forget_23 : decode cX9_forget 23 = .ok (.iconst 1, 1) := by decide +kernel
theorem dX9_forget_24 : decode cX9_forget 24 = .ok (.ireturn, 1) := by decide +kernel
theorem dX9_mark_0 : decode cX9_mark 0 = .ok (.aload_n 0, 1) := by decide +kernel
theorem dX9_mark_1 : decode cX9_mark 1 = .ok (.getfield 12, 3) := by decide +kernel
theorem dX9_mark_4 : decode cX9_mark 4 = .ok (.iload_n 1, 1) := by decide +kernel
theorem dX9_mark_5 : decode cX9_mark 5 = .ok (.iload_n 2, 1) := by decide +kernel
theorem dX9_mark_6 : decode cX9_mark 6 = .ok (.invokevirtual 144, 3) := by decide +kernel
theorem dX9_mark_9 : decode cX9_mark 9 = .ok (.ifCond .ne 5, 3) := by decide +kernel
theorem dX9_mark_12 : decode cX9_mark 12 = .ok (.iconst (-1), 1) := by decide +kernel
theorem dX9_mark_13 : decode cX9_mark 13 = .ok (.ireturn, 1) := by decide +kernel
theorem dX9_mark_14 : decode cX9_mark 14 = .ok (.iload_n 3, 1) := by decide +kernel
theorem dX9_mark_15 : decode cX9_mark 15 = .ok (.ifCond .eq 11, 3) := by decide +kernel
theorem dX9_mark_18 : decode cX9_mark 18 = .ok (.iload_n 3, 1) := by decide +kernel
theorem dX9_mark_19 : decode cX9_mark 19 = .ok (.iconst 1, 1) := by decide +kernel
theorem dX9_mark_20 : decode cX9_mark 20 = .ok (.if_icmp .eq 6, 3) := by decide +kernel
theorem dX9_mark_23 : decode cX9_mark 23 = .ok (.bipush (-2), 2) := by decide +kernel
theorem dX9_mark_25 : decode cX9_mark 25 = .ok (.ireturn, 1) := by decide +kernel
theorem dX9_mark_26 : decode cX9_mark 26 = .ok (.iload_n 1, 1) := by decide +kernel
theorem dX9_mark_27 : decode cX9_mark 27 = .ok (.iload_n 2, 1) := by decide +kernel
theorem dX9_mark_28 : decode cX9_mark 28 = .ok (.invokestatic 148, 3) := by decide +kernel
theorem dX9_mark_31 : decode cX9_mark 31 = .ok (.istore 4, 2) := by decide +kernel
theorem dX9_mark_33 : decode cX9_mark 33 = .ok (.aload_n 0, 1) := by decide +kernel
theorem dX9_mark_34 : decode cX9_mark 34 = .ok (.getfield 12, 3) := by decide +kernel
theorem dX9_mark_37 : decode cX9_mark 37 = .ok (.getfield 161, 3) := by decide +kernel
theorem dX9_mark_40 : decode cX9_mark 40 = .ok (.iload 4, 2) := by decide +kernel
theorem dX9_mark_42 : decode cX9_mark 42 = .ok (.iaload, 1) := by decide +kernel
theorem dX9_mark_43 : decode cX9_mark 43 = .ok (.istore 5, 2) := by decide +kernel
theorem dX9_mark_45 : decode cX9_mark 45 = .ok (.aload_n 0, 1) := by decide +kernel
theorem dX9_mark_46 : decode cX9_mark 46 = .ok (.getfield 12, 3) := by decide +kernel
theorem dX9_mark_49 : decode cX9_mark 49 = .ok (.getfield 161, 3) := by decide +kernel
theorem dX9_mark_52 : decode cX9_mark 52 = .ok (.iload 4, 2) := by decide +kernel
theorem dX9_mark_54 : decode cX9_mark 54 = .ok (.iload_n 3, 1) := by decide +kernel
theorem dX9_mark_55 : decode cX9_mark 55 = .ok (.iastore, 1) := by decide +kernel
theorem dX9_mark_56 : decode cX9_mark 56 = .ok (.iload 5, 2) := by decide +kernel
theorem dX9_mark_58 : decode cX9_mark 58 = .ok (.ireturn, 1) := by decide +kernel
theorem dX9_line_0 : decode cX9_line 0 = .ok (.aload_n 0, 1) := by decide +kernel
theorem dX9_line_1 : decode cX9_line 1 = .ok (.invokevirtual 187, 3) := by decide +kernel
theorem dX9_line_4 : decode cX9_line 4 = .ok (.getfield 191, 3) := by decide +kernel
theorem dX9_line_7 : decode cX9_line 7 = .ok (.iconst 1, 1) := by decide +kernel
theorem dX9_line_8 : decode cX9_line 8 = .ok (.isub, 1) := by decide +kernel
theorem dX9_line_9 : decode cX9_line 9 = .ok (.istore_n 1, 1) := by decide +kernel
theorem dX9_line_10 : decode cX9_line 10 = .ok (.iload_n 1, 1) := by decide +kernel
theorem dX9_line_11 : decode cX9_line 11 = .ok (.istore_n 2, 1) := by decide +kernel
theorem dX9_line_12 : decode cX9_line 12 = .ok (.iload_n 2, 1) := by decide +kernel
theorem dX9_line_13 : decode cX9_line 13 = .ok (.ifCond .le 30, 3) := by decide +kernel
theorem dX9_line_16 : decode cX9_line 16 = .ok (.aload_n 0, 1) := by decide +kernel
theorem dX9_line_17 : decode cX9_line 17 = .ok (.getfield 12, 3) := by decide +kernel
theorem dX9_line_20 : decode cX9_line 20 = .ok (.aload_n 0, 1) := by decide +kernel
theorem dX9_line_21 : decode cX9_line 21 = .ok (.getfield 58, 3) := by decide +kernel
theorem dX9_line_24 : decode cX9_line 24 = .ok (.getfield 197, 3) := by decide +kernel
theorem dX9_line_27 : decode cX9_line 27 = .ok (.iload_n 2, 1) := by decide +kernel
theorem dX9_line_28 : decode cX9_line 28 = .ok (.iaload, 1) := by decide +kernel
theorem dX9_line_29 : decode cX9_line 29 = .ok (.invokevirtual 288, 3) := by decide +kernel
theorem dX9_line_32 : decode cX9_line 32 = .ok (.ifCond .eq 5, 3) := by decide +kernel
theorem dX9_line_35 : decode cX9_line 35 = .ok (.iload_n 2, 1) := by decide +kernel
theorem dX9_line_36 : decode cX9_line 36 = .ok (.ireturn, 1) := by decide +kernel
theorem dX9_line_37 : decode cX9_line 37 = .ok (.iinc 2 (-1), 3) := by decide +kernel
theorem dX9_line_40 : decode cX9_line 40 = .ok (.goto (-28), 3) := by decide +kernel
theorem dX9_line_43 : decode cX9_line 43 = .ok (.iconst 0, 1) := by decide +kernel
theorem dX9_line_44 : decode cX9_line 44 = .ok (.ireturn, 1) := by decide +kernel
theorem dX9_feed_0 : decode cX9_feed 0 = .ok (.iload_n 1, 1) := by decide +kernel
theorem dX9_feed_1 : decode cX9_feed 1 = .ok (.bipush 32, 2) := by decide +kernel
theorem dX9_feed_3 : decode cX9_feed 3 = .ok (.if_icmp .lt 9, 3) := by decide +kernel
theorem dX9_feed_6 : decode cX9_feed 6 = .ok (.iload_n 1, 1) := by decide +kernel
theorem dX9_feed_7 : decode cX9_feed 7 = .ok (.bipush 126, 2) := by decide +kernel
theorem dX9_feed_9 : decode cX9_feed 9 = .ok (.if_icmp .le 6, 3) := by decide +kernel
theorem dX9_feed_12 : decode cX9_feed 12 = .ok (.bipush (-2), 2) := by decide +kernel
theorem dX9_feed_14 : decode cX9_feed 14 = .ok (.ireturn, 1) := by decide +kernel
theorem dX9_feed_15 : decode cX9_feed 15 = .ok (.aload_n 0, 1) := by decide +kernel
theorem dX9_feed_16 : decode cX9_feed 16 = .ok (.getfield 45, 3) := by decide +kernel
theorem dX9_feed_19 : decode cX9_feed 19 = .ok (.getfield 291, 3) := by decide +kernel
theorem dX9_feed_22 : decode cX9_feed 22 = .ok (.bipush 60, 2) := by decide +kernel
theorem dX9_feed_24 : decode cX9_feed 24 = .ok (.if_icmp .lt 6, 3) := by decide +kernel
theorem dX9_feed_27 : decode cX9_feed 27 = .ok (.bipush (-4), 2) := by decide +kernel
theorem dX9_feed_29 : decode cX9_feed 29 = .ok (.ireturn, 1) := by decide +kernel
theorem dX9_feed_30 : decode cX9_feed 30 = .ok (.aload_n 0, 1) := by decide +kernel
theorem dX9_feed_31 : decode cX9_feed 31 = .ok (.getfield 45, 3) := by decide +kernel
theorem dX9_feed_34 : decode cX9_feed 34 = .ok (.iload_n 1, 1) := by decide +kernel
theorem dX9_feed_35 : decode cX9_feed 35 = .ok (.invokevirtual 294, 3) := by decide +kernel
theorem dX9_feed_38 : decode cX9_feed 38 = .ok (.aload_n 0, 1) := by decide +kernel
theorem dX9_feed_39 : decode cX9_feed 39 = .ok (.getfield 45, 3) := by decide +kernel
theorem dX9_feed_42 : decode cX9_feed 42 = .ok (.getfield 291, 3) := by decide +kernel
theorem dX9_feed_45 : decode cX9_feed 45 = .ok (.ireturn, 1) := by decide +kernel
theorem dX9_wipe_0 : decode cX9_wipe 0 = .ok (.aload_n 0, 1) := by decide +kernel
theorem dX9_wipe_1 : decode cX9_wipe 1 = .ok (.getfield 45, 3) := by decide +kernel
theorem dX9_wipe_4 : decode cX9_wipe 4 = .ok (.getfield 291, 3) := by decide +kernel
theorem dX9_wipe_7 : decode cX9_wipe 7 = .ok (.istore_n 1, 1) := by decide +kernel
theorem dX9_wipe_8 : decode cX9_wipe 8 = .ok (.aload_n 0, 1) := by decide +kernel
theorem dX9_wipe_9 : decode cX9_wipe 9 = .ok (.getfield 45, 3) := by decide +kernel
theorem dX9_wipe_12 : decode cX9_wipe 12 = .ok (.invokevirtual 249, 3) := by decide +kernel
theorem dX9_wipe_15 : decode cX9_wipe 15 = .ok (.iload_n 1, 1) := by decide +kernel
theorem dX9_wipe_16 : decode cX9_wipe 16 = .ok (.ireturn, 1) := by decide +kernel
theorem dX9_tell_0 : decode cX9_tell 0 = .ok (.aload_n 0, 1) := by decide +kernel
theorem dX9_tell_1 : decode cX9_tell 1 = .ok (.getfield 74, 3) := by decide +kernel
theorem dX9_tell_4 : decode cX9_tell 4 = .ok (.invokevirtual 296, 3) := by decide +kernel
theorem dX9_tell_7 : decode cX9_tell 7 = .ok (.ifCond .eq 10, 3) := by decide +kernel
theorem dX9_tell_10 : decode cX9_tell 10 = .ok (.aload_n 0, 1) := by decide +kernel
theorem dX9_tell_11 : decode cX9_tell 11 = .ok (.invokevirtual 299, 3) := by decide +kernel
theorem dX9_tell_14 : decode cX9_tell 14 = .ok (.goto 13, 3) := by decide +kernel
theorem dX9_tell_17 : decode cX9_tell 17 = .ok (.bipush (-100), 2) := by decide +kernel
theorem dX9_tell_19 : decode cX9_tell 19 = .ok (.aload_n 0, 1) := by decide +kernel
theorem dX9_tell_20 : decode cX9_tell 20 = .ok (.getfield 45, 3) := by decide +kernel
theorem dX9_tell_23 : decode cX9_tell 23 = .ok (.getfield 246, 3) := by decide +kernel
theorem dX9_tell_26 : decode cX9_tell 26 = .ok (.isub, 1) := by decide +kernel
theorem dX9_tell_27 : decode cX9_tell 27 = .ok (.istore_n 1, 1) := by decide +kernel
theorem dX9_tell_28 : decode cX9_tell 28 = .ok (.aload_n 0, 1) := by decide +kernel
theorem dX9_tell_29 : decode cX9_tell 29 = .ok (.getfield 45, 3) := by decide +kernel
theorem dX9_tell_32 : decode cX9_tell 32 = .ok (.invokevirtual 249, 3) := by decide +kernel
theorem dX9_tell_35 : decode cX9_tell 35 = .ok (.iload_n 1, 1) := by decide +kernel
theorem dX9_tell_36 : decode cX9_tell 36 = .ok (.ireturn, 1) := by decide +kernel
theorem dX9_list_0 : decode cX9_list 0 = .ok (.iload_n 1, 1) := by decide +kernel
theorem dX9_list_1 : decode cX9_list 1 = .ok (.invokestatic 303, 3) := by decide +kernel
theorem dX9_list_4 : decode cX9_list 4 = .ok (.ifCond .ne 5, 3) := by decide +kernel
theorem dX9_list_7 : decode cX9_list 7 = .ok (.iconst (-1), 1) := by decide +kernel
theorem dX9_list_8 : decode cX9_list 8 = .ok (.ireturn, 1) := by decide +kernel
theorem dX9_list_9 : decode cX9_list 9 = .ok (.iload_n 2, 1) := by decide +kernel
theorem dX9_list_10 : decode cX9_list 10 = .ok (.bipush 20, 2) := by decide +kernel
theorem dX9_list_12 : decode cX9_list 12 = .ok (.if_icmp .le 6, 3) := by decide +kernel
theorem dX9_list_15 : decode cX9_list 15 = .ok (.bipush (-2), 2) := by decide +kernel
theorem dX9_list_17 : decode cX9_list 17 = .ok (.ireturn, 1) := by decide +kernel
theorem dX9_list_18 : decode cX9_list 18 = .ok (.iload_n 2, 1) := by decide +kernel
theorem dX9_list_19 : decode cX9_list 19 = .ok (.iconst (-1), 1) := by decide +kernel
theorem dX9_list_20 : decode cX9_list 20 = .ok (.if_icmp .ge 6, 3) := by decide +kernel
theorem dX9_list_23 : decode cX9_list 23 = .ok (.bipush (-14), 2) := by decide +kernel
theorem dX9_list_25 : decode cX9_list 25 = .ok (.ireturn, 1) := by decide +kernel
theorem dX9_list_26 : decode cX9_list 26 = .ok (.aload_n 0, 1) := by decide +kernel
theorem dX9_list_27 : decode cX9_list 27 = .ok (.getfield 38, 3) := by decide +kernel
theorem dX9_list_30 : decode cX9_list 30 = .ok (.iload_n 1, 1) := by decide +kernel
theorem dX9_list_31 : decode cX9_list 31 = .ok (.aaload, 1) := by decide +kernel
theorem dX9_list_32 : decode cX9_list 32 = .ok (.iload_n 2, 1) := by decide +kernel
theorem dX9_list_33 : decode cX9_list 33 = .ok (.invokevirtual 306, 3) := by decide +kernel
theorem dX9_list_36 : decode cX9_list 36 = .ok (.iconst 1, 1) := by decide +kernel
theorem dX9_list_37 : decode cX9_list 37 = .ok (.ireturn, 1) := by decide +kernel
theorem dX9_lay_0 : decode cX9_lay 0 = .ok (.iload_n 1, 1) := by decide +kernel
theorem dX9_lay_1 : decode cX9_lay 1 = .ok (.invokestatic 303, 3) := by decide +kernel
theorem dX9_lay_4 : decode cX9_lay 4 = .ok (.ifCond .ne 5, 3) := by decide +kernel
theorem dX9_lay_7 : decode cX9_lay 7 = .ok (.iconst (-1), 1) := by decide +kernel
theorem dX9_lay_8 : decode cX9_lay 8 = .ok (.ireturn, 1) := by decide +kernel
theorem dX9_lay_9 : decode cX9_lay 9 = .ok (.aload_n 0, 1) := by decide +kernel
theorem dX9_lay_10 : decode cX9_lay 10 = .ok (.getfield 38, 3) := by decide +kernel
theorem dX9_lay_13 : decode cX9_lay 13 = .ok (.iload_n 1, 1) := by decide +kernel
theorem dX9_lay_14 : decode cX9_lay 14 = .ok (.aaload, 1) := by decide +kernel
theorem dX9_lay_15 : decode cX9_lay 15 = .ok (.invokevirtual 309, 3) := by decide +kernel
theorem dX9_lay_18 : decode cX9_lay 18 = .ok (.ifCond .eq 6, 3) := by decide +kernel
theorem dX9_lay_21 : decode cX9_lay 21 = .ok (.bipush (-11), 2) := by decide +kernel
theorem dX9_lay_23 : decode cX9_lay 23 = .ok (.ireturn, 1) := by decide +kernel
theorem dX9_lay_24 : decode cX9_lay 24 = .ok (.aload_n 0, 1) := by decide +kernel
theorem dX9_lay_25 : decode cX9_lay 25 = .ok (.getfield 38, 3) := by decide +kernel
theorem dX9_lay_28 : decode cX9_lay 28 = .ok (.iload_n 1, 1) := by decide +kernel
theorem dX9_lay_29 : decode cX9_lay 29 = .ok (.aaload, 1) := by decide +kernel
theorem dX9_lay_30 : decode cX9_lay 30 = .ok (.iload_n 2, 1) := by decide +kernel
theorem dX9_lay_31 : decode cX9_lay 31 = .ok (.invokevirtual 312, 3) := by decide +kernel
theorem dX9_lay_34 : decode cX9_lay 34 = .ok (.ifCond .ne 6, 3) := by decide +kernel
theorem dX9_lay_37 : decode cX9_lay 37 = .ok (.bipush (-13), 2) := by decide +kernel
theorem dX9_lay_39 : decode cX9_lay 39 = .ok (.ireturn, 1) := by decide +kernel
theorem dX9_lay_40 : decode cX9_lay 40 = .ok (.aload_n 0, 1) := by decide +kernel
theorem dX9_lay_41 : decode cX9_lay 41 = .ok (.getfield 38, 3) := by decide +kernel
theorem dX9_lay_44 : decode cX9_lay 44 = .ok (.iload_n 1, 1) := by decide +kernel
theorem dX9_lay_45 : decode cX9_lay 45 = .ok (.aaload, 1) := by decide +kernel
theorem dX9_lay_46 : decode cX9_lay 46 = .ok (.getfield 315, 3) := by decide +kernel
theorem dX9_lay_49 : decode cX9_lay 49 = .ok (.iload_n 2, 1) := by decide +kernel
theorem dX9_lay_50 : decode cX9_lay 50 = .ok (.lload_n 3, 1) := by decide +kernel
theorem dX9_lay_51 : decode cX9_lay 51 = .ok (.lastore, 1) := by decide +kernel
theorem dX9_lay_52 : decode cX9_lay 52 = .ok (.iconst 1, 1) := by decide +kernel
theorem dX9_lay_53 : decode cX9_lay 53 = .ok (.ireturn, 1) := by decide +kernel
theorem dX9_get_0 : decode cX9_get 0 = .ok (.iload_n 1, 1) := by decide +kernel
theorem dX9_get_1 : decode cX9_get 1 = .ok (.invokestatic 303, 3) := by decide +kernel
theorem dX9_get_4 : decode cX9_get 4 = .ok (.ifCond .eq 16, 3) := by decide +kernel
theorem dX9_get_7 : decode cX9_get 7 = .ok (.aload_n 0, 1) := by decide +kernel
theorem dX9_get_8 : decode cX9_get 8 = .ok (.getfield 38, 3) := by decide +kernel
theorem dX9_get_11 : decode cX9_get 11 = .ok (.iload_n 1, 1) := by decide +kernel
theorem dX9_get_12 : decode cX9_get 12 = .ok (.aaload, 1) := by decide +kernel
theorem dX9_get_13 : decode cX9_get 13 = .ok (.iload_n 2, 1) := by decide +kernel
theorem dX9_get_14 : decode cX9_get 14 = .ok (.invokevirtual 312, 3) := by decide +kernel
theorem dX9_get_17 : decode cX9_get 17 = .ok (.ifCond .ne 7, 3) := by decide +kernel
theorem dX9_get_20 : decode cX9_get 20 = .ok (.ldc2_w 231, 3) := by decide +kernel
theorem dX9_get_23 : decode cX9_get 23 = .ok (.lreturn, 1) := by decide +kernel
theorem dX9_get_24 : decode cX9_get 24 = .ok (.aload_n 0, 1) := by decide +kernel
theorem dX9_get_25 : decode cX9_get 25 = .ok (.getfield 38, 3) := by decide +kernel
theorem dX9_get_28 : decode cX9_get 28 = .ok (.iload_n 1, 1) := by decide +kernel
theorem dX9_get_29 : decode cX9_get 29 = .ok (.aaload, 1) := by decide +kernel
theorem dX9_get_30 : decode cX9_get 30 = .ok (.getfield 315, 3) := by decide +kernel
theorem dX9_get_33 : decode cX9_get 33 = .ok (.iload_n 2, 1) := by decide +kernel
theorem dX9_get_34 : decode cX9_get 34 = .ok (.laload, 1) := by decide +kernel
theorem dX9_get_35 : decode cX9_get 35 = .ok (.lreturn, 1) := by decide +kernel
theorem dX9_film_0 : decode cX9_film 0 = .ok (.aload_n 0, 1) := by decide +kernel
theorem dX9_film_1 : decode cX9_film 1 = .ok (.iload_n 2, 1) := by decide +kernel
theorem dX9_film_2 : decode cX9_film 2 = .ok (.iload_n 1, 1) := by decide +kernel
theorem dX9_film_3 : decode cX9_film 3 = .ok (.invokestatic 303, 3) := by decide +kernel
theorem dX9_film_6 : decode cX9_film 6 = .ok (.invokevirtual 259, 3) := by decide +kernel
theorem dX9_film_9 : decode cX9_film 9 = .ok (.istore_n 3, 1) := by decide +kernel
theorem dX9_film_10 : decode cX9_film 10 = .ok (.iload_n 3, 1) := by decide +kernel
theorem dX9_film_11 : decode cX9_film 11 = .ok (.ifCond .eq 7, 3) := by decide +kernel
theorem dX9_film_14 : decode cX9_film 14 = .ok (.iload_n 3, 1) := by decide +kernel
theorem dX9_film_15 : decode cX9_film 15 = .ok (.goto 17, 3) := by decide +kernel
theorem dX9_film_18 : decode cX9_film 18 = .ok (.aload_n 0, 1) := by decide +kernel
theorem dX9_film_19 : decode cX9_film 19 = .ok (.iload_n 2, 1) := by decide +kernel
theorem dX9_film_20 : decode cX9_film 20 = .ok (.invokevirtual 263, 3) := by decide +kernel
theorem dX9_film_23 : decode cX9_film 23 = .ok (.aload_n 0, 1) := by decide +kernel
theorem dX9_film_24 : decode cX9_film 24 = .ok (.getfield 38, 3) := by decide +kernel
theorem dX9_film_27 : decode cX9_film 27 = .ok (.iload_n 1, 1) := by decide +kernel
theorem dX9_film_28 : decode cX9_film 28 = .ok (.aaload, 1) := by decide +kernel
theorem dX9_film_29 : decode cX9_film 29 = .ok (.invokevirtual 319, 3) := by decide +kernel
theorem dX9_film_32 : decode cX9_film 32 = .ok (.ireturn, 1) := by decide +kernel
theorem dX9_judge_0 : decode cX9_judge 0 = .ok (.iload_n 1, 1) := by decide +kernel
theorem dX9_judge_1 : decode cX9_judge 1 = .ok (.invokestatic 303, 3) := by decide +kernel
theorem dX9_judge_4 : decode cX9_judge 4 = .ok (.ifCond .eq 10, 3) := by decide +kernel
theorem dX9_judge_7 : decode cX9_judge 7 = .ok (.iload_n 2, 1) := by decide +kernel
theorem dX9_judge_8 : decode cX9_judge 8 = .ok (.invokestatic 233, 3) := by decide +kernel
theorem dX9_judge_11 : decode cX9_judge 11 = .ok (.ifCond .ne 5, 3) := by decide +kernel
theorem dX9_judge_14 : decode cX9_judge 14 = .ok (.iconst (-1), 1) := by decide +kernel
theorem dX9_judge_15 : decode cX9_judge 15 = .ok (.ireturn, 1) := by decide +kernel
theorem dX9_judge_16 : decode cX9_judge 16 = .ok (.aload_n 0, 1) := by decide +kernel
theorem dX9_judge_17 : decode cX9_judge 17 = .ok (.getfield 38, 3) := by decide +kernel
theorem dX9_judge_20 : decode cX9_judge 20 = .ok (.iload_n 1, 1) := by decide +kernel
theorem dX9_judge_21 : decode cX9_judge 21 = .ok (.aaload, 1) := by decide +kernel
theorem dX9_judge_22 : decode cX9_judge 22 = .ok (.invokevirtual 309, 3) := by decide +kernel
theorem dX9_judge_25 : decode cX9_judge 25 = .ok (.ifCond .eq 6, 3) := by decide +kernel
theorem dX9_judge_28 : decode cX9_judge 28 = .ok (.bipush (-11), 2) := by decide +kernel
theorem dX9_judge_30 : decode cX9_judge 30 = .ok (.ireturn, 1) := by decide +kernel
theorem dX9_judge_31 : decode cX9_judge 31 = .ok (.aload_n 0, 1) := by decide +kernel
theorem dX9_judge_32 : decode cX9_judge 32 = .ok (.getfield 23, 3) := by decide +kernel
theorem dX9_judge_35 : decode cX9_judge 35 = .ok (.iload_n 2, 1) := by decide +kernel
theorem dX9_judge_36 : decode cX9_judge 36 = .ok (.aaload, 1) := by decide +kernel
theorem dX9_judge_37 : decode cX9_judge 37 = .ok (.getfield 91, 3) := by decide +kernel
theorem dX9_judge_40 : decode cX9_judge 40 = .ok (.ifCond .ne 6, 3) := by decide +kernel
theorem dX9_judge_43 : decode cX9_judge 43 = .ok (.bipush (-3), 2) := by decide +kernel
theorem dX9_judge_45 : decode cX9_judge 45 = .ok (.ireturn, 1) := by decide +kernel
theorem dX9_judge_46 : decode cX9_judge 46 = .ok (.aload_n 0, 1) := by decide +kernel
theorem dX9_judge_47 : decode cX9_judge 47 = .ok (.iload_n 2, 1) := by decide +kernel
theorem dX9_judge_48 : decode cX9_judge 48 = .ok (.invokevirtual 263, 3) := by decide +kernel
theorem dX9_judge_51 : decode cX9_judge 51 = .ok (.aload_n 0, 1) := by decide +kernel
theorem dX9_judge_52 : decode cX9_judge 52 = .ok (.getfield 38, 3) := by decide +kernel
theorem dX9_judge_55 : decode cX9_judge 55 = .ok (.iload_n 1, 1) := by decide +kernel
theorem dX9_judge_56 : decode cX9_judge 56 = .ok (.aaload, 1) := by decide +kernel
theorem dX9_judge_57 : decode cX9_judge 57 = .ok (.invokevirtual 323, 3) := by decide +kernel
theorem dX9_judge_60 : decode cX9_judge 60 = .ok (.ireturn, 1) := by decide +kernel
theorem dX9_image_0 : decode cX9_image 0 = .ok (.aload_n 0, 1) := by decide +kernel
theorem dX9_image_1 : decode cX9_image 1 = .ok (.getfield 18, 3) := by decide +kernel
theorem dX9_image_4 : decode cX9_image 4 = .ok (.aload_n 0, 1) := by decide +kernel
theorem dX9_image_5 : decode cX9_image 5 = .ok (.getfield 12, 3) := by decide +kernel
theorem dX9_image_8 : decode cX9_image 8 = .ok (.invokevirtual 326, 3) := by decide +kernel
theorem dX9_image_11 : decode cX9_image 11 = .ok (.iconst 0, 1) := by decide +kernel
theorem dX9_image_12 : decode cX9_image 12 = .ok (.istore_n 1, 1) := by decide +kernel
theorem dX9_image_13 : decode cX9_image 13 = .ok (.iload_n 1, 1) := by decide +kernel
theorem dX9_image_14 : decode cX9_image 14 = .ok (.iconst 3, 1) := by decide +kernel
theorem dX9_image_15 : decode cX9_image 15 = .ok (.if_icmp .ge 24, 3) := by decide +kernel
theorem dX9_image_18 : decode cX9_image 18 = .ok (.aload_n 0, 1) := by decide +kernel
theorem dX9_image_19 : decode cX9_image 19 = .ok (.getfield 27, 3) := by decide +kernel
theorem dX9_image_22 : decode cX9_image 22 = .ok (.iload_n 1, 1) := by decide +kernel
theorem dX9_image_23 : decode cX9_image 23 = .ok (.aaload, 1) := by decide +kernel
theorem dX9_image_24 : decode cX9_image 24 = .ok (.aload_n 0, 1) := by decide +kernel
theorem dX9_image_25 : decode cX9_image 25 = .ok (.getfield 23, 3) := by decide +kernel
theorem dX9_image_28 : decode cX9_image 28 = .ok (.iload_n 1, 1) := by decide +kernel
theorem dX9_image_29 : decode cX9_image 29 = .ok (.aaload, 1) := by decide +kernel
theorem dX9_image_30 : decode cX9_image 30 = .ok (.invokevirtual 329, 3) := by decide +kernel
theorem dX9_image_33 : decode cX9_image 33 = .ok (.iinc 1 1, 3) := by decide +kernel
theorem dX9_image_36 : decode cX9_image 36 = .ok (.goto (-23), 3) := by decide +kernel
theorem dX9_image_39 : decode cX9_image 39 = .ok (.aload_n 0, 1) := by decide +kernel
theorem dX9_image_40 : decode cX9_image 40 = .ok (.iconst 1, 1) := by decide +kernel
theorem dX9_image_41 : decode cX9_image 41 = .ok (.putfield 49, 3) := by decide +kernel
theorem dX9_image_44 : decode cX9_image 44 = .ok (.aload_n 0, 1) := by decide +kernel
theorem dX9_image_45 : decode cX9_image 45 = .ok (.getfield 12, 3) := by decide +kernel
theorem dX9_image_48 : decode cX9_image 48 = .ok (.getfield 138, 3) := by decide +kernel
theorem dX9_image_51 : decode cX9_image 51 = .ok (.ireturn, 1) := by decide +kernel
theorem dX9_undo_0 : decode cX9_undo 0 = .ok (.aload_n 0, 1) := by decide +kernel
theorem dX9_undo_1 : decode cX9_undo 1 = .ok (.getfield 49, 3) := by decide +kernel
theorem dX9_undo_4 : decode cX9_undo 4 = .ok (.ifCond .ne 6, 3) := by decide +kernel
theorem dX9_undo_7 : decode cX9_undo 7 = .ok (.bipush (-3), 2) := by decide +kernel
theorem dX9_undo_9 : decode cX9_undo 9 = .ok (.ireturn, 1) := by decide +kernel
theorem dX9_undo_10 : decode cX9_undo 10 = .ok (.aload_n 0, 1) := by decide +kernel
theorem dX9_undo_11 : decode cX9_undo 11 = .ok (.getfield 12, 3) := by decide +kernel
theorem dX9_undo_14 : decode cX9_undo 14 = .ok (.aload_n 0, 1) := by decide +kernel
theorem dX9_undo_15 : decode cX9_undo 15 = .ok (.getfield 18, 3) := by decide +kernel
theorem dX9_undo_18 : decode cX9_undo 18 = .ok (.invokevirtual 326, 3) := by decide +kernel
theorem dX9_undo_21 : decode cX9_undo 21 = .ok (.iconst 0, 1) := by decide +kernel
theorem dX9_undo_22 : decode cX9_undo 22 = .ok (.istore_n 1, 1) := by decide +kernel
theorem dX9_undo_23 : decode cX9_undo 23 = .ok (.iload_n 1, 1) := by decide +kernel
theorem dX9_undo_24 : decode cX9_undo 24 = .ok (.iconst 3, 1) := by decide +kernel
theorem dX9_undo_25 : decode cX9_undo 25 = .ok (.if_icmp .ge 24, 3) := by decide +kernel
theorem dX9_undo_28 : decode cX9_undo 28 = .ok (.aload_n 0, 1) := by decide +kernel
theorem dX9_undo_29 : decode cX9_undo 29 = .ok (.getfield 23, 3) := by decide +kernel
theorem dX9_undo_32 : decode cX9_undo 32 = .ok (.iload_n 1, 1) := by decide +kernel
theorem dX9_undo_33 : decode cX9_undo 33 = .ok (.aaload, 1) := by decide +kernel
theorem dX9_undo_34 : decode cX9_undo 34 = .ok (.aload_n 0, 1) := by decide +kernel
theorem dX9_undo_35 : decode cX9_undo 35 = .ok (.getfield 27, 3) := by decide +kernel
theorem dX9_undo_38 : decode cX9_undo 38 = .ok (.iload_n 1, 1) := by decide +kernel
theorem dX9_undo_39 : decode cX9_undo 39 = .ok (.aaload, 1) := by decide +kernel
theorem dX9_undo_40 : decode cX9_undo 40 = .ok (.invokevirtual 329, 3) := by decide +kernel
theorem dX9_undo_43 : decode cX9_undo 43 = .ok (.iinc 1 1, 3) := by decide +kernel
theorem dX9_undo_46 : decode cX9_undo 46 = .ok (.goto (-23), 3) := by decide +kernel
theorem dX9_undo_49 : decode cX9_undo 49 = .ok (.aload_n 0, 1) := by decide +kernel
theorem dX9_undo_50 : decode cX9_undo 50 = .ok (.invokevirtual 94, 3) := by decide +kernel
theorem dX9_undo_53 : decode cX9_undo 53 = .ok (.aload_n 0, 1) := by decide +kernel
theorem dX9_undo_54 : decode cX9_undo 54 = .ok (.getfield 12, 3) := by decide +kernel
theorem dX9_undo_57 : decode cX9_undo 57 = .ok (.getfield 138, 3) := by decide +kernel
theorem dX9_undo_60 : decode cX9_undo 60 = .ok (.ireturn, 1) := by decide +kernel
theorem dX9_count_0 : decode cX9_count 0 = .ok (.iload_n 1, 1) := by decide +kernel
theorem dX9_count_1 : decode cX9_count 1 = .ok (.tableswitch 93 0 6 #[43, 51, 59, 67, 75, 80, 88], 43) := by decide +kernel
theorem dX9_count_44 : decode cX9_count 44 = .ok (.aload_n 0, 1) := by decide +kernel
theorem dX9_count_45 : decode cX9_count 45 = .ok (.getfield 12, 3) := by decide +kernel
theorem dX9_count_48 : decode cX9_count 48 = .ok (.getfield 83, 3) := by decide +kernel
theorem dX9_count_51 : decode cX9_count 51 = .ok (.ireturn, 1) := by decide +kernel
theorem dX9_count_52 : decode cX9_count 52 = .ok (.aload_n 0, 1) := by decide +kernel
theorem dX9_count_53 : decode cX9_count 53 = .ok (.getfield 12, 3) := by decide +kernel
theorem dX9_count_56 : decode cX9_count 56 = .ok (.getfield 138, 3) := by decide +kernel
theorem dX9_count_59 : decode cX9_count 59 = .ok (.ireturn, 1) := by decide +kernel
theorem dX9_count_60 : decode cX9_count 60 = .ok (.aload_n 0, 1) := by decide +kernel
theorem dX9_count_61 : decode cX9_count 61 = .ok (.getfield 12, 3) := by decide +kernel
theorem dX9_count_64 : decode cX9_count 64 = .ok (.getfield 121, 3) := by decide +kernel
theorem dX9_count_67 : decode cX9_count 67 = .ok (.ireturn, 1) := by decide +kernel
theorem dX9_count_68 : decode cX9_count 68 = .ok (.aload_n 0, 1) := by decide +kernel
theorem dX9_count_69 : decode cX9_count 69 = .ok (.getfield 12, 3) := by decide +kernel
theorem dX9_count_72 : decode cX9_count 72 = .ok (.invokevirtual 331, 3) := by decide +kernel
theorem dX9_count_75 : decode cX9_count 75 = .ok (.ireturn, 1) := by decide +kernel
theorem dX9_count_76 : decode cX9_count 76 = .ok (.aload_n 0, 1) := by decide +kernel
theorem dX9_count_77 : decode cX9_count 77 = .ok (.invokevirtual 334, 3) := by decide +kernel
theorem dX9_count_80 : decode cX9_count 80 = .ok (.ireturn, 1) := by decide +kernel
theorem dX9_count_81 : decode cX9_count 81 = .ok (.aload_n 0, 1) := by decide +kernel
theorem dX9_count_82 : decode cX9_count 82 = .ok (.getfield 45, 3) := by decide +kernel
theorem dX9_count_85 : decode cX9_count 85 = .ok (.getfield 291, 3) := by decide +kernel
theorem dX9_count_88 : decode cX9_count 88 = .ok (.ireturn, 1) := by decide +kernel
theorem dX9_count_89 : decode cX9_count 89 = .ok (.aload_n 0, 1) := by decide +kernel
theorem dX9_count_90 : decode cX9_count 90 = .ok (.invokevirtual 337, 3) := by decide +kernel
theorem dX9_count_93 : decode cX9_count 93 = .ok (.ireturn, 1) := by decide +kernel
theorem dX9_count_94 : decode cX9_count 94 = .ok (.iconst (-1), 1) := by decide +kernel
theorem dX9_count_95 : decode cX9_count 95 = .ok (.ireturn, 1) := by decide +kernel
theorem dX9_isValue_0 : decode cX9_isValue 0 = .ok (.iload_n 0, 1) := by decide +kernel
theorem dX9_isValue_1 : decode cX9_isValue 1 = .ok (.bipush (-99), 2) := by decide +kernel
theorem dX9_isValue_3 : decode cX9_isValue 3 = .ok (.if_icmp .lt 13, 3) := by decide +kernel
theorem dX9_isValue_6 : decode cX9_isValue 6 = .ok (.iload_n 0, 1) := by decide +kernel
theorem dX9_isValue_7 : decode cX9_isValue 7 = .ok (.bipush 99, 2) := by decide +kernel
theorem dX9_isValue_9 : decode cX9_isValue 9 = .ok (.if_icmp .gt 7, 3) := by decide +kernel
theorem dX9_isValue_12 : decode cX9_isValue 12 = .ok (.iconst 1, 1) := by decide +kernel
theorem dX9_isValue_13 : decode cX9_isValue 13 = .ok (.goto 4, 3) := by decide +kernel
theorem dX9_isValue_16 : decode cX9_isValue 16 = .ok (.iconst 0, 1) := by decide +kernel
theorem dX9_isValue_17 : decode cX9_isValue 17 = .ok (.ireturn, 1) := by decide +kernel
theorem dX9_isCondition_0 : decode cX9_isCondition 0 = .ok (.iload_n 0, 1) := by decide +kernel
theorem dX9_isCondition_1 : decode cX9_isCondition 1 = .ok (.ifCond .lt 12, 3) := by decide +kernel
theorem dX9_isCondition_4 : decode cX9_isCondition 4 = .ok (.iload_n 0, 1) := by decide +kernel
theorem dX9_isCondition_5 : decode cX9_isCondition 5 = .ok (.iconst 3, 1) := by decide +kernel
theorem dX9_isCondition_6 : decode cX9_isCondition 6 = .ok (.if_icmp .ge 7, 3) := by decide +kernel
theorem dX9_isCondition_9 : decode cX9_isCondition 9 = .ok (.iconst 1, 1) := by decide +kernel
theorem dX9_isCondition_10 : decode cX9_isCondition 10 = .ok (.goto 4, 3) := by decide +kernel
theorem dX9_isCondition_13 : decode cX9_isCondition 13 = .ok (.iconst 0, 1) := by decide +kernel
theorem dX9_isCondition_14 : decode cX9_isCondition 14 = .ok (.ireturn, 1) := by decide +kernel
theorem dX9_isList_0 : decode cX9_isList 0 = .ok (.iload_n 0, 1) := by decide +kernel
theorem dX9_isList_1 : decode cX9_isList 1 = .ok (.ifCond .lt 12, 3) := by decide +kernel
theorem dX9_isList_4 : decode cX9_isList 4 = .ok (.iload_n 0, 1) := by decide +kernel
theorem dX9_isList_5 : decode cX9_isList 5 = .ok (.iconst 3, 1) := by decide +kernel
theorem dX9_isList_6 : decode cX9_isList 6 = .ok (.if_icmp .ge 7, 3) := by decide +kernel
theorem dX9_isList_9 : decode cX9_isList 9 = .ok (.iconst 1, 1) := by decide +kernel
theorem dX9_isList_10 : decode cX9_isList 10 = .ok (.goto 4, 3) := by decide +kernel
theorem dX9_isList_13 : decode cX9_isList 13 = .ok (.iconst 0, 1) := by decide +kernel
theorem dX9_isList_14 : decode cX9_isList 14 = .ok (.ireturn, 1) := by decide +kernel
theorem dX9_hasCut_0 : decode cX9_hasCut 0 = .ok (.iload_n 1, 1) := by decide +kernel
theorem dX9_hasCut_1 : decode cX9_hasCut 1 = .ok (.ifCond .lt 18, 3) := by decide +kernel
theorem dX9_hasCut_4 : decode cX9_hasCut 4 = .ok (.iload_n 1, 1) := by decide +kernel
theorem dX9_hasCut_5 : decode cX9_hasCut 5 = .ok (.aload_n 0, 1) := by decide +kernel
theorem dX9_hasCut_6 : decode cX9_hasCut 6 = .ok (.invokevirtual 187, 3) := by decide +kernel
theorem dX9_hasCut_9 : decode cX9_hasCut 9 = .ok (.getfield 191, 3) := by decide +kernel
theorem dX9_hasCut_12 : decode cX9_hasCut 12 = .ok (.if_icmp .ge 7, 3) := by decide +kernel
theorem dX9_hasCut_15 : decode cX9_hasCut 15 = .ok (.iconst 1, 1) := by decide +kernel
theorem dX9_hasCut_16 : decode cX9_hasCut 16 = .ok (.goto 4, 3) := by decide +kernel
theorem dX9_hasCut_19 : decode cX9_hasCut 19 = .ok (.iconst 0, 1) := by decide +kernel
theorem dX9_hasCut_20 : decode cX9_hasCut 20 = .ok (.ireturn, 1) := by decide +kernel
theorem dX9_lackOf_0 : decode cX9_lackOf 0 = .ok (.iload_n 1, 1) := by decide +kernel
theorem dX9_lackOf_1 : decode cX9_lackOf 1 = .ok (.invokestatic 233, 3) := by decide +kernel
theorem dX9_lackOf_4 : decode cX9_lackOf 4 = .ok (.ifCond .eq 7, 3) := by decide +kernel
theorem dX9_lackOf_7 : decode cX9_lackOf 7 = .ok (.iload_n 2, 1) := by decide +kernel
theorem dX9_lackOf_8 : decode cX9_lackOf 8 = .ok (.ifCond .ne 5, 3) := by decide +kernel
theorem dX9_lackOf_11 : decode cX9_lackOf 11 = .ok (.iconst (-1), 1) := by decide +kernel
theorem dX9_lackOf_12 : decode cX9_lackOf 12 = .ok (.ireturn, 1) := by decide +kernel
theorem dX9_lackOf_13 : decode cX9_lackOf 13 = .ok (.aload_n 0, 1) := by decide +kernel
theorem dX9_lackOf_14 : decode cX9_lackOf 14 = .ok (.getfield 23, 3) := by decide +kernel
theorem dX9_lackOf_17 : decode cX9_lackOf 17 = .ok (.iload_n 1, 1) := by decide +kernel
theorem dX9_lackOf_18 : decode cX9_lackOf 18 = .ok (.aaload, 1) := by decide +kernel
theorem dX9_lackOf_19 : decode cX9_lackOf 19 = .ok (.getfield 91, 3) := by decide +kernel
theorem dX9_lackOf_22 : decode cX9_lackOf 22 = .ok (.ifCond .eq 7, 3) := by decide +kernel
theorem dX9_lackOf_25 : decode cX9_lackOf 25 = .ok (.iconst 0, 1) := by decide +kernel
theorem dX9_lackOf_26 : decode cX9_lackOf 26 = .ok (.goto 5, 3) := by decide +kernel
theorem dX9_lackOf_29 : decode cX9_lackOf 29 = .ok (.bipush (-3), 2) := by decide +kernel
theorem dX9_lackOf_31 : decode cX9_lackOf 31 = .ok (.ireturn, 1) := by decide +kernel
theorem dX9_noteChange_0 : decode cX9_noteChange 0 = .ok (.aload_n 0, 1) := by decide +kernel
theorem dX9_noteChange_1 : decode cX9_noteChange 1 = .ok (.getfield 58, 3) := by decide +kernel
theorem dX9_noteChange_4 : decode cX9_noteChange 4 = .ok (.iconst 1, 1) := by decide +kernel
theorem dX9_noteChange_5 : decode cX9_noteChange 5 = .ok (.putfield 340, 3) := by decide +kernel
theorem dX9_noteChange_8 : decode cX9_noteChange 8 = .ok (.aload_n 0, 1) := by decide +kernel
theorem dX9_noteChange_9 : decode cX9_noteChange 9 = .ok (.invokevirtual 108, 3) := by decide +kernel
theorem dX9_noteChange_12 : decode cX9_noteChange 12 = .ok (.return_, 1) := by decide +kernel
theorem dX9_noteValues_0 : decode cX9_noteValues 0 = .ok (.iconst 0, 1) := by decide +kernel
theorem dX9_noteValues_1 : decode cX9_noteValues 1 = .ok (.istore_n 1, 1) := by decide +kernel
theorem dX9_noteValues_2 : decode cX9_noteValues 2 = .ok (.iload_n 1, 1) := by decide +kernel
theorem dX9_noteValues_3 : decode cX9_noteValues 3 = .ok (.iconst 3, 1) := by decide +kernel
theorem dX9_noteValues_4 : decode cX9_noteValues 4 = .ok (.if_icmp .ge 19, 3) := by decide +kernel
theorem dX9_noteValues_7 : decode cX9_noteValues 7 = .ok (.aload_n 0, 1) := by decide +kernel
theorem dX9_noteValues_8 : decode cX9_noteValues 8 = .ok (.getfield 32, 3) := by decide +kernel
theorem dX9_noteValues_11 : decode cX9_noteValues 11 = .ok (.iload_n 1, 1) := by decide +kernel
theorem dX9_noteValues_12 : decode cX9_noteValues 12 = .ok (.aaload, 1) := by decide +kernel
theorem dX9_noteValues_13 : decode cX9_noteValues 13 = .ok (.iconst 1, 1) := by decide +kernel
theorem dX9_noteValues_14 : decode cX9_noteValues 14 = .ok (.putfield 256, 3) := by decide +kernel
theorem dX9_noteValues_17 : decode cX9_noteValues 17 = .ok (.iinc 1 1, 3) := by decide +kernel
theorem dX9_noteValues_20 : decode cX9_noteValues 20 = .ok (.goto (-18), 3) := by decide +kernel
theorem dX9_noteValues_23 : decode cX9_noteValues 23 = .ok (.return_, 1) := by decide +kernel
theorem dX9_freshLattice_0 : decode cX9_freshLattice 0 = .ok (.aload_n 0, 1) := by decide +kernel
theorem dX9_freshLattice_1 : decode cX9_freshLattice 1 = .ok (.getfield 58, 3) := by decide +kernel
theorem dX9_freshLattice_4 : decode cX9_freshLattice 4 = .ok (.invokevirtual 341, 3) := by decide +kernel
theorem dX9_freshLattice_7 : decode cX9_freshLattice 7 = .ok (.aload_n 0, 1) := by decide +kernel
theorem dX9_freshLattice_8 : decode cX9_freshLattice 8 = .ok (.getfield 58, 3) := by decide +kernel
theorem dX9_freshLattice_11 : decode cX9_freshLattice 11 = .ok (.areturn, 1) := by decide +kernel
theorem dX9_freshSurvey_0 : decode cX9_freshSurvey 0 = .ok (.aload_n 0, 1) := by decide +kernel
theorem dX9_freshSurvey_1 : decode cX9_freshSurvey 1 = .ok (.getfield 58, 3) := by decide +kernel
theorem dX9_freshSurvey_4 : decode cX9_freshSurvey 4 = .ok (.invokevirtual 341, 3) := by decide +kernel
theorem dX9_freshSurvey_7 : decode cX9_freshSurvey 7 = .ok (.aload_n 0, 1) := by decide +kernel
theorem dX9_freshSurvey_8 : decode cX9_freshSurvey 8 = .ok (.getfield 32, 3) := by decide +kernel
theorem dX9_freshSurvey_11 : decode cX9_freshSurvey 11 = .ok (.iload_n 1, 1) := by decide +kernel
theorem dX9_freshSurvey_12 : decode cX9_freshSurvey 12 = .ok (.aaload, 1) := by decide +kernel
theorem dX9_freshSurvey_13 : decode cX9_freshSurvey 13 = .ok (.invokevirtual 344, 3) := by decide +kernel
theorem dX9_freshSurvey_16 : decode cX9_freshSurvey 16 = .ok (.aload_n 0, 1) := by decide +kernel
theorem dX9_freshSurvey_17 : decode cX9_freshSurvey 17 = .ok (.getfield 32, 3) := by decide +kernel
theorem dX9_freshSurvey_20 : decode cX9_freshSurvey 20 = .ok (.iload_n 1, 1) := by decide +kernel
theorem dX9_freshSurvey_21 : decode cX9_freshSurvey 21 = .ok (.aaload, 1) := by decide +kernel
theorem dX9_freshSurvey_22 : decode cX9_freshSurvey 22 = .ok (.areturn, 1) := by decide +kernel
theorem dX9_doStatements_0 : decode cX9_doStatements 0 = .ok (.aload_n 0, 1) := by decide +kernel
theorem dX9_doStatements_1 : decode cX9_doStatements 1 = .ok (.getfield 45, 3) := by decide +kernel
theorem dX9_doStatements_4 : decode cX9_doStatements 4 = .ok (.iconst 0, 1) := by decide +kernel
theorem dX9_doStatements_5 : decode cX9_doStatements 5 = .ok (.putfield 246, 3) := by decide +kernel
theorem dX9_doStatements_8 : decode cX9_doStatements 8 = .ok (.iconst 0, 1) := by decide +kernel
theorem dX9_doStatements_9 : decode cX9_doStatements 9 = .ok (.istore_n 1, 1) := by decide +kernel
theorem dX9_doStatements_10 : decode cX9_doStatements 10 = .ok (.iload_n 1, 1) := by decide +kernel
theorem dX9_doStatements_11 : decode cX9_doStatements 11 = .ok (.bipush 60, 2) := by decide +kernel
theorem dX9_doStatements_13 : decode cX9_doStatements 13 = .ok (.if_icmp .ge 48, 3) := by decide +kernel
theorem dX9_doStatements_16 : decode cX9_doStatements 16 = .ok (.aload_n 0, 1) := by decide +kernel
theorem dX9_doStatements_17 : decode cX9_doStatements 17 = .ok (.getfield 74, 3) := by decide +kernel
theorem dX9_doStatements_20 : decode cX9_doStatements 20 = .ok (.invokevirtual 345, 3) := by decide +kernel
theorem dX9_doStatements_23 : decode cX9_doStatements 23 = .ok (.ifCond .eq 10, 3) := by decide +kernel
theorem dX9_doStatements_26 : decode cX9_doStatements 26 = .ok (.aload_n 0, 1) := by decide +kernel
theorem dX9_doStatements_27 : decode cX9_doStatements 27 = .ok (.invokevirtual 348, 3) := by decide +kernel
theorem dX9_doStatements_30 : decode cX9_doStatements 30 = .ok (.ifCond .ge 9, 3) := by decide +kernel
theorem dX9_doStatements_33 : decode cX9_doStatements 33 = .ok (.sipush (-300), 3) := by decide +kernel
theorem dX9_doStatements_36 : decode cX9_doStatements 36 = .ok (.iload_n 1, 1) := by decide +kernel
theorem dX9_doStatements_37 : decode cX9_doStatements 37 = .ok (.isub, 1) := by decide +kernel
theorem dX9_doStatements_38 : decode cX9_doStatements 38 = .ok (.ireturn, 1) := by decide +kernel
theorem dX9_doStatements_39 : decode cX9_doStatements 39 = .ok (.aload_n 0, 1) := by decide +kernel
theorem dX9_doStatements_40 : decode cX9_doStatements 40 = .ok (.getfield 45, 3) := by decide +kernel
theorem dX9_doStatements_43 : decode cX9_doStatements 43 = .ok (.bipush 59, 2) := by decide +kernel
theorem dX9_doStatements_45 : decode cX9_doStatements 45 = .ok (.invokevirtual 351, 3) := by decide +kernel
theorem dX9_doStatements_48 : decode cX9_doStatements 48 = .ok (.ifCond .ne 7, 3) := by decide +kernel
theorem dX9_doStatements_51 : decode cX9_doStatements 51 = .ok (.iload_n 1, 1) := by decide +kernel
theorem dX9_doStatements_52 : decode cX9_doStatements 52 = .ok (.iconst 1, 1) := by decide +kernel
theorem dX9_doStatements_53 : decode cX9_doStatements 53 = .ok (.iadd, 1) := by decide +kernel
theorem dX9_doStatements_54 : decode cX9_doStatements 54 = .ok (.ireturn, 1) := by decide +kernel
theorem dX9_doStatements_55 : decode cX9_doStatements 55 = .ok (.iinc 1 1, 3) := by decide +kernel
theorem dX9_doStatements_58 : decode cX9_doStatements 58 = .ok (.goto (-48), 3) := by decide +kernel
theorem dX9_doStatements_61 : decode cX9_doStatements 61 = .ok (.bipush 60, 2) := by decide +kernel
theorem dX9_doStatements_63 : decode cX9_doStatements 63 = .ok (.ireturn, 1) := by decide +kernel
theorem dX9_doStatement_0 : decode cX9_doStatement 0 = .ok (.aload_n 0, 1) := by decide +kernel
theorem dX9_doStatement_1 : decode cX9_doStatement 1 = .ok (.getfield 74, 3) := by decide +kernel
theorem dX9_doStatement_4 : decode cX9_doStatement 4 = .ok (.getfield 354, 3) := by decide +kernel
theorem dX9_doStatement_7 : decode cX9_doStatement 7 = .ok (.ifCond .ne 22, 3) := by decide +kernel
theorem dX9_doStatement_10 : decode cX9_doStatement 10 = .ok (.aload_n 0, 1) := by decide +kernel
theorem dX9_doStatement_11 : decode cX9_doStatement 11 = .ok (.aload_n 0, 1) := by decide +kernel
theorem dX9_doStatement_12 : decode cX9_doStatement 12 = .ok (.getfield 74, 3) := by decide +kernel
theorem dX9_doStatement_15 : decode cX9_doStatement 15 = .ok (.getfield 357, 3) := by decide +kernel
theorem dX9_doStatement_18 : decode cX9_doStatement 18 = .ok (.aload_n 0, 1) := by decide +kernel
theorem dX9_doStatement_19 : decode cX9_doStatement 19 = .ok (.getfield 74, 3) := by decide +kernel
theorem dX9_doStatement_22 : decode cX9_doStatement 22 = .ok (.getfield 360, 3) := by decide +kernel
theorem dX9_doStatement_25 : decode cX9_doStatement 25 = .ok (.invokevirtual 363, 3) := by decide +kernel
theorem dX9_doStatement_28 : decode cX9_doStatement 28 = .ok (.ireturn, 1) := by decide +kernel
theorem dX9_doStatement_29 : decode cX9_doStatement 29 = .ok (.aload_n 0, 1) := by decide +kernel
theorem dX9_doStatement_30 : decode cX9_doStatement 30 = .ok (.getfield 74, 3) := by decide +kernel
theorem dX9_doStatement_33 : decode cX9_doStatement 33 = .ok (.getfield 354, 3) := by decide +kernel
theorem dX9_doStatement_36 : decode cX9_doStatement 36 = .ok (.iconst 1, 1) := by decide +kernel
theorem dX9_doStatement_37 : decode cX9_doStatement 37 = .ok (.if_icmp .ne 22, 3) := by decide +kernel
theorem dX9_doStatement_40 : decode cX9_doStatement 40 = .ok (.aload_n 0, 1) := by decide +kernel
theorem dX9_doStatement_41 : decode cX9_doStatement 41 = .ok (.aload_n 0, 1) := by decide +kernel
theorem dX9_doStatement_42 : decode cX9_doStatement 42 = .ok (.getfield 74, 3) := by decide +kernel
theorem dX9_doStatement_45 : decode cX9_doStatement 45 = .ok (.getfield 357, 3) := by decide +kernel
theorem dX9_doStatement_48 : decode cX9_doStatement 48 = .ok (.aload_n 0, 1) := by decide +kernel
theorem dX9_doStatement_49 : decode cX9_doStatement 49 = .ok (.getfield 74, 3) := by decide +kernel
theorem dX9_doStatement_52 : decode cX9_doStatement 52 = .ok (.getfield 360, 3) := by decide +kernel
theorem dX9_doStatement_55 : decode cX9_doStatement 55 = .ok (.invokevirtual 366, 3) := by decide +kernel
theorem dX9_doStatement_58 : decode cX9_doStatement 58 = .ok (.ireturn, 1) := by decide +kernel
theorem dX9_doStatement_59 : decode cX9_doStatement 59 = .ok (.aload_n 0, 1) := by decide +kernel
theorem dX9_doStatement_60 : decode cX9_doStatement 60 = .ok (.aload_n 0, 1) := by decide +kernel
theorem dX9_doStatement_61 : decode cX9_doStatement 61 = .ok (.getfield 74, 3) := by decide +kernel
theorem dX9_doStatement_64 : decode cX9_doStatement 64 = .ok (.getfield 357, 3) := by decide +kernel
theorem dX9_doStatement_67 : decode cX9_doStatement 67 = .ok (.aload_n 0, 1) := by decide +kernel
theorem dX9_doStatement_68 : decode cX9_doStatement 68 = .ok (.getfield 74, 3) := by decide +kernel
theorem dX9_doStatement_71 : decode cX9_doStatement 71 = .ok (.getfield 369, 3) := by decide +kernel
theorem dX9_doStatement_74 : decode cX9_doStatement 74 = .ok (.aload_n 0, 1) := by decide +kernel
theorem dX9_doStatement_75 : decode cX9_doStatement 75 = .ok (.getfield 74, 3) := by decide +kernel
theorem dX9_doStatement_78 : decode cX9_doStatement 78 = .ok (.getfield 360, 3) := by decide +kernel
theorem dX9_doStatement_81 : decode cX9_doStatement 81 = .ok (.invokevirtual 372, 3) := by decide +kernel
theorem dX9_doStatement_84 : decode cX9_doStatement 84 = .ok (.ireturn, 1) := by decide +kernel
theorem dX9_conditionsTold_0 : decode cX9_conditionsTold 0 = .ok (.iconst 0, 1) := by decide +kernel
theorem dX9_conditionsTold_1 : decode cX9_conditionsTold 1 = .ok (.istore_n 1, 1) := by decide +kernel
theorem dX9_conditionsTold_2 : decode cX9_conditionsTold 2 = .ok (.iconst 0, 1) := by decide +kernel
theorem dX9_conditionsTold_3 : decode cX9_conditionsTold 3 = .ok (.istore_n 2, 1) := by decide +kernel
theorem dX9_conditionsTold_4 : decode cX9_conditionsTold 4 = .ok (.iload_n 2, 1) := by decide +kernel
theorem dX9_conditionsTold_5 : decode cX9_conditionsTold 5 = .ok (.iconst 3, 1) := by decide +kernel
theorem dX9_conditionsTold_6 : decode cX9_conditionsTold 6 = .ok (.if_icmp .ge 29, 3) := by decide +kernel
theorem dX9_conditionsTold_9 : decode cX9_conditionsTold 9 = .ok (.iload_n 1, 1) := by decide +kernel
theorem dX9_conditionsTold_10 : decode cX9_conditionsTold 10 = .ok (.aload_n 0, 1) := by decide +kernel
theorem dX9_conditionsTold_11 : decode cX9_conditionsTold 11 = .ok (.getfield 23, 3) := by decide +kernel
theorem dX9_conditionsTold_14 : decode cX9_conditionsTold 14 = .ok (.iload_n 2, 1) := by decide +kernel
theorem dX9_conditionsTold_15 : decode cX9_conditionsTold 15 = .ok (.aaload, 1) := by decide +kernel
theorem dX9_conditionsTold_16 : decode cX9_conditionsTold 16 = .ok (.getfield 91, 3) := by decide +kernel
theorem dX9_conditionsTold_19 : decode cX9_conditionsTold 19 = .ok (.ifCond .eq 7, 3) := by decide +kernel
theorem dX9_conditionsTold_22 : decode cX9_conditionsTold 22 = .ok (.iconst 1, 1) := by decide +kernel
theorem dX9_conditionsTold_23 : decode cX9_conditionsTold 23 = .ok (.goto 4, 3) := by decide +kernel
theorem dX9_conditionsTold_26 : decode cX9_conditionsTold 26 = .ok (.iconst 0, 1) := by decide +kernel
theorem dX9_conditionsTold_27 : decode cX9_conditionsTold 27 = .ok (.iadd, 1) := by decide +kernel
theorem dX9_conditionsTold_28 : decode cX9_conditionsTold 28 = .ok (.istore_n 1, 1) := by decide +kernel
theorem dX9_conditionsTold_29 : decode cX9_conditionsTold 29 = .ok (.iinc 2 1, 3) := by decide +kernel
theorem dX9_conditionsTold_32 : decode cX9_conditionsTold 32 = .ok (.goto (-28), 3) := by decide +kernel
theorem dX9_conditionsTold_35 : decode cX9_conditionsTold 35 = .ok (.iload_n 1, 1) := by decide +kernel
theorem dX9_conditionsTold_36 : decode cX9_conditionsTold 36 = .ok (.ireturn, 1) := by decide +kernel
theorem dX9_listsThere_0 : decode cX9_listsThere 0 = .ok (.iconst 0, 1) := by decide +kernel
theorem dX9_listsThere_1 : decode cX9_listsThere 1 = .ok (.istore_n 1, 1) := by decide +kernel
theorem dX9_listsThere_2 : decode cX9_listsThere 2 = .ok (.iconst 0, 1) := by decide +kernel
theorem dX9_listsThere_3 : decode cX9_listsThere 3 = .ok (.istore_n 2, 1) := by decide +kernel
theorem dX9_listsThere_4 : decode cX9_listsThere 4 = .ok (.iload_n 2, 1) := by decide +kernel
theorem dX9_listsThere_5 : decode cX9_listsThere 5 = .ok (.iconst 3, 1) := by decide +kernel
theorem dX9_listsThere_6 : decode cX9_listsThere 6 = .ok (.if_icmp .ge 29, 3) := by decide +kernel
theorem dX9_listsThere_9 : decode cX9_listsThere 9 = .ok (.iload_n 1, 1) := by decide +kernel
theorem dX9_listsThere_10 : decode cX9_listsThere 10 = .ok (.aload_n 0, 1) := by decide +kernel
theorem dX9_listsThere_11 : decode cX9_listsThere 11 = .ok (.getfield 38, 3) := by decide +kernel
theorem dX9_listsThere_14 : decode cX9_listsThere 14 = .ok (.iload_n 2, 1) := by decide +kernel
theorem dX9_listsThere_15 : decode cX9_listsThere 15 = .ok (.aaload, 1) := by decide +kernel
theorem dX9_listsThere_16 : decode cX9_listsThere 16 = .ok (.invokevirtual 309, 3) := by decide +kernel
theorem dX9_listsThere_19 : decode cX9_listsThere 19 = .ok (.ifCond .eq 7, 3) := by decide +kernel
theorem dX9_listsThere_22 : decode cX9_listsThere 22 = .ok (.iconst 0, 1) := by decide +kernel
theorem dX9_listsThere_23 : decode cX9_listsThere 23 = .ok (.goto 4, 3) := by decide +kernel
theorem dX9_listsThere_26 : decode cX9_listsThere 26 = .ok (.iconst 1, 1) := by decide +kernel
theorem dX9_listsThere_27 : decode cX9_listsThere 27 = .ok (.iadd, 1) := by decide +kernel
theorem dX9_listsThere_28 : decode cX9_listsThere 28 = .ok (.istore_n 1, 1) := by decide +kernel
theorem dX9_listsThere_29 : decode cX9_listsThere 29 = .ok (.iinc 2 1, 3) := by decide +kernel
theorem dX9_listsThere_32 : decode cX9_listsThere 32 = .ok (.goto (-28), 3) := by decide +kernel
theorem dX9_listsThere_35 : decode cX9_listsThere 35 = .ok (.iload_n 1, 1) := by decide +kernel
theorem dX9_listsThere_36 : decode cX9_listsThere 36 = .ok (.ireturn, 1) := by decide +kernel
theorem dJ6_bitCount_0f7a4_0 : decode cJ6_bitCount_0f7a4 0 = .ok (.iload_n 0, 1) := by decide +kernel
theorem dJ6_bitCount_0f7a4_1 : decode cJ6_bitCount_0f7a4 1 = .ok (.iload_n 0, 1) := by decide +kernel
theorem dJ6_bitCount_0f7a4_2 : decode cJ6_bitCount_0f7a4 2 = .ok (.iconst 1, 1) := by decide +kernel
theorem dJ6_bitCount_0f7a4_3 : decode cJ6_bitCount_0f7a4 3 = .ok (.iushr, 1) := by decide +kernel
theorem dJ6_bitCount_0f7a4_4 : decode cJ6_bitCount_0f7a4 4 = .ok (.ldc_w 265, 3) := by decide +kernel
theorem dJ6_bitCount_0f7a4_7 : decode cJ6_bitCount_0f7a4 7 = .ok (.iand, 1) := by decide +kernel
theorem dJ6_bitCount_0f7a4_8 : decode cJ6_bitCount_0f7a4 8 = .ok (.isub, 1) := by decide +kernel
theorem dJ6_bitCount_0f7a4_9 : decode cJ6_bitCount_0f7a4 9 = .ok (.istore_n 0, 1) := by decide +kernel
theorem dJ6_bitCount_0f7a4_10 : decode cJ6_bitCount_0f7a4 10 = .ok (.iload_n 0, 1) := by decide +kernel
theorem dJ6_bitCount_0f7a4_11 : decode cJ6_bitCount_0f7a4 11 = .ok (.ldc_w 266, 3) := by decide +kernel
theorem dJ6_bitCount_0f7a4_14 : decode cJ6_bitCount_0f7a4 14 = .ok (.iand, 1) := by decide +kernel
theorem dJ6_bitCount_0f7a4_15 : decode cJ6_bitCount_0f7a4 15 = .ok (.iload_n 0, 1) := by decide +kernel
theorem dJ6_bitCount_0f7a4_16 : decode cJ6_bitCount_0f7a4 16 = .ok (.iconst 2, 1) := by decide +kernel
theorem dJ6_bitCount_0f7a4_17 : decode cJ6_bitCount_0f7a4 17 = .ok (.iushr, 1) := by decide +kernel
theorem dJ6_bitCount_0f7a4_18 : decode cJ6_bitCount_0f7a4 18 = .ok (.ldc_w 266, 3) := by decide +kernel
theorem dJ6_bitCount_0f7a4_21 : decode cJ6_bitCount_0f7a4 21 = .ok (.iand, 1) := by decide +kernel
theorem dJ6_bitCount_0f7a4_22 : decode cJ6_bitCount_0f7a4 22 = .ok (.iadd, 1) := by decide +kernel
theorem dJ6_bitCount_0f7a4_23 : decode cJ6_bitCount_0f7a4 23 = .ok (.istore_n 0, 1) := by decide +kernel
theorem dJ6_bitCount_0f7a4_24 : decode cJ6_bitCount_0f7a4 24 = .ok (.iload_n 0, 1) := by decide +kernel
theorem dJ6_bitCount_0f7a4_25 : decode cJ6_bitCount_0f7a4 25 = .ok (.iload_n 0, 1) := by decide +kernel
theorem dJ6_bitCount_0f7a4_26 : decode cJ6_bitCount_0f7a4 26 = .ok (.iconst 4, 1) := by decide +kernel
theorem dJ6_bitCount_0f7a4_27 : decode cJ6_bitCount_0f7a4 27 = .ok (.iushr, 1) := by decide +kernel
theorem dJ6_bitCount_0f7a4_28 : decode cJ6_bitCount_0f7a4 28 = .ok (.iadd, 1) := by decide +kernel
theorem dJ6_bitCount_0f7a4_29 : decode cJ6_bitCount_0f7a4 29 = .ok (.ldc_w 267, 3) := by decide +kernel
theorem dJ6_bitCount_0f7a4_32 : decode cJ6_bitCount_0f7a4 32 = .ok (.iand, 1) := by decide +kernel
theorem dJ6_bitCount_0f7a4_33 : decode cJ6_bitCount_0f7a4 33 = .ok (.istore_n 0, 1) := by decide +kernel
theorem dJ6_bitCount_0f7a4_34 : decode cJ6_bitCount_0f7a4 34 = .ok (.iload_n 0, 1) := by decide +kernel
theorem dJ6_bitCount_0f7a4_35 : decode cJ6_bitCount_0f7a4 35 = .ok (.iload_n 0, 1) := by decide +kernel
theorem dJ6_bitCount_0f7a4_36 : decode cJ6_bitCount_0f7a4 36 = .ok (.bipush 8, 2) := by decide +kernel
theorem dJ6_bitCount_0f7a4_38 : decode cJ6_bitCount_0f7a4 38 = .ok (.iushr, 1) := by decide +kernel
theorem dJ6_bitCount_0f7a4_39 : decode cJ6_bitCount_0f7a4 39 = .ok (.iadd, 1) := by decide +kernel
theorem dJ6_bitCount_0f7a4_40 : decode cJ6_bitCount_0f7a4 40 = .ok (.istore_n 0, 1) := by decide +kernel
theorem dJ6_bitCount_0f7a4_41 : decode cJ6_bitCount_0f7a4 41 = .ok (.iload_n 0, 1) := by decide +kernel
theorem dJ6_bitCount_0f7a4_42 : decode cJ6_bitCount_0f7a4 42 = .ok (.iload_n 0, 1) := by decide +kernel
theorem dJ6_bitCount_0f7a4_43 : decode cJ6_bitCount_0f7a4 43 = .ok (.bipush 16, 2) := by decide +kernel
theorem dJ6_bitCount_0f7a4_45 : decode cJ6_bitCount_0f7a4 45 = .ok (.iushr, 1) := by decide +kernel
theorem dJ6_bitCount_0f7a4_46 : decode cJ6_bitCount_0f7a4 46 = .ok (.iadd, 1) := by decide +kernel
theorem dJ6_bitCount_0f7a4_47 : decode cJ6_bitCount_0f7a4 47 = .ok (.istore_n 0, 1) := by decide +kernel
theorem dJ6_bitCount_0f7a4_48 : decode cJ6_bitCount_0f7a4 48 = .ok (.iload_n 0, 1) := by decide +kernel
theorem dJ6_bitCount_0f7a4_49 : decode cJ6_bitCount_0f7a4 49 = .ok (.bipush 63, 2) := by decide +kernel
theorem dJ6_bitCount_0f7a4_51 : decode cJ6_bitCount_0f7a4 51 = .ok (.iand, 1) := by decide +kernel
theorem dJ6_bitCount_0f7a4_52 : decode cJ6_bitCount_0f7a4 52 = .ok (.ireturn, 1) := by decide +kernel
theorem dJ9_max_7cf53_0 : decode cJ9_max_7cf53 0 = .ok (.iload_n 0, 1) := by decide +kernel
theorem dJ9_max_7cf53_1 : decode cJ9_max_7cf53 1 = .ok (.iload_n 1, 1) := by decide +kernel
theorem dJ9_max_7cf53_2 : decode cJ9_max_7cf53 2 = .ok (.if_icmp .lt 7, 3) := by decide +kernel
theorem dJ9_max_7cf53_5 : decode cJ9_max_7cf53 5 = .ok (.iload_n 0, 1) := by decide +kernel
theorem dJ9_max_7cf53_6 : decode cJ9_max_7cf53 6 = .ok (.goto 4, 3) := by decide +kernel
theorem dJ9_max_7cf53_9 : decode cJ9_max_7cf53 9 = .ok (.iload_n 1, 1) := by decide +kernel
theorem dJ9_max_7cf53_10 : decode cJ9_max_7cf53 10 = .ok (.ireturn, 1) := by decide +kernel
theorem dJ9_min_7cf53_0 : decode cJ9_min_7cf53 0 = .ok (.iload_n 0, 1) := by decide +kernel
theorem dJ9_min_7cf53_1 : decode cJ9_min_7cf53 1 = .ok (.iload_n 1, 1) := by decide +kernel
theorem dJ9_min_7cf53_2 : decode cJ9_min_7cf53 2 = .ok (.if_icmp .gt 7, 3) := by decide +kernel
theorem dJ9_min_7cf53_5 : decode cJ9_min_7cf53 5 = .ok (.iload_n 0, 1) := by decide +kernel
theorem dJ9_min_7cf53_6 : decode cJ9_min_7cf53 6 = .ok (.goto 4, 3) := by decide +kernel
theorem dJ9_min_7cf53_9 : decode cJ9_min_7cf53 9 = .ok (.iload_n 1, 1) := by decide +kernel
theorem dJ9_min_7cf53_10 : decode cJ9_min_7cf53 10 = .ok (.ireturn, 1) := by decide +kernel
theorem dJ7_fill_d0a16_0 : decode cJ7_fill_d0a16 0 = .ok (.iconst 0, 1) := by decide +kernel
theorem dJ7_fill_d0a16_1 : decode cJ7_fill_d0a16 1 = .ok (.istore_n 3, 1) := by decide +kernel
theorem dJ7_fill_d0a16_2 : decode cJ7_fill_d0a16 2 = .ok (.aload_n 0, 1) := by decide +kernel
theorem dJ7_fill_d0a16_3 : decode cJ7_fill_d0a16 3 = .ok (.arraylength, 1) := by decide +kernel
theorem dJ7_fill_d0a16_4 : decode cJ7_fill_d0a16 4 = .ok (.istore 4, 2) := by decide +kernel
theorem dJ7_fill_d0a16_6 : decode cJ7_fill_d0a16 6 = .ok (.iload_n 3, 1) := by decide +kernel
theorem dJ7_fill_d0a16_7 : decode cJ7_fill_d0a16 7 = .ok (.iload 4, 2) := by decide +kernel
theorem dJ7_fill_d0a16_9 : decode cJ7_fill_d0a16 9 = .ok (.if_icmp .ge 13, 3) := by decide +kernel
theorem dJ7_fill_d0a16_12 : decode cJ7_fill_d0a16 12 = .ok (.aload_n 0, 1) := by decide +kernel
theorem dJ7_fill_d0a16_13 : decode cJ7_fill_d0a16 13 = .ok (.iload_n 3, 1) := by decide +kernel
theorem dJ7_fill_d0a16_14 : decode cJ7_fill_d0a16 14 = .ok (.lload_n 1, 1) := by decide +kernel
theorem dJ7_fill_d0a16_15 : decode cJ7_fill_d0a16 15 = .ok (.lastore, 1) := by decide +kernel
theorem dJ7_fill_d0a16_16 : decode cJ7_fill_d0a16 16 = .ok (.iinc 3 1, 3) := by decide +kernel
theorem dJ7_fill_d0a16_19 : decode cJ7_fill_d0a16 19 = .ok (.goto (-13), 3) := by decide +kernel
theorem dJ7_fill_d0a16_22 : decode cJ7_fill_d0a16 22 = .ok (.return_, 1) := by decide +kernel
theorem dJ7_fill_53178_0 : decode cJ7_fill_53178 0 = .ok (.iconst 0, 1) := by decide +kernel
theorem dJ7_fill_53178_1 : decode cJ7_fill_53178 1 = .ok (.istore_n 2, 1) := by decide +kernel
theorem dJ7_fill_53178_2 : decode cJ7_fill_53178 2 = .ok (.aload_n 0, 1) := by decide +kernel
theorem dJ7_fill_53178_3 : decode cJ7_fill_53178 3 = .ok (.arraylength, 1) := by decide +kernel
theorem dJ7_fill_53178_4 : decode cJ7_fill_53178 4 = .ok (.istore_n 3, 1) := by decide +kernel
theorem dJ7_fill_53178_5 : decode cJ7_fill_53178 5 = .ok (.iload_n 2, 1) := by decide +kernel
theorem dJ7_fill_53178_6 : decode cJ7_fill_53178 6 = .ok (.iload_n 3, 1) := by decide +kernel
theorem dJ7_fill_53178_7 : decode cJ7_fill_53178 7 = .ok (.if_icmp .ge 13, 3) := by decide +kernel
theorem dJ7_fill_53178_10 : decode cJ7_fill_53178 10 = .ok (.aload_n 0, 1) := by decide +kernel
theorem dJ7_fill_53178_11 : decode cJ7_fill_53178 11 = .ok (.iload_n 2, 1) := by decide +kernel
theorem dJ7_fill_53178_12 : decode cJ7_fill_53178 12 = .ok (.iload_n 1, 1) := by decide +kernel
theorem dJ7_fill_53178_13 : decode cJ7_fill_53178 13 = .ok (.iastore, 1) := by decide +kernel
theorem dJ7_fill_53178_14 : decode cJ7_fill_53178 14 = .ok (.iinc 2 1, 3) := by decide +kernel
theorem dJ7_fill_53178_17 : decode cJ7_fill_53178 17 = .ok (.goto (-12), 3) := by decide +kernel
theorem dJ7_fill_53178_20 : decode cJ7_fill_53178 20 = .ok (.return_, 1) := by decide +kernel
