theorem dX5_lose_87 : decode cX5_lose 87 = .ok (.iload_n 2, 1) := by decide +kernel
theorem dX5_lose_88 : decode cX5_lose 88 = .ok (.ifCond .ne 7, 3) := by decide +kernel
theorem dX5_lose_91 : decode cX5_lose 91 = .ok (.iconst 1, 1) := by decide +kernel
theorem dX5_lose_92 : decode cX5_lose 92 = .ok (.goto 4, 3) := by decide +kernel
theorem dX5_lose_95 : decode cX5_lose 95 = .ok (.iconst 0, 1) := by decide +kernel
theorem dX5_lose_96 : decode cX5_lose 96 = .ok (.bastore, 1) := by decide +kernel
theorem dX5_lose_97 : decode cX5_lose 97 = .ok (.iload 4, 2) := by decide +kernel
theorem dX5_lose_99 : decode cX5_lose 99 = .ok (.ifCond .eq 7, 3) := by decide +kernel
theorem dX5_lose_102 : decode cX5_lose 102 = .ok (.iconst 0, 1) := by decide +kernel
theorem dX5_lose_103 : decode cX5_lose 103 = .ok (.goto 4, 3) := by decide +kernel
theorem dX5_lose_106 : decode cX5_lose 106 = .ok (.iconst 1, 1) := by decide +kernel
theorem dX5_lose_107 : decode cX5_lose 107 = .ok (.ireturn, 1) := by decide +kernel
theorem dX5_mark_0 : decode cX5_mark 0 = .ok (.aload_n 0, 1) := by decide +kernel
theorem dX5_mark_1 : decode cX5_mark 1 = .ok (.iconst 0, 1) := by decide +kernel
theorem dX5_mark_2 : decode cX5_mark 2 = .ok (.putfield 72, 3) := by decide +kernel
theorem dX5_mark_5 : decode cX5_mark 5 = .ok (.aload_n 0, 1) := by decide +kernel
theorem dX5_mark_6 : decode cX5_mark 6 = .ok (.getfield 130, 3) := by decide +kernel
theorem dX5_mark_9 : decode cX5_mark 9 = .ok (.bipush 6, 2) := by decide +kernel
theorem dX5_mark_11 : decode cX5_mark 11 = .ok (.if_icmp .ne 6, 3) := by decide +kernel
theorem dX5_mark_14 : decode cX5_mark 14 = .ok (.bipush (-14), 2) := by decide +kernel
theorem dX5_mark_16 : decode cX5_mark 16 = .ok (.ireturn, 1) := by decide +kernel
theorem dX5_mark_17 : decode cX5_mark 17 = .ok (.iconst 0, 1) := by decide +kernel
theorem dX5_mark_18 : decode cX5_mark 18 = .ok (.istore_n 1, 1) := by decide +kernel
theorem dX5_mark_19 : decode cX5_mark 19 = .ok (.iload_n 1, 1) := by decide +kernel
theorem dX5_mark_20 : decode cX5_mark 20 = .ok (.bipush 48, 2) := by decide +kernel
theorem dX5_mark_22 : decode cX5_mark 22 = .ok (.if_icmp .ge 29, 3) := by decide +kernel
theorem dX5_mark_25 : decode cX5_mark 25 = .ok (.aload_n 0, 1) := by decide +kernel
theorem dX5_mark_26 : decode cX5_mark 26 = .ok (.getfield 45, 3) := by decide +kernel
theorem dX5_mark_29 : decode cX5_mark 29 = .ok (.bipush 48, 2) := by decide +kernel
theorem dX5_mark_31 : decode cX5_mark 31 = .ok (.aload_n 0, 1) := by decide +kernel
theorem dX5_mark_32 : decode cX5_mark 32 = .ok (.getfield 130, 3) := by decide +kernel
theorem dX5_mark_35 : decode cX5_mark 35 = .ok (.imul, 1) := by decide +kernel
theorem dX5_mark_36 : decode cX5_mark 36 = .ok (.iload_n 1, 1) := by decide +kernel
theorem dX5_mark_37 : decode cX5_mark 37 = .ok (.iadd, 1) := by decide +kernel
theorem dX5_mark_38 : decode cX5_mark 38 = .ok (.aload_n 0, 1) := by decide +kernel
theorem dX5_mark_39 : decode cX5_mark 39 = .ok (.getfield 36, 3) := by decide +kernel
theorem dX5_mark_42 : decode cX5_mark 42 = .ok (.iload_n 1, 1) := by decide +kernel
theorem dX5_mark_43 : decode cX5_mark 43 = .ok (.iaload, 1) := by decide +kernel
theorem dX5_mark_44 : decode cX5_mark 44 = .ok (.iastore, 1) := by decide +kernel
theorem dX5_mark_45 : decode cX5_mark 45 = .ok (.iinc 1 1, 3) := by decide +kernel
theorem dX5_mark_48 : decode cX5_mark 48 = .ok (.goto (-29), 3) := by decide +kernel
theorem dX5_mark_51 : decode cX5_mark 51 = .ok (.iconst 0, 1) := by decide +kernel
theorem dX5_mark_52 : decode cX5_mark 52 = .ok (.istore_n 1, 1) := by decide +kernel
theorem dX5_mark_53 : decode cX5_mark 53 = .ok (.iload_n 1, 1) := by decide +kernel
theorem dX5_mark_54 : decode cX5_mark 54 = .ok (.sipush 256, 3) := by decide +kernel
theorem dX5_mark_57 : decode cX5_mark 57 = .ok (.if_icmp .ge 30, 3) := by decide +kernel
theorem dX5_mark_60 : decode cX5_mark 60 = .ok (.aload_n 0, 1) := by decide +kernel
theorem dX5_mark_61 : decode cX5_mark 61 = .ok (.getfield 48, 3) := by decide +kernel
theorem dX5_mark_64 : decode cX5_mark 64 = .ok (.sipush 256, 3) := by decide +kernel
theorem dX5_mark_67 : decode cX5_mark 67 = .ok (.aload_n 0, 1) := by decide +kernel
theorem dX5_mark_68 : decode cX5_mark 68 = .ok (.getfield 130, 3) := by decide +kernel
theorem dX5_mark_71 : decode cX5_mark 71 = .ok (.imul, 1) := by decide +kernel
theorem dX5_mark_72 : decode cX5_mark 72 = .ok (.iload_n 1, 1) := by decide +kernel
theorem dX5_mark_73 : decode cX5_mark 73 = .ok (.iadd, 1) := by decide +kernel
theorem dX5_mark_74 : decode cX5_mark 74 = .ok (.aload_n 0, 1) := by decide +kernel
theorem dX5_mark_75 : decode cX5_mark 75 = .ok (.getfield 39, 3) := by decide +kernel
theorem dX5_mark_78 : decode cX5_mark 78 = .ok (.iload_n 1, 1) := by decide +kernel
theorem dX5_mark_79 : decode cX5_mark 79 = .ok (.baload, 1) := by decide +kernel
theorem dX5_mark_80 : decode cX5_mark 80 = .ok (.bastore, 1) := by decide +kernel
theorem dX5_mark_81 : decode cX5_mark 81 = .ok (.iinc 1 1, 3) := by decide +kernel
theorem dX5_mark_84 : decode cX5_mark 84 = .ok (.goto (-31), 3) := by decide +kernel
theorem dX5_mark_87 : decode cX5_mark 87 = .ok (.iconst 0, 1) := by decide +kernel
theorem dX5_mark_88 : decode cX5_mark 88 = .ok (.istore_n 1, 1) := by decide +kernel
theorem dX5_mark_89 : decode cX5_mark 89 = .ok (.iload_n 1, 1) := by decide +kernel
theorem dX5_mark_90 : decode cX5_mark 90 = .ok (.iconst 2, 1) := by decide +kernel
theorem dX5_mark_91 : decode cX5_mark 91 = .ok (.aload_n 0, 1) := by decide +kernel
theorem dX5_mark_92 : decode cX5_mark 92 = .ok (.getfield 128, 3) := by decide +kernel
theorem dX5_mark_95 : decode cX5_mark 95 = .ok (.imul, 1) := by decide +kernel
theorem dX5_mark_96 : decode cX5_mark 96 = .ok (.if_icmp .ge 30, 3) := by decide +kernel
theorem dX5_mark_99 : decode cX5_mark 99 = .ok (.aload_n 0, 1) := by decide +kernel
theorem dX5_mark_100 : decode cX5_mark 100 = .ok (.getfield 51, 3) := by decide +kernel
theorem dX5_mark_103 : decode cX5_mark 103 = .ok (.sipush 200, 3) := by decide +kernel
theorem dX5_mark_106 : decode cX5_mark 106 = .ok (.aload_n 0, 1) := by decide +kernel
theorem dX5_mark_107 : decode cX5_mark 107 = .ok (.getfield 130, 3) := by decide +kernel
theorem dX5_mark_110 : decode cX5_mark 110 = .ok (.imul, 1) := by decide +kernel
theorem dX5_mark_111 : decode cX5_mark 111 = .ok (.iload_n 1, 1) := by decide +kernel
theorem dX5_mark_112 : decode cX5_mark 112 = .ok (.iadd, 1) := by decide +kernel
theorem dX5_mark_113 : decode cX5_mark 113 = .ok (.aload_n 0, 1) := by decide +kernel
theorem dX5_mark_114 : decode cX5_mark 114 = .ok (.getfield 42, 3) := by decide +kernel
theorem dX5_mark_117 : decode cX5_mark 117 = .ok (.iload_n 1, 1) := by decide +kernel
theorem dX5_mark_118 : decode cX5_mark 118 = .ok (.iaload, 1) := by decide +kernel
theorem dX5_mark_119 : decode cX5_mark 119 = .ok (.iastore, 1) := by decide +kernel
theorem dX5_mark_120 : decode cX5_mark 120 = .ok (.iinc 1 1, 3) := by decide +kernel
theorem dX5_mark_123 : decode cX5_mark 123 = .ok (.goto (-34), 3) := by decide +kernel
theorem dX5_mark_126 : decode cX5_mark 126 = .ok (.aload_n 0, 1) := by decide +kernel
theorem dX5_mark_127 : decode cX5_mark 127 = .ok (.getfield 54, 3) := by decide +kernel
theorem dX5_mark_130 : decode cX5_mark 130 = .ok (.aload_n 0, 1) := by decide +kernel
theorem dX5_mark_131 : decode cX5_mark 131 = .ok (.getfield 130, 3) := by decide +kernel
theorem dX5_mark_134 : decode cX5_mark 134 = .ok (.aload_n 0, 1) := by decide +kernel
theorem dX5_mark_135 : decode cX5_mark 135 = .ok (.getfield 128, 3) := by decide +kernel
theorem dX5_mark_138 : decode cX5_mark 138 = .ok (.iastore, 1) := by decide +kernel
theorem dX5_mark_139 : decode cX5_mark 139 = .ok (.aload_n 0, 1) := by decide +kernel
theorem dX5_mark_140 : decode cX5_mark 140 = .ok (.getfield 57, 3) := by decide +kernel
theorem dX5_mark_143 : decode cX5_mark 143 = .ok (.aload_n 0, 1) := by decide +kernel
theorem dX5_mark_144 : decode cX5_mark 144 = .ok (.getfield 130, 3) := by decide +kernel
theorem dX5_mark_147 : decode cX5_mark 147 = .ok (.aload_n 0, 1) := by decide +kernel
theorem dX5_mark_148 : decode cX5_mark 148 = .ok (.getfield 75, 3) := by decide +kernel
theorem dX5_mark_151 : decode cX5_mark 151 = .ok (.iastore, 1) := by decide +kernel
theorem dX5_mark_152 : decode cX5_mark 152 = .ok (.aload_n 0, 1) := by decide +kernel
theorem dX5_mark_153 : decode cX5_mark 153 = .ok (.dup, 1) := by decide +kernel
theorem dX5_mark_154 : decode cX5_mark 154 = .ok (.getfield 130, 3) := by decide +kernel
theorem dX5_mark_157 : decode cX5_mark 157 = .ok (.iconst 1, 1) := by decide +kernel
theorem dX5_mark_158 : decode cX5_mark 158 = .ok (.iadd, 1) := by decide +kernel
theorem dX5_mark_159 : decode cX5_mark 159 = .ok (.putfield 130, 3) := by decide +kernel
theorem dX5_mark_162 : decode cX5_mark 162 = .ok (.aload_n 0, 1) := by decide +kernel
theorem dX5_mark_163 : decode cX5_mark 163 = .ok (.getfield 130, 3) := by decide +kernel
theorem dX5_mark_166 : decode cX5_mark 166 = .ok (.iconst 1, 1) := by decide +kernel
theorem dX5_mark_167 : decode cX5_mark 167 = .ok (.isub, 1) := by decide +kernel
theorem dX5_mark_168 : decode cX5_mark 168 = .ok (.ireturn, 1) := by decide +kernel
theorem dX5_restore_0 : decode cX5_restore 0 = .ok (.aload_n 0, 1) := by decide +kernel
theorem dX5_restore_1 : decode cX5_restore 1 = .ok (.iconst 0, 1) := by decide +kernel
theorem dX5_restore_2 : decode cX5_restore 2 = .ok (.putfield 72, 3) := by decide +kernel
theorem dX5_restore_5 : decode cX5_restore 5 = .ok (.iload_n 1, 1) := by decide +kernel
theorem dX5_restore_6 : decode cX5_restore 6 = .ok (.iconst 0, 1) := by decide +kernel
theorem dX5_restore_7 : decode cX5_restore 7 = .ok (.aload_n 0, 1) := by decide +kernel
theorem dX5_restore_8 : decode cX5_restore 8 = .ok (.getfield 130, 3) := by decide +kernel
theorem dX5_restore_11 : decode cX5_restore 11 = .ok (.iconst 1, 1) := by decide +kernel
theorem dX5_restore_12 : decode cX5_restore 12 = .ok (.isub, 1) := by decide +kernel
theorem dX5_restore_13 : decode cX5_restore 13 = .ok (.invokestatic 78, 3) := by decide +kernel
theorem dX5_restore_16 : decode cX5_restore 16 = .ok (.ifCond .ne 6, 3) := by decide +kernel
theorem dX5_restore_19 : decode cX5_restore 19 = .ok (.bipush (-11), 2) := by decide +kernel
theorem dX5_restore_21 : decode cX5_restore 21 = .ok (.ireturn, 1) := by decide +kernel
theorem dX5_restore_22 : decode cX5_restore 22 = .ok (.iconst 0, 1) := by decide +kernel
theorem dX5_restore_23 : decode cX5_restore 23 = .ok (.istore_n 2, 1) := by decide +kernel
theorem dX5_restore_24 : decode cX5_restore 24 = .ok (.iconst 0, 1) := by decide +kernel
theorem dX5_restore_25 : decode cX5_restore 25 = .ok (.istore_n 3, 1) := by decide +kernel
theorem dX5_restore_26 : decode cX5_restore 26 = .ok (.iload_n 3, 1) := by decide +kernel
theorem dX5_restore_27 : decode cX5_restore 27 = .ok (.aload_n 0, 1) := by decide +kernel
theorem dX5_restore_28 : decode cX5_restore 28 = .ok (.getfield 75, 3) := by decide +kernel
theorem dX5_restore_31 : decode cX5_restore 31 = .ok (.if_icmp .ge 125, 3) := by decide +kernel
theorem dX5_restore_34 : decode cX5_restore 34 = .ok (.aload_n 0, 1) := by decide +kernel
theorem dX5_restore_35 : decode cX5_restore 35 = .ok (.getfield 36, 3) := by decide +kernel
theorem dX5_restore_38 : decode cX5_restore 38 = .ok (.iload_n 3, 1) := by decide +kernel
theorem dX5_restore_39 : decode cX5_restore 39 = .ok (.iaload, 1) := by decide +kernel
theorem dX5_restore_40 : decode cX5_restore 40 = .ok (.istore 4, 2) := by decide +kernel
theorem dX5_restore_42 : decode cX5_restore 42 = .ok (.aload_n 0, 1) := by decide +kernel
theorem dX5_restore_43 : decode cX5_restore 43 = .ok (.iload_n 3, 1) := by decide +kernel
theorem dX5_restore_44 : decode cX5_restore 44 = .ok (.invokevirtual 86, 3) := by decide +kernel
theorem dX5_restore_47 : decode cX5_restore 47 = .ok (.iconst 0, 1) := by decide +kernel
theorem dX5_restore_48 : decode cX5_restore 48 = .ok (.istore 5, 2) := by decide +kernel
theorem dX5_restore_50 : decode cX5_restore 50 = .ok (.iload 5, 2) := by decide +kernel
theorem dX5_restore_52 : decode cX5_restore 52 = .ok (.iconst 4, 1) := by decide +kernel
theorem dX5_restore_53 : decode cX5_restore 53 = .ok (.if_icmp .ge 48, 3) := by decide +kernel
theorem dX5_restore_56 : decode cX5_restore 56 = .ok (.iload_n 3, 1) := by decide +kernel
theorem dX5_restore_57 : decode cX5_restore 57 = .ok (.aload_n 0, 1) := by decide +kernel
theorem dX5_restore_58 : decode cX5_restore 58 = .ok (.getfield 57, 3) := by decide +kernel
theorem dX5_restore_61 : decode cX5_restore 61 = .ok (.iload_n 1, 1) := by decide +kernel
theorem dX5_restore_62 : decode cX5_restore 62 = .ok (.iaload, 1) := by decide +kernel
theorem dX5_restore_63 : decode cX5_restore 63 = .ok (.if_icmp .ge 38, 3) := by decide +kernel
theorem dX5_restore_66 : decode cX5_restore 66 = .ok (.aload_n 0, 1) := by decide +kernel
theorem dX5_restore_67 : decode cX5_restore 67 = .ok (.getfield 36, 3) := by decide +kernel
theorem dX5_restore_70 : decode cX5_restore 70 = .ok (.bipush 12, 2) := by decide +kernel
theorem dX5_restore_72 : decode cX5_restore 72 = .ok (.iload 5, 2) := by decide +kernel
theorem dX5_restore_74 : decode cX5_restore 74 = .ok (.imul, 1) := by decide +kernel
theorem dX5_restore_75 : decode cX5_restore 75 = .ok (.iload_n 3, 1) := by decide +kernel
theorem dX5_restore_76 : decode cX5_restore 76 = .ok (.iadd, 1) := by decide +kernel
theorem dX5_restore_77 : decode cX5_restore 77 = .ok (.aload_n 0, 1) := by decide +kernel
theorem dX5_restore_78 : decode cX5_restore 78 = .ok (.getfield 45, 3) := by decide +kernel
theorem dX5_restore_81 : decode cX5_restore 81 = .ok (.bipush 48, 2) := by decide +kernel
theorem dX5_restore_83 : decode cX5_restore 83 = .ok (.iload_n 1, 1) := by decide +kernel
theorem dX5_restore_84 : decode cX5_restore 84 = .ok (.imul, 1) := by decide +kernel
theorem dX5_restore_85 : decode cX5_restore 85 = .ok (.bipush 12, 2) := by decide +kernel
theorem dX5_restore_87 : decode cX5_restore 87 = .ok (.iload 5, 2) := by decide +kernel
theorem dX5_restore_89 : decode cX5_restore 89 = .ok (.imul, 1) := by decide +kernel
theorem dX5_restore_90 : decode cX5_restore 90 = .ok (.iadd, 1) := by decide +kernel
theorem dX5_restore_91 : decode cX5_restore 91 = .ok (.iload_n 3, 1) := by decide +kernel
theorem dX5_restore_92 : decode cX5_restore 92 = .ok (.iadd, 1) := by decide +kernel
theorem dX5_restore_93 : decode cX5_restore 93 = .ok (.iaload, 1) := by decide +kernel
theorem dX5_restore_94 : decode cX5_restore 94 = .ok (.iastore, 1) := by decide +kernel
theorem dX5_restore_95 : decode cX5_restore 95 = .ok (.iinc 5 1, 3) := by decide +kernel
theorem dX5_restore_98 : decode cX5_restore 98 = .ok (.goto (-48), 3) := by decide +kernel
theorem dX5_restore_101 : decode cX5_restore 101 = .ok (.aload_n 0, 1) := by decide +kernel
theorem dX5_restore_102 : decode cX5_restore 102 = .ok (.getfield 36, 3) := by decide +kernel
theorem dX5_restore_105 : decode cX5_restore 105 = .ok (.bipush 36, 2) := by decide +kernel
theorem dX5_restore_107 : decode cX5_restore 107 = .ok (.iload_n 3, 1) := by decide +kernel
theorem dX5_restore_108 : decode cX5_restore 108 = .ok (.iadd, 1) := by decide +kernel
theorem dX5_restore_109 : decode cX5_restore 109 = .ok (.aload_n 0, 1) := by decide +kernel
theorem dX5_restore_110 : decode cX5_restore 110 = .ok (.iload_n 3, 1) := by decide +kernel
theorem dX5_restore_111 : decode cX5_restore 111 = .ok (.invokevirtual 105, 3) := by decide +kernel
theorem dX5_restore_114 : decode cX5_restore 114 = .ok (.aload_n 0, 1) := by decide +kernel
theorem dX5_restore_115 : decode cX5_restore 115 = .ok (.getfield 7, 3) := by decide +kernel
theorem dX5_restore_118 : decode cX5_restore 118 = .ok (.if_icmp .lt 7, 3) := by decide +kernel
theorem dX5_restore_121 : decode cX5_restore 121 = .ok (.iconst (-1), 1) := by decide +kernel
theorem dX5_restore_122 : decode cX5_restore 122 = .ok (.goto 8, 3) := by decide +kernel
theorem dX5_restore_125 : decode cX5_restore 125 = .ok (.aload_n 0, 1) := by decide +kernel
theorem dX5_restore_126 : decode cX5_restore 126 = .ok (.iload_n 3, 1) := by decide +kernel
theorem dX5_restore_127 : decode cX5_restore 127 = .ok (.invokevirtual 105, 3) := by decide +kernel
theorem dX5_restore_130 : decode cX5_restore 130 = .ok (.iastore, 1) := by decide +kernel
theorem dX5_restore_131 : decode cX5_restore 131 = .ok (.iload_n 2, 1) := by decide +kernel
theorem dX5_restore_132 : decode cX5_restore 132 = .ok (.aload_n 0, 1) := by decide +kernel
theorem dX5_restore_133 : decode cX5_restore 133 = .ok (.getfield 36, 3) := by decide +kernel
theorem dX5_restore_136 : decode cX5_restore 136 = .ok (.iload_n 3, 1) := by decide +kernel
theorem dX5_restore_137 : decode cX5_restore 137 = .ok (.iaload, 1) := by decide +kernel
theorem dX5_restore_138 : decode cX5_restore 138 = .ok (.iload 4, 2) := by decide +kernel
theorem dX5_restore_140 : decode cX5_restore 140 = .ok (.if_icmp .eq 7, 3) := by decide +kernel
theorem dX5_restore_143 : decode cX5_restore 143 = .ok (.iconst 1, 1) := by decide +kernel
theorem dX5_restore_144 : decode cX5_restore 144 = .ok (.goto 4, 3) := by decide +kernel
theorem dX5_restore_147 : decode cX5_restore 147 = .ok (.iconst 0, 1) := by decide +kernel
theorem dX5_restore_148 : decode cX5_restore 148 = .ok (.iadd, 1) := by decide +kernel
theorem dX5_restore_149 : decode cX5_restore 149 = .ok (.istore_n 2, 1) := by decide +kernel
theorem dX5_restore_150 : decode cX5_restore 150 = .ok (.iinc 3 1, 3) := by decide +kernel
theorem dX5_restore_153 : decode cX5_restore 153 = .ok (.goto (-127), 3) := by decide +kernel
theorem dX5_restore_156 : decode cX5_restore 156 = .ok (.iconst 0, 1) := by decide +kernel
theorem dX5_restore_157 : decode cX5_restore 157 = .ok (.istore_n 3, 1) := by decide +kernel
theorem dX5_restore_158 : decode cX5_restore 158 = .ok (.iload_n 3, 1) := by decide +kernel
theorem dX5_restore_159 : decode cX5_restore 159 = .ok (.sipush 256, 3) := by decide +kernel
theorem dX5_restore_162 : decode cX5_restore 162 = .ok (.if_icmp .ge 27, 3) := by decide +kernel
theorem dX5_restore_165 : decode cX5_restore 165 = .ok (.aload_n 0, 1) := by decide +kernel
theorem dX5_restore_166 : decode cX5_restore 166 = .ok (.getfield 39, 3) := by decide +kernel
theorem dX5_restore_169 : decode cX5_restore 169 = .ok (.iload_n 3, 1) := by decide +kernel
theorem dX5_restore_170 : decode cX5_restore 170 = .ok (.aload_n 0, 1) := by decide +kernel
theorem dX5_restore_171 : decode cX5_restore 171 = .ok (.getfield 48, 3) := by decide +kernel
theorem dX5_restore_174 : decode cX5_restore 174 = .ok (.sipush 256, 3) := by decide +kernel
theorem dX5_restore_177 : decode cX5_restore 177 = .ok (.iload_n 1, 1) := by decide +kernel
theorem dX5_restore_178 : decode cX5_restore 178 = .ok (.imul, 1) := by decide +kernel
theorem dX5_restore_179 : decode cX5_restore 179 = .ok (.iload_n 3, 1) := by decide +kernel
theorem dX5_restore_180 : decode cX5_restore 180 = .ok (.iadd, 1) := by decide +kernel
theorem dX5_restore_181 : decode cX5_restore 181 = .ok (.baload, 1) := by decide +kernel
theorem dX5_restore_182 : decode cX5_restore 182 = .ok (.bastore, 1) := by decide +kernel
theorem dX5_restore_183 : decode cX5_restore 183 = .ok (.iinc 3 1, 3) := by decide +kernel
theorem dX5_restore_186 : decode cX5_restore 186 = .ok (.goto (-28), 3) := by decide +kernel
theorem dX5_restore_189 : decode cX5_restore 189 = .ok (.aload_n 0, 1) := by decide +kernel
theorem dX5_restore_190 : decode cX5_restore 190 = .ok (.aload_n 0, 1) := by decide +kernel
theorem dX5_restore_191 : decode cX5_restore 191 = .ok (.getfield 54, 3) := by decide +kernel
theorem dX5_restore_194 : decode cX5_restore 194 = .ok (.iload_n 1, 1) := by decide +kernel
theorem dX5_restore_195 : decode cX5_restore 195 = .ok (.iaload, 1) := by decide +kernel
theorem dX5_restore_196 : decode cX5_restore 196 = .ok (.putfield 128, 3) := by decide +kernel
theorem dX5_restore_199 : decode cX5_restore 199 = .ok (.iconst 0, 1) := by decide +kernel
theorem dX5_restore_200 : decode cX5_restore 200 = .ok (.istore_n 3, 1) := by decide +kernel
theorem dX5_restore_201 : decode cX5_restore 201 = .ok (.iload_n 3, 1) := by decide +kernel
theorem dX5_restore_202 : decode cX5_restore 202 = .ok (.iconst 2, 1) := by decide +kernel
theorem dX5_restore_203 : decode cX5_restore 203 = .ok (.aload_n 0, 1) := by decide +kernel
theorem dX5_restore_204 : decode cX5_restore 204 = .ok (.getfield 128, 3) := by decide +kernel
theorem dX5_restore_207 : decode cX5_restore 207 = .ok (.imul, 1) := by decide +kernel
theorem dX5_restore_208 : decode cX5_restore 208 = .ok (.if_icmp .ge 27, 3) := by decide +kernel
theorem dX5_restore_211 : decode cX5_restore 211 = .ok (.aload_n 0, 1) := by decide +kernel
theorem dX5_restore_212 : decode cX5_restore 212 = .ok (.getfield 42, 3) := by decide +kernel
theorem dX5_restore_215 : decode cX5_restore 215 = .ok (.iload_n 3, 1) := by decide +kernel
theorem dX5_restore_216 : decode cX5_restore 216 = .ok (.aload_n 0, 1) := by decide +kernel
theorem dX5_restore_217 : decode cX5_restore 217 = .ok (.getfield 51, 3) := by decide +kernel
theorem dX5_restore_220 : decode cX5_restore 220 = .ok (.sipush 200, 3) := by decide +kernel
theorem dX5_restore_223 : decode cX5_restore 223 = .ok (.iload_n 1, 1) := by decide +kernel
theorem dX5_restore_224 : decode cX5_restore 224 = .ok (.imul, 1) := by decide +kernel
theorem dX5_restore_225 : decode cX5_restore 225 = .ok (.iload_n 3, 1) := by decide +kernel
theorem dX5_restore_226 : decode cX5_restore 226 = .ok (.iadd, 1) := by decide +kernel
theorem dX5_restore_227 : decode cX5_restore 227 = .ok (.iaload, 1) := by decide +kernel
theorem dX5_restore_228 : decode cX5_restore 228 = .ok (.iastore, 1) := by decide +kernel
theorem dX5_restore_229 : decode cX5_restore 229 = .ok (.iinc 3 1, 3) := by decide +kernel
theorem dX5_restore_232 : decode cX5_restore 232 = .ok (.goto (-31), 3) := by decide +kernel
theorem dX5_restore_235 : decode cX5_restore 235 = .ok (.iload_n 2, 1) := by decide +kernel
theorem dX5_restore_236 : decode cX5_restore 236 = .ok (.ireturn, 1) := by decide +kernel
theorem dX5_givesNone_0 : decode cX5_givesNone 0 = .ok (.iconst 0, 1) := by decide +kernel
theorem dX5_givesNone_1 : decode cX5_givesNone 1 = .ok (.istore_n 1, 1) := by decide +kernel
theorem dX5_givesNone_2 : decode cX5_givesNone 2 = .ok (.iload_n 1, 1) := by decide +kernel
theorem dX5_givesNone_3 : decode cX5_givesNone 3 = .ok (.sipush 256, 3) := by decide +kernel
theorem dX5_givesNone_6 : decode cX5_givesNone 6 = .ok (.if_icmp .ge 16, 3) := by decide +kernel
theorem dX5_givesNone_9 : decode cX5_givesNone 9 = .ok (.aload_n 0, 1) := by decide +kernel
theorem dX5_givesNone_10 : decode cX5_givesNone 10 = .ok (.getfield 39, 3) := by decide +kernel
theorem dX5_givesNone_13 : decode cX5_givesNone 13 = .ok (.iload_n 1, 1) := by decide +kernel
theorem dX5_givesNone_14 : decode cX5_givesNone 14 = .ok (.iconst 0, 1) := by decide +kernel
theorem dX5_givesNone_15 : decode cX5_givesNone 15 = .ok (.bastore, 1) := by decide +kernel
theorem dX5_givesNone_16 : decode cX5_givesNone 16 = .ok (.iinc 1 1, 3) := by decide +kernel
theorem dX5_givesNone_19 : decode cX5_givesNone 19 = .ok (.goto (-17), 3) := by decide +kernel
theorem dX5_givesNone_22 : decode cX5_givesNone 22 = .ok (.aload_n 0, 1) := by decide +kernel
theorem dX5_givesNone_23 : decode cX5_givesNone 23 = .ok (.iconst 0, 1) := by decide +kernel
theorem dX5_givesNone_24 : decode cX5_givesNone 24 = .ok (.putfield 128, 3) := by decide +kernel
theorem dX5_givesNone_27 : decode cX5_givesNone 27 = .ok (.return_, 1) := by decide +kernel
theorem dX5_start_0 : decode cX5_start 0 = .ok (.aload_n 0, 1) := by decide +kernel
theorem dX5_start_1 : decode cX5_start 1 = .ok (.iconst 0, 1) := by decide +kernel
theorem dX5_start_2 : decode cX5_start 2 = .ok (.putfield 72, 3) := by decide +kernel
theorem dX5_start_5 : decode cX5_start 5 = .ok (.iload_n 1, 1) := by decide +kernel
theorem dX5_start_6 : decode cX5_start 6 = .ok (.iconst 0, 1) := by decide +kernel
theorem dX5_start_7 : decode cX5_start 7 = .ok (.ldc 97, 2) := by decide +kernel
theorem dX5_start_9 : decode cX5_start 9 = .ok (.invokestatic 78, 3) := by decide +kernel
theorem dX5_start_12 : decode cX5_start 12 = .ok (.ifCond .ne 6, 3) := by decide +kernel
theorem dX5_start_15 : decode cX5_start 15 = .ok (.bipush (-12), 2) := by decide +kernel
theorem dX5_start_17 : decode cX5_start 17 = .ok (.ireturn, 1) := by decide +kernel
theorem dX5_start_18 : decode cX5_start 18 = .ok (.iconst 0, 1) := by decide +kernel
theorem dX5_start_19 : decode cX5_start 19 = .ok (.istore_n 2, 1) := by decide +kernel
theorem dX5_start_20 : decode cX5_start 20 = .ok (.iconst 0, 1) := by decide +kernel
theorem dX5_start_21 : decode cX5_start 21 = .ok (.istore_n 3, 1) := by decide +kernel
theorem dX5_start_22 : decode cX5_start 22 = .ok (.iload_n 3, 1) := by decide +kernel
theorem dX5_start_23 : decode cX5_start 23 = .ok (.aload_n 0, 1) := by decide +kernel
theorem dX5_start_24 : decode cX5_start 24 = .ok (.getfield 75, 3) := by decide +kernel
theorem dX5_start_27 : decode cX5_start 27 = .ok (.if_icmp .ge 89, 3) := by decide +kernel
theorem dX5_start_30 : decode cX5_start 30 = .ok (.iconst 0, 1) := by decide +kernel
theorem dX5_start_31 : decode cX5_start 31 = .ok (.istore 4, 2) := by decide +kernel
theorem dX5_start_33 : decode cX5_start 33 = .ok (.iload 4, 2) := by decide +kernel
theorem dX5_start_35 : decode cX5_start 35 = .ok (.aload_n 0, 1) := by decide +kernel
theorem dX5_start_36 : decode cX5_start 36 = .ok (.getfield 24, 3) := by decide +kernel
theorem dX5_start_39 : decode cX5_start 39 = .ok (.iload_n 3, 1) := by decide +kernel
theorem dX5_start_40 : decode cX5_start 40 = .ok (.iaload, 1) := by decide +kernel
theorem dX5_start_41 : decode cX5_start 41 = .ok (.if_icmp .ge 25, 3) := by decide +kernel
theorem dX5_start_44 : decode cX5_start 44 = .ok (.aload_n 0, 1) := by decide +kernel
theorem dX5_start_45 : decode cX5_start 45 = .ok (.getfield 17, 3) := by decide +kernel
theorem dX5_start_48 : decode cX5_start 48 = .ok (.bipush 40, 2) := by decide +kernel
theorem dX5_start_50 : decode cX5_start 50 = .ok (.iload_n 3, 1) := by decide +kernel
theorem dX5_start_51 : decode cX5_start 51 = .ok (.imul, 1) := by decide +kernel
theorem dX5_start_52 : decode cX5_start 52 = .ok (.iload 4, 2) := by decide +kernel
theorem dX5_start_54 : decode cX5_start 54 = .ok (.iadd, 1) := by decide +kernel
theorem dX5_start_55 : decode cX5_start 55 = .ok (.iaload, 1) := by decide +kernel
theorem dX5_start_56 : decode cX5_start 56 = .ok (.iload_n 1, 1) := by decide +kernel
theorem dX5_start_57 : decode cX5_start 57 = .ok (.if_icmp .ge 9, 3) := by decide +kernel
theorem dX5_start_60 : decode cX5_start 60 = .ok (.iinc 4 1, 3) := by decide +kernel
theorem dX5_start_63 : decode cX5_start 63 = .ok (.goto (-30), 3) := by decide +kernel
theorem dX5_start_66 : decode cX5_start 66 = .ok (.aload_n 0, 1) := by decide +kernel
theorem dX5_start_67 : decode cX5_start 67 = .ok (.getfield 36, 3) := by decide +kernel
theorem dX5_start_70 : decode cX5_start 70 = .ok (.iload_n 3, 1) := by decide +kernel
theorem dX5_start_71 : decode cX5_start 71 = .ok (.iload 4, 2) := by decide +kernel
theorem dX5_start_73 : decode cX5_start 73 = .ok (.iastore, 1) := by decide +kernel
theorem dX5_start_74 : decode cX5_start 74 = .ok (.aload_n 0, 1) := by decide +kernel
theorem dX5_start_75 : decode cX5_start 75 = .ok (.getfield 36, 3) := by decide +kernel
theorem dX5_start_78 : decode cX5_start 78 = .ok (.bipush 12, 2) := by decide +kernel
theorem dX5_start_80 : decode cX5_start 80 = .ok (.iload_n 3, 1) := by decide +kernel
theorem dX5_start_81 : decode cX5_start 81 = .ok (.iadd, 1) := by decide +kernel
theorem dX5_start_82 : decode cX5_start 82 = .ok (.iconst (-1), 1) := by decide +kernel
theorem dX5_start_83 : decode cX5_start 83 = .ok (.iastore, 1) := by decide +kernel
theorem dX5_start_84 : decode cX5_start 84 = .ok (.aload_n 0, 1) := by decide +kernel
theorem dX5_start_85 : decode cX5_start 85 = .ok (.getfield 36, 3) := by decide +kernel
theorem dX5_start_88 : decode cX5_start 88 = .ok (.bipush 24, 2) := by decide +kernel
theorem dX5_start_90 : decode cX5_start 90 = .ok (.iload_n 3, 1) := by decide +kernel
theorem dX5_start_91 : decode cX5_start 91 = .ok (.iadd, 1) := by decide +kernel
theorem dX5_start_92 : decode cX5_start 92 = .ok (.iconst 0, 1) := by decide +kernel
theorem dX5_start_93 : decode cX5_start 93 = .ok (.iastore, 1) := by decide +kernel
theorem dX5_start_94 : decode cX5_start 94 = .ok (.iload_n 2, 1) := by decide +kernel
theorem dX5_start_95 : decode cX5_start 95 = .ok (.aload_n 0, 1) := by decide +kernel
theorem dX5_start_96 : decode cX5_start 96 = .ok (.iload_n 3, 1) := by decide +kernel
theorem dX5_start_97 : decode cX5_start 97 = .ok (.invokevirtual 82, 3) := by decide +kernel
theorem dX5_start_100 : decode cX5_start 100 = .ok (.ifCond .eq 7, 3) := by decide +kernel
theorem dX5_start_103 : decode cX5_start 103 = .ok (.iconst 1, 1) := by decide +kernel
theorem dX5_start_104 : decode cX5_start 104 = .ok (.goto 4, 3) := by decide +kernel
theorem dX5_start_107 : decode cX5_start 107 = .ok (.iconst 0, 1) := by decide +kernel
theorem dX5_start_108 : decode cX5_start 108 = .ok (.iadd, 1) := by decide +kernel
theorem dX5_start_109 : decode cX5_start 109 = .ok (.istore_n 2, 1) := by decide +kernel
theorem dX5_start_110 : decode cX5_start 110 = .ok (.iinc 3 1, 3) := by decide +kernel
theorem dX5_start_113 : decode cX5_start 113 = .ok (.goto (-91), 3) := by decide +kernel
theorem dX5_start_116 : decode cX5_start 116 = .ok (.aload_n 0, 1) := by decide +kernel
theorem dX5_start_117 : decode cX5_start 117 = .ok (.invokevirtual 133, 3) := by decide +kernel
theorem dX5_start_120 : decode cX5_start 120 = .ok (.iload_n 2, 1) := by decide +kernel
theorem dX5_start_121 : decode cX5_start 121 = .ok (.ireturn, 1) := by decide +kernel
theorem dX5_scale_0 : decode cX5_scale 0 = .ok (.aload_n 0, 1) := by decide +kernel
theorem dX5_scale_1 : decode cX5_scale 1 = .ok (.iconst 0, 1) := by decide +kernel
theorem dX5_scale_2 : decode cX5_scale 2 = .ok (.putfield 72, 3) := by decide +kernel
theorem dX5_scale_5 : decode cX5_scale 5 = .ok (.iload_n 1, 1) := by decide +kernel
theorem dX5_scale_6 : decode cX5_scale 6 = .ok (.iconst 1, 1) := by decide +kernel
theorem dX5_scale_7 : decode cX5_scale 7 = .ok (.bipush 6, 2) := by decide +kernel
theorem dX5_scale_9 : decode cX5_scale 9 = .ok (.invokestatic 78, 3) := by decide +kernel
theorem dX5_scale_12 : decode cX5_scale 12 = .ok (.ifCond .ne 6, 3) := by decide +kernel
theorem dX5_scale_15 : decode cX5_scale 15 = .ok (.bipush (-12), 2) := by decide +kernel
theorem dX5_scale_17 : decode cX5_scale 17 = .ok (.ireturn, 1) := by decide +kernel
theorem dX5_scale_18 : decode cX5_scale 18 = .ok (.aload_n 0, 1) := by decide +kernel
theorem dX5_scale_19 : decode cX5_scale 19 = .ok (.iload_n 1, 1) := by decide +kernel
theorem dX5_scale_20 : decode cX5_scale 20 = .ok (.putfield 7, 3) := by decide +kernel
theorem dX5_scale_23 : decode cX5_scale 23 = .ok (.iconst 0, 1) := by decide +kernel
theorem dX5_scale_24 : decode cX5_scale 24 = .ok (.istore_n 2, 1) := by decide +kernel
theorem dX5_scale_25 : decode cX5_scale 25 = .ok (.iconst 0, 1) := by decide +kernel
theorem dX5_scale_26 : decode cX5_scale 26 = .ok (.istore_n 3, 1) := by decide +kernel
theorem dX5_scale_27 : decode cX5_scale 27 = .ok (.iload_n 3, 1) := by decide +kernel
theorem dX5_scale_28 : decode cX5_scale 28 = .ok (.aload_n 0, 1) := by decide +kernel
theorem dX5_scale_29 : decode cX5_scale 29 = .ok (.getfield 75, 3) := by decide +kernel
theorem dX5_scale_32 : decode cX5_scale 32 = .ok (.if_icmp .ge 49, 3) := by decide +kernel
theorem dX5_scale_35 : decode cX5_scale 35 = .ok (.aload_n 0, 1) := by decide +kernel
theorem dX5_scale_36 : decode cX5_scale 36 = .ok (.getfield 36, 3) := by decide +kernel
theorem dX5_scale_39 : decode cX5_scale 39 = .ok (.bipush 36, 2) := by decide +kernel
theorem dX5_scale_41 : decode cX5_scale 41 = .ok (.iload_n 3, 1) := by decide +kernel
theorem dX5_scale_42 : decode cX5_scale 42 = .ok (.iadd, 1) := by decide +kernel
theorem dX5_scale_43 : decode cX5_scale 43 = .ok (.aload_n 0, 1) := by decide +kernel
theorem dX5_scale_44 : decode cX5_scale 44 = .ok (.iload_n 3, 1) := by decide +kernel
theorem dX5_scale_45 : decode cX5_scale 45 = .ok (.invokevirtual 102, 3) := by decide +kernel
theorem dX5_scale_48 : decode cX5_scale 48 = .ok (.ifCond .eq 7, 3) := by decide +kernel
theorem dX5_scale_51 : decode cX5_scale 51 = .ok (.iconst (-1), 1) := by decide +kernel
theorem dX5_scale_52 : decode cX5_scale 52 = .ok (.goto 6, 3) := by decide +kernel
theorem dX5_scale_55 : decode cX5_scale 55 = .ok (.iload_n 2, 1) := by decide +kernel
theorem dX5_scale_56 : decode cX5_scale 56 = .ok (.iload_n 1, 1) := by decide +kernel
theorem dX5_scale_57 : decode cX5_scale 57 = .ok (.irem, 1) := by decide +kernel
theorem dX5_scale_58 : decode cX5_scale 58 = .ok (.iastore, 1) := by decide +kernel
theorem dX5_scale_59 : decode cX5_scale 59 = .ok (.iload_n 2, 1) := by decide +kernel
theorem dX5_scale_60 : decode cX5_scale 60 = .ok (.aload_n 0, 1) := by decide +kernel
theorem dX5_scale_61 : decode cX5_scale 61 = .ok (.iload_n 3, 1) := by decide +kernel
theorem dX5_scale_62 : decode cX5_scale 62 = .ok (.invokevirtual 102, 3) := by decide +kernel
theorem dX5_scale_65 : decode cX5_scale 65 = .ok (.ifCond .eq 7, 3) := by decide +kernel
theorem dX5_scale_68 : decode cX5_scale 68 = .ok (.iconst 0, 1) := by decide +kernel
theorem dX5_scale_69 : decode cX5_scale 69 = .ok (.goto 4, 3) := by decide +kernel
theorem dX5_scale_72 : decode cX5_scale 72 = .ok (.iconst 1, 1) := by decide +kernel
theorem dX5_scale_73 : decode cX5_scale 73 = .ok (.iadd, 1) := by decide +kernel
theorem dX5_scale_74 : decode cX5_scale 74 = .ok (.istore_n 2, 1) := by decide +kernel
theorem dX5_scale_75 : decode cX5_scale 75 = .ok (.iinc 3 1, 3) := by decide +kernel
theorem dX5_scale_78 : decode cX5_scale 78 = .ok (.goto (-51), 3) := by decide +kernel
theorem dX5_scale_81 : decode cX5_scale 81 = .ok (.iload_n 2, 1) := by decide +kernel
theorem dX5_scale_82 : decode cX5_scale 82 = .ok (.ireturn, 1) := by decide +kernel
theorem dX5_told_0 : decode cX5_told 0 = .ok (.aload_n 0, 1) := by decide +kernel
theorem dX5_told_1 : decode cX5_told 1 = .ok (.iconst 0, 1) := by decide +kernel
theorem dX5_told_2 : decode cX5_told 2 = .ok (.putfield 72, 3) := by decide +kernel
theorem dX5_told_5 : decode cX5_told 5 = .ok (.aload_n 0, 1) := by decide +kernel
theorem dX5_told_6 : decode cX5_told 6 = .ok (.iload_n 1, 1) := by decide +kernel
theorem dX5_told_7 : decode cX5_told 7 = .ok (.invokevirtual 94, 3) := by decide +kernel
theorem dX5_told_10 : decode cX5_told 10 = .ok (.ifCond .ne 6, 3) := by decide +kernel
theorem dX5_told_13 : decode cX5_told 13 = .ok (.bipush (-11), 2) := by decide +kernel
theorem dX5_told_15 : decode cX5_told 15 = .ok (.ireturn, 1) := by decide +kernel
theorem dX5_told_16 : decode cX5_told 16 = .ok (.iload_n 2, 1) := by decide +kernel
theorem dX5_told_17 : decode cX5_told 17 = .ok (.tableswitch 152 0 9 #[55, 62, 72, 82, 89, 95, 102, 117, 131, 145], 55) := by decide +kernel
theorem dX5_told_72 : decode cX5_told 72 = .ok (.aload_n 0, 1) := by decide +kernel
theorem dX5_told_73 : decode cX5_told 73 = .ok (.getfield 36, 3) := by decide +kernel
theorem dX5_told_76 : decode cX5_told 76 = .ok (.iload_n 1, 1) := by decide +kernel
theorem dX5_told_77 : decode cX5_told 77 = .ok (.iaload, 1) := by decide +kernel
theorem dX5_told_78 : decode cX5_told 78 = .ok (.ireturn, 1) := by decide +kernel
theorem dX5_told_79 : decode cX5_told 79 = .ok (.aload_n 0, 1) := by decide +kernel
theorem dX5_told_80 : decode cX5_told 80 = .ok (.getfield 36, 3) := by decide +kernel
theorem dX5_told_83 : decode cX5_told 83 = .ok (.bipush 12, 2) := by decide +kernel
theorem dX5_told_85 : decode cX5_told 85 = .ok (.iload_n 1, 1) := by decide +kernel
theorem dX5_told_86 : decode cX5_told 86 = .ok (.iadd, 1) := by decide +kernel
theorem dX5_told_87 : decode cX5_told 87 = .ok (.iaload, 1) := by decide +kernel
theorem dX5_told_88 : decode cX5_told 88 = .ok (.ireturn, 1) := by decide +kernel
theorem dX5_told_89 : decode cX5_told 89 = .ok (.aload_n 0, 1) := by decide +kernel
theorem dX5_told_90 : decode cX5_told 90 = .ok (.getfield 36, 3) := by decide +kernel
theorem dX5_told_93 : decode cX5_told 93 = .ok (.bipush 24, 2) := by decide +kernel
theorem dX5_told_95 : decode cX5_told 95 = .ok (.iload_n 1, 1) := by decide +kernel
theorem dX5_told_96 : decode cX5_told 96 = .ok (.iadd, 1) := by decide +kernel
theorem dX5_told_97 : decode cX5_told 97 = .ok (.iaload, 1) := by decide +kernel
theorem dX5_told_98 : decode cX5_told 98 = .ok (.ireturn, 1) := by decide +kernel
theorem dX5_told_99 : decode cX5_told 99 = .ok (.aload_n 0, 1) := by decide +kernel
theorem dX5_told_100 : decode cX5_told 100 = .ok (.getfield 30, 3) := by decide +kernel
theorem dX5_told_103 : decode cX5_told 103 = .ok (.iload_n 1, 1) := by decide +kernel
theorem dX5_told_104 : decode cX5_told 104 = .ok (.iaload, 1) := by decide +kernel
theorem dX5_told_105 : decode cX5_told 105 = .ok (.ireturn, 1) := by decide +kernel
theorem dX5_told_106 : decode cX5_told 106 = .ok (.aload_n 0, 1) := by decide +kernel
theorem dX5_told_107 : decode cX5_told 107 = .ok (.iload_n 1, 1) := by decide +kernel
theorem dX5_told_108 : decode cX5_told 108 = .ok (.invokevirtual 105, 3) := by decide +kernel
theorem dX5_told_111 : decode cX5_told 111 = .ok (.ireturn, 1) := by decide +kernel
theorem dX5_told_112 : decode cX5_told 112 = .ok (.aload_n 0, 1) := by decide +kernel
theorem dX5_told_113 : decode cX5_told 113 = .ok (.getfield 24, 3) := by decide +kernel
theorem dX5_told_116 : decode cX5_told 116 = .ok (.iload_n 1, 1) := by decide +kernel
theorem dX5_told_117 : decode cX5_told 117 = .ok (.iaload, 1) := by decide +kernel
theorem dX5_told_118 : decode cX5_told 118 = .ok (.ireturn, 1) := by decide +kernel
theorem dX5_told_119 : decode cX5_told 119 = .ok (.aload_n 0, 1) := by decide +kernel
theorem dX5_told_120 : decode cX5_told 120 = .ok (.getfield 27, 3) := by decide +kernel
theorem dX5_told_123 : decode cX5_told 123 = .ok (.iload_n 1, 1) := by decide +kernel
theorem dX5_told_124 : decode cX5_told 124 = .ok (.baload, 1) := by decide +kernel
theorem dX5_told_125 : decode cX5_told 125 = .ok (.ifCond .eq 7, 3) := by decide +kernel
theorem dX5_told_128 : decode cX5_told 128 = .ok (.iconst 1, 1) := by decide +kernel
theorem dX5_told_129 : decode cX5_told 129 = .ok (.goto 4, 3) := by decide +kernel
theorem dX5_told_132 : decode cX5_told 132 = .ok (.iconst 0, 1) := by decide +kernel
theorem dX5_told_133 : decode cX5_told 133 = .ok (.ireturn, 1) := by decide +kernel
theorem dX5_told_134 : decode cX5_told 134 = .ok (.aload_n 0, 1) := by decide +kernel
theorem dX5_told_135 : decode cX5_told 135 = .ok (.iload_n 1, 1) := by decide +kernel
theorem dX5_told_136 : decode cX5_told 136 = .ok (.invokevirtual 82, 3) := by decide +kernel
theorem dX5_told_139 : decode cX5_told 139 = .ok (.ifCond .eq 7, 3) := by decide +kernel
theorem dX5_told_142 : decode cX5_told 142 = .ok (.iconst 1, 1) := by decide +kernel
theorem dX5_told_143 : decode cX5_told 143 = .ok (.goto 4, 3) := by decide +kernel
theorem dX5_told_146 : decode cX5_told 146 = .ok (.iconst 0, 1) := by decide +kernel
theorem dX5_told_147 : decode cX5_told 147 = .ok (.ireturn, 1) := by decide +kernel
theorem dX5_told_148 : decode cX5_told 148 = .ok (.aload_n 0, 1) := by decide +kernel
theorem dX5_told_149 : decode cX5_told 149 = .ok (.iload_n 1, 1) := by decide +kernel
theorem dX5_told_150 : decode cX5_told 150 = .ok (.invokevirtual 102, 3) := by decide +kernel
theorem dX5_told_153 : decode cX5_told 153 = .ok (.ifCond .eq 7, 3) := by decide +kernel
theorem dX5_told_156 : decode cX5_told 156 = .ok (.iconst 1, 1) := by decide +kernel
theorem dX5_told_157 : decode cX5_told 157 = .ok (.goto 4, 3) := by decide +kernel
theorem dX5_told_160 : decode cX5_told 160 = .ok (.iconst 0, 1) := by decide +kernel
theorem dX5_told_161 : decode cX5_told 161 = .ok (.ireturn, 1) := by decide +kernel
theorem dX5_told_162 : decode cX5_told 162 = .ok (.aload_n 0, 1) := by decide +kernel
theorem dX5_told_163 : decode cX5_told 163 = .ok (.getfield 33, 3) := by decide +kernel
theorem dX5_told_166 : decode cX5_told 166 = .ok (.iload_n 1, 1) := by decide +kernel
theorem dX5_told_167 : decode cX5_told 167 = .ok (.iaload, 1) := by decide +kernel
theorem dX5_told_168 : decode cX5_told 168 = .ok (.ireturn, 1) := by decide +kernel
theorem dX5_told_169 : decode cX5_told 169 = .ok (.ldc 136, 2) := by decide +kernel
theorem dX5_told_171 : decode cX5_told 171 = .ok (.ireturn, 1) := by decide +kernel
theorem dX5_given_0 : decode cX5_given 0 = .ok (.aload_n 0, 1) := by decide +kernel
theorem dX5_given_1 : decode cX5_given 1 = .ok (.iconst 0, 1) := by decide +kernel
theorem dX5_given_2 : decode cX5_given 2 = .ok (.putfield 72, 3) := by decide +kernel
theorem dX5_given_5 : decode cX5_given 5 = .ok (.iload_n 1, 1) := by decide +kernel
theorem dX5_given_6 : decode cX5_given 6 = .ok (.iconst 0, 1) := by decide +kernel
theorem dX5_given_7 : decode cX5_given 7 = .ok (.sipush 255, 3) := by decide +kernel
theorem dX5_given_10 : decode cX5_given 10 = .ok (.invokestatic 78, 3) := by decide +kernel
theorem dX5_given_13 : decode cX5_given 13 = .ok (.ifCond .ne 8, 3) := by decide +kernel
theorem dX5_given_16 : decode cX5_given 16 = .ok (.bipush (-12), 2) := by decide +kernel
theorem dX5_given_18 : decode cX5_given 18 = .ok (.goto 17, 3) := by decide +kernel
theorem dX5_given_21 : decode cX5_given 21 = .ok (.aload_n 0, 1) := by decide +kernel
theorem dX5_given_22 : decode cX5_given 22 = .ok (.getfield 39, 3) := by decide +kernel
theorem dX5_given_25 : decode cX5_given 25 = .ok (.iload_n 1, 1) := by decide +kernel
theorem dX5_given_26 : decode cX5_given 26 = .ok (.baload, 1) := by decide +kernel
theorem dX5_given_27 : decode cX5_given 27 = .ok (.ifCond .eq 7, 3) := by decide +kernel
theorem dX5_given_30 : decode cX5_given 30 = .ok (.iconst 1, 1) := by decide +kernel
theorem dX5_given_31 : decode cX5_given 31 = .ok (.goto 4, 3) := by decide +kernel
theorem dX5_given_34 : decode cX5_given 34 = .ok (.iconst 0, 1) := by decide +kernel
theorem dX5_given_35 : decode cX5_given 35 = .ok (.ireturn, 1) := by decide +kernel
theorem dX5_number_0 : decode cX5_number 0 = .ok (.aload_n 0, 1) := by decide +kernel
theorem dX5_number_1 : decode cX5_number 1 = .ok (.aload_n 0, 1) := by decide +kernel
theorem dX5_number_2 : decode cX5_number 2 = .ok (.iload_n 1, 1) := by decide +kernel
theorem dX5_number_3 : decode cX5_number 3 = .ok (.invokevirtual 94, 3) := by decide +kernel
theorem dX5_number_6 : decode cX5_number 6 = .ok (.ifCond .eq 13, 3) := by decide +kernel
theorem dX5_number_9 : decode cX5_number 9 = .ok (.iload_n 2, 1) := by decide +kernel
theorem dX5_number_10 : decode cX5_number 10 = .ok (.iconst 0, 1) := by decide +kernel
theorem dX5_number_11 : decode cX5_number 11 = .ok (.bipush 39, 2) := by decide +kernel
theorem dX5_number_13 : decode cX5_number 13 = .ok (.invokestatic 78, 3) := by decide +kernel
theorem dX5_number_16 : decode cX5_number 16 = .ok (.ifCond .ne 7, 3) := by decide +kernel
theorem dX5_number_19 : decode cX5_number 19 = .ok (.iconst 1, 1) := by decide +kernel
theorem dX5_number_20 : decode cX5_number 20 = .ok (.goto 18, 3) := by decide +kernel
theorem dX5_number_23 : decode cX5_number 23 = .ok (.iload_n 2, 1) := by decide +kernel
theorem dX5_number_24 : decode cX5_number 24 = .ok (.aload_n 0, 1) := by decide +kernel
theorem dX5_number_25 : decode cX5_number 25 = .ok (.getfield 24, 3) := by decide +kernel
theorem dX5_number_28 : decode cX5_number 28 = .ok (.iload_n 1, 1) := by decide +kernel
theorem dX5_number_29 : decode cX5_number 29 = .ok (.iaload, 1) := by decide +kernel
theorem dX5_number_30 : decode cX5_number 30 = .ok (.if_icmp .lt 7, 3) := by decide +kernel
theorem dX5_number_33 : decode cX5_number 33 = .ok (.iconst 2, 1) := by decide +kernel
theorem dX5_number_34 : decode cX5_number 34 = .ok (.goto 4, 3) := by decide +kernel
theorem dX5_number_37 : decode cX5_number 37 = .ok (.iconst 0, 1) := by decide +kernel
theorem dX5_number_38 : decode cX5_number 38 = .ok (.putfield 72, 3) := by decide +kernel
theorem dX5_number_41 : decode cX5_number 41 = .ok (.aload_n 0, 1) := by decide +kernel
theorem dX5_number_42 : decode cX5_number 42 = .ok (.getfield 72, 3) := by decide +kernel
theorem dX5_number_45 : decode cX5_number 45 = .ok (.ifCond .le 7, 3) := by decide +kernel
theorem dX5_number_48 : decode cX5_number 48 = .ok (.iconst 0, 1) := by decide +kernel
theorem dX5_number_49 : decode cX5_number 49 = .ok (.goto 14, 3) := by decide +kernel
theorem dX5_number_52 : decode cX5_number 52 = .ok (.aload_n 0, 1) := by decide +kernel
theorem dX5_number_53 : decode cX5_number 53 = .ok (.getfield 13, 3) := by decide +kernel
theorem dX5_number_56 : decode cX5_number 56 = .ok (.bipush 40, 2) := by decide +kernel
theorem dX5_number_58 : decode cX5_number 58 = .ok (.iload_n 1, 1) := by decide +kernel
theorem dX5_number_59 : decode cX5_number 59 = .ok (.imul, 1) := by decide +kernel
theorem dX5_number_60 : decode cX5_number 60 = .ok (.iload_n 2, 1) := by decide +kernel
theorem dX5_number_61 : decode cX5_number 61 = .ok (.iadd, 1) := by decide +kernel
theorem dX5_number_62 : decode cX5_number 62 = .ok (.iaload, 1) := by decide +kernel
theorem dX5_number_63 : decode cX5_number 63 = .ok (.ireturn, 1) := by decide +kernel
theorem dX5_aside_0 : decode cX5_aside 0 = .ok (.aload_n 0, 1) := by decide +kernel
theorem dX5_aside_1 : decode cX5_aside 1 = .ok (.iconst 0, 1) := by decide +kernel
theorem dX5_aside_2 : decode cX5_aside 2 = .ok (.putfield 72, 3) := by decide +kernel
theorem dX5_aside_5 : decode cX5_aside 5 = .ok (.iload_n 1, 1) := by decide +kernel
theorem dX5_aside_6 : decode cX5_aside 6 = .ok (.iconst 0, 1) := by decide +kernel
theorem dX5_aside_7 : decode cX5_aside 7 = .ok (.aload_n 0, 1) := by decide +kernel
theorem dX5_aside_8 : decode cX5_aside 8 = .ok (.getfield 128, 3) := by decide +kernel
theorem dX5_aside_11 : decode cX5_aside 11 = .ok (.iconst 1, 1) := by decide +kernel
theorem dX5_aside_12 : decode cX5_aside 12 = .ok (.isub, 1) := by decide +kernel
theorem dX5_aside_13 : decode cX5_aside 13 = .ok (.invokestatic 78, 3) := by decide +kernel
theorem dX5_aside_16 : decode cX5_aside 16 = .ok (.ifCond .ne 8, 3) := by decide +kernel
theorem dX5_aside_19 : decode cX5_aside 19 = .ok (.bipush (-11), 2) := by decide +kernel
theorem dX5_aside_21 : decode cX5_aside 21 = .ok (.goto 27, 3) := by decide +kernel
theorem dX5_aside_24 : decode cX5_aside 24 = .ok (.iload_n 2, 1) := by decide +kernel
theorem dX5_aside_25 : decode cX5_aside 25 = .ok (.iconst 0, 1) := by decide +kernel
theorem dX5_aside_26 : decode cX5_aside 26 = .ok (.iconst 1, 1) := by decide +kernel
theorem dX5_aside_27 : decode cX5_aside 27 = .ok (.invokestatic 78, 3) := by decide +kernel
theorem dX5_aside_30 : decode cX5_aside 30 = .ok (.ifCond .ne 8, 3) := by decide +kernel
theorem dX5_aside_33 : decode cX5_aside 33 = .ok (.bipush (-12), 2) := by decide +kernel
theorem dX5_aside_35 : decode cX5_aside 35 = .ok (.goto 13, 3) := by decide +kernel
theorem dX5_aside_38 : decode cX5_aside 38 = .ok (.aload_n 0, 1) := by decide +kernel
theorem dX5_aside_39 : decode cX5_aside 39 = .ok (.getfield 42, 3) := by decide +kernel
theorem dX5_aside_42 : decode cX5_aside 42 = .ok (.iconst 2, 1) := by decide +kernel
theorem dX5_aside_43 : decode cX5_aside 43 = .ok (.iload_n 1, 1) := by decide +kernel
theorem dX5_aside_44 : decode cX5_aside 44 = .ok (.imul, 1) := by decide +kernel
theorem dX5_aside_45 : decode cX5_aside 45 = .ok (.iload_n 2, 1) := by decide +kernel
theorem dX5_aside_46 : decode cX5_aside 46 = .ok (.iadd, 1) := by decide +kernel
theorem dX5_aside_47 : decode cX5_aside 47 = .ok (.iaload, 1) := by decide +kernel
theorem dX5_aside_48 : decode cX5_aside 48 = .ok (.ireturn, 1) := by decide +kernel
theorem dX5_rate_0 : decode cX5_rate 0 = .ok (.aload_n 0, 1) := by decide +kernel
theorem dX5_rate_1 : decode cX5_rate 1 = .ok (.iconst 0, 1) := by decide +kernel
theorem dX5_rate_2 : decode cX5_rate 2 = .ok (.putfield 72, 3) := by decide +kernel
theorem dX5_rate_5 : decode cX5_rate 5 = .ok (.aload_n 0, 1) := by decide +kernel
theorem dX5_rate_6 : decode cX5_rate 6 = .ok (.iload_n 1, 1) := by decide +kernel
theorem dX5_rate_7 : decode cX5_rate 7 = .ok (.invokevirtual 94, 3) := by decide +kernel
theorem dX5_rate_10 : decode cX5_rate 10 = .ok (.ifCond .ne 6, 3) := by decide +kernel
theorem dX5_rate_13 : decode cX5_rate 13 = .ok (.bipush (-11), 2) := by decide +kernel
theorem dX5_rate_15 : decode cX5_rate 15 = .ok (.ireturn, 1) := by decide +kernel
theorem dX5_rate_16 : decode cX5_rate 16 = .ok (.aload_n 0, 1) := by decide +kernel
theorem dX5_rate_17 : decode cX5_rate 17 = .ok (.iload_n 1, 1) := by decide +kernel
theorem dX5_rate_18 : decode cX5_rate 18 = .ok (.invokevirtual 105, 3) := by decide +kernel
theorem dX5_rate_21 : decode cX5_rate 21 = .ok (.iconst (-1), 1) := by decide +kernel
theorem dX5_rate_22 : decode cX5_rate 22 = .ok (.if_icmp .ne 10, 3) := by decide +kernel
theorem dX5_rate_25 : decode cX5_rate 25 = .ok (.aload_n 0, 1) := by decide +kernel
theorem dX5_rate_26 : decode cX5_rate 26 = .ok (.iconst 1, 1) := by decide +kernel
theorem dX5_rate_27 : decode cX5_rate 27 = .ok (.putfield 72, 3) := by decide +kernel
theorem dX5_rate_30 : decode cX5_rate 30 = .ok (.iconst 0, 1) := by decide +kernel
theorem dX5_rate_31 : decode cX5_rate 31 = .ok (.ireturn, 1) := by decide +kernel
theorem dX5_rate_32 : decode cX5_rate 32 = .ok (.aload_n 0, 1) := by decide +kernel
theorem dX5_rate_33 : decode cX5_rate 33 = .ok (.getfield 30, 3) := by decide +kernel
theorem dX5_rate_36 : decode cX5_rate 36 = .ok (.iload_n 1, 1) := by decide +kernel
theorem dX5_rate_37 : decode cX5_rate 37 = .ok (.iaload, 1) := by decide +kernel
theorem dX5_rate_38 : decode cX5_rate 38 = .ok (.istore_n 2, 1) := by decide +kernel
theorem dX5_rate_39 : decode cX5_rate 39 = .ok (.iconst 0, 1) := by decide +kernel
theorem dX5_rate_40 : decode cX5_rate 40 = .ok (.istore_n 3, 1) := by decide +kernel
theorem dX5_rate_41 : decode cX5_rate 41 = .ok (.iload_n 3, 1) := by decide +kernel
theorem dX5_rate_42 : decode cX5_rate 42 = .ok (.aload_n 0, 1) := by decide +kernel
theorem dX5_rate_43 : decode cX5_rate 43 = .ok (.getfield 75, 3) := by decide +kernel
theorem dX5_rate_46 : decode cX5_rate 46 = .ok (.if_icmp .ge 48, 3) := by decide +kernel
theorem dX5_rate_49 : decode cX5_rate 49 = .ok (.iload_n 2, 1) := by decide +kernel
theorem dX5_rate_50 : decode cX5_rate 50 = .ok (.iload_n 3, 1) := by decide +kernel
theorem dX5_rate_51 : decode cX5_rate 51 = .ok (.iload_n 1, 1) := by decide +kernel
theorem dX5_rate_52 : decode cX5_rate 52 = .ok (.if_icmp .eq 33, 3) := by decide +kernel
theorem dX5_rate_55 : decode cX5_rate 55 = .ok (.aload_n 0, 1) := by decide +kernel
theorem dX5_rate_56 : decode cX5_rate 56 = .ok (.iload_n 3, 1) := by decide +kernel
theorem dX5_rate_57 : decode cX5_rate 57 = .ok (.invokevirtual 105, 3) := by decide +kernel
theorem dX5_rate_60 : decode cX5_rate 60 = .ok (.aload_n 0, 1) := by decide +kernel
theorem dX5_rate_61 : decode cX5_rate 61 = .ok (.iload_n 1, 1) := by decide +kernel
theorem dX5_rate_62 : decode cX5_rate 62 = .ok (.invokevirtual 105, 3) := by decide +kernel
theorem dX5_rate_65 : decode cX5_rate 65 = .ok (.if_icmp .ne 20, 3) := by decide +kernel
theorem dX5_rate_68 : decode cX5_rate 68 = .ok (.aload_n 0, 1) := by decide +kernel
theorem dX5_rate_69 : decode cX5_rate 69 = .ok (.iload_n 3, 1) := by decide +kernel
theorem dX5_rate_70 : decode cX5_rate 70 = .ok (.invokevirtual 82, 3) := by decide +kernel
theorem dX5_rate_73 : decode cX5_rate 73 = .ok (.ifCond .eq 12, 3) := by decide +kernel
theorem dX5_rate_76 : decode cX5_rate 76 = .ok (.aload_n 0, 1) := by decide +kernel
theorem dX5_rate_77 : decode cX5_rate 77 = .ok (.getfield 30, 3) := by decide +kernel
theorem dX5_rate_80 : decode cX5_rate 80 = .ok (.iload_n 3, 1) := by decide +kernel
theorem dX5_rate_81 : decode cX5_rate 81 = .ok (.iaload, 1) := by decide +kernel
theorem dX5_rate_82 : decode cX5_rate 82 = .ok (.goto 4, 3) := by decide +kernel
theorem dX5_rate_85 : decode cX5_rate 85 = .ok (.iconst 0, 1) := by decide +kernel
theorem dX5_rate_86 : decode cX5_rate 86 = .ok (.iadd, 1) := by decide +kernel
theorem dX5_rate_87 : decode cX5_rate 87 = .ok (.istore_n 2, 1) := by decide +kernel
theorem dX5_rate_88 : decode cX5_rate 88 = .ok (.iinc 3 1, 3) := by decide +kernel
theorem dX5_rate_91 : decode cX5_rate 91 = .ok (.goto (-50), 3) := by decide +kernel
theorem dX5_rate_94 : decode cX5_rate 94 = .ok (.sipush 1000, 3) := by decide +kernel
theorem dX5_rate_97 : decode cX5_rate 97 = .ok (.aload_n 0, 1) := by decide +kernel
theorem dX5_rate_98 : decode cX5_rate 98 = .ok (.getfield 30, 3) := by decide +kernel
theorem dX5_rate_101 : decode cX5_rate 101 = .ok (.iload_n 1, 1) := by decide +kernel
theorem dX5_rate_102 : decode cX5_rate 102 = .ok (.iaload, 1) := by decide +kernel
theorem dX5_rate_103 : decode cX5_rate 103 = .ok (.imul, 1) := by decide +kernel
theorem dX5_rate_104 : decode cX5_rate 104 = .ok (.iload_n 2, 1) := by decide +kernel
theorem dX5_rate_105 : decode cX5_rate 105 = .ok (.idiv, 1) := by decide +kernel
theorem dX5_rate_106 : decode cX5_rate 106 = .ok (.ireturn, 1) := by decide +kernel
theorem dX5_water_0 : decode cX5_water 0 = .ok (.aload_n 0, 1) := by decide +kernel
theorem dX5_water_1 : decode cX5_water 1 = .ok (.iconst 0, 1) := by decide +kernel
theorem dX5_water_2 : decode cX5_water 2 = .ok (.putfield 72, 3) := by decide +kernel
theorem dX5_water_5 : decode cX5_water 5 = .ok (.ldc 137, 2) := by decide +kernel
theorem dX5_water_7 : decode cX5_water 7 = .ok (.istore_n 1, 1) := by decide +kernel
theorem dX5_water_8 : decode cX5_water 8 = .ok (.iconst (-1), 1) := by decide +kernel
theorem dX5_water_9 : decode cX5_water 9 = .ok (.istore_n 2, 1) := by decide +kernel
theorem dX5_water_10 : decode cX5_water 10 = .ok (.iconst 0, 1) := by decide +kernel
theorem dX5_water_11 : decode cX5_water 11 = .ok (.istore_n 3, 1) := by decide +kernel
theorem dX5_water_12 : decode cX5_water 12 = .ok (.iload_n 3, 1) := by decide +kernel
theorem dX5_water_13 : decode cX5_water 13 = .ok (.aload_n 0, 1) := by decide +kernel
theorem dX5_water_14 : decode cX5_water 14 = .ok (.getfield 75, 3) := by decide +kernel
theorem dX5_water_17 : decode cX5_water 17 = .ok (.if_icmp .ge 71, 3) := by decide +kernel
theorem dX5_water_20 : decode cX5_water 20 = .ok (.aload_n 0, 1) := by decide +kernel
theorem dX5_water_21 : decode cX5_water 21 = .ok (.iload_n 3, 1) := by decide +kernel
theorem dX5_water_22 : decode cX5_water 22 = .ok (.invokevirtual 102, 3) := by decide +kernel
theorem dX5_water_25 : decode cX5_water 25 = .ok (.ifCond .ne 28, 3) := by decide +kernel
theorem dX5_water_28 : decode cX5_water 28 = .ok (.aload_n 0, 1) := by decide +kernel
theorem dX5_water_29 : decode cX5_water 29 = .ok (.getfield 36, 3) := by decide +kernel
theorem dX5_water_32 : decode cX5_water 32 = .ok (.bipush 12, 2) := by decide +kernel
theorem dX5_water_34 : decode cX5_water 34 = .ok (.iload_n 3, 1) := by decide +kernel
theorem dX5_water_35 : decode cX5_water 35 = .ok (.iadd, 1) := by decide +kernel
theorem dX5_water_36 : decode cX5_water 36 = .ok (.iaload, 1) := by decide +kernel
theorem dX5_water_37 : decode cX5_water 37 = .ok (.iload_n 1, 1) := by decide +kernel
theorem dX5_water_38 : decode cX5_water 38 = .ok (.if_icmp .ge 15, 3) := by decide +kernel
theorem dX5_water_41 : decode cX5_water 41 = .ok (.aload_n 0, 1) := by decide +kernel
theorem dX5_water_42 : decode cX5_water 42 = .ok (.getfield 36, 3) := by decide +kernel
theorem dX5_water_45 : decode cX5_water 45 = .ok (.bipush 12, 2) := by decide +kernel
theorem dX5_water_47 : decode cX5_water 47 = .ok (.iload_n 3, 1) := by decide +kernel
theorem dX5_water_48 : decode cX5_water 48 = .ok (.iadd, 1) := by decide +kernel
theorem dX5_water_49 : decode cX5_water 49 = .ok (.iaload, 1) := by decide +kernel
theorem dX5_water_50 : decode cX5_water 50 = .ok (.goto 4, 3) := by decide +kernel
theorem dX5_water_53 : decode cX5_water 53 = .ok (.iload_n 1, 1) := by decide +kernel
theorem dX5_water_54 : decode cX5_water 54 = .ok (.istore_n 1, 1) := by decide +kernel
theorem dX5_water_55 : decode cX5_water 55 = .ok (.aload_n 0, 1) := by decide +kernel
theorem dX5_water_56 : decode cX5_water 56 = .ok (.getfield 36, 3) := by decide +kernel
theorem dX5_water_59 : decode cX5_water 59 = .ok (.bipush 12, 2) := by decide +kernel
theorem dX5_water_61 : decode cX5_water 61 = .ok (.iload_n 3, 1) := by decide +kernel
theorem dX5_water_62 : decode cX5_water 62 = .ok (.iadd, 1) := by decide +kernel
theorem dX5_water_63 : decode cX5_water 63 = .ok (.iaload, 1) := by decide +kernel
theorem dX5_water_64 : decode cX5_water 64 = .ok (.iload_n 2, 1) := by decide +kernel
theorem dX5_water_65 : decode cX5_water 65 = .ok (.if_icmp .le 15, 3) := by decide +kernel
theorem dX5_water_68 : decode cX5_water 68 = .ok (.aload_n 0, 1) := by decide +kernel
theorem dX5_water_69 : decode cX5_water 69 = .ok (.getfield 36, 3) := by decide +kernel
theorem dX5_water_72 : decode cX5_water 72 = .ok (.bipush 12, 2) := by decide +kernel
theorem dX5_water_74 : decode cX5_water 74 = .ok (.iload_n 3, 1) := by decide +kernel
theorem dX5_water_75 : decode cX5_water 75 = .ok (.iadd, 1) := by decide +kernel
theorem dX5_water_76 : decode cX5_water 76 = .ok (.iaload, 1) := by decide +kernel
theorem dX5_water_77 : decode cX5_water 77 = .ok (.goto 4, 3) := by decide +kernel
theorem dX5_water_80 : decode cX5_water 80 = .ok (.iload_n 2, 1) := by decide +kernel
theorem dX5_water_81 : decode cX5_water 81 = .ok (.istore_n 2, 1) := by decide +kernel
theorem dX5_water_82 : decode cX5_water 82 = .ok (.iinc 3 1, 3) := by decide +kernel
theorem dX5_water_85 : decode cX5_water 85 = .ok (.goto (-73), 3) := by decide +kernel
theorem dX5_water_88 : decode cX5_water 88 = .ok (.iload_n 1, 1) := by decide +kernel
theorem dX5_water_89 : decode cX5_water 89 = .ok (.ldc 137, 2) := by decide +kernel
theorem dX5_water_91 : decode cX5_water 91 = .ok (.if_icmp .ge 7, 3) := by decide +kernel
theorem dX5_water_94 : decode cX5_water 94 = .ok (.iload_n 1, 1) := by decide +kernel
theorem dX5_water_95 : decode cX5_water 95 = .ok (.goto 4, 3) := by decide +kernel
theorem dX5_water_98 : decode cX5_water 98 = .ok (.iload_n 2, 1) := by decide +kernel
theorem dX5_water_99 : decode cX5_water 99 = .ok (.ireturn, 1) := by decide +kernel
theorem dX5_count_0 : decode cX5_count 0 = .ok (.aload_n 0, 1) := by decide +kernel
theorem dX5_count_1 : decode cX5_count 1 = .ok (.iconst 0, 1) := by decide +kernel
theorem dX5_count_2 : decode cX5_count 2 = .ok (.putfield 72, 3) := by decide +kernel
theorem dX5_count_5 : decode cX5_count 5 = .ok (.iconst 0, 1) := by decide +kernel
theorem dX5_count_6 : decode cX5_count 6 = .ok (.istore_n 2, 1) := by decide +kernel
theorem dX5_count_7 : decode cX5_count 7 = .ok (.iload_n 1, 1) := by decide +kernel
theorem dX5_count_8 : decode cX5_count 8 = .ok (.tableswitch 207 0 9 #[56, 61, 66, 71, 76, 110, 115, 149, 154, 159], 56) := by decide +kernel
theorem dX5_count_64 : decode cX5_count 64 = .ok (.aload_n 0, 1) := by decide +kernel
theorem dX5_count_65 : decode cX5_count 65 = .ok (.getfield 75, 3) := by decide +kernel
theorem dX5_count_68 : decode cX5_count 68 = .ok (.ireturn, 1) := by decide +kernel
theorem dX5_count_69 : decode cX5_count 69 = .ok (.aload_n 0, 1) := by decide +kernel
theorem dX5_count_70 : decode cX5_count 70 = .ok (.getfield 7, 3) := by decide +kernel
theorem dX5_count_73 : decode cX5_count 73 = .ok (.ireturn, 1) := by decide +kernel
theorem dX5_count_74 : decode cX5_count 74 = .ok (.aload_n 0, 1) := by decide +kernel
theorem dX5_count_75 : decode cX5_count 75 = .ok (.getfield 130, 3) := by decide +kernel
theorem dX5_count_78 : decode cX5_count 78 = .ok (.ireturn, 1) := by decide +kernel
theorem dX5_count_79 : decode cX5_count 79 = .ok (.aload_n 0, 1) := by decide +kernel
theorem dX5_count_80 : decode cX5_count 80 = .ok (.getfield 112, 3) := by decide +kernel
theorem dX5_count_83 : decode cX5_count 83 = .ok (.ireturn, 1) := by decide +kernel
theorem dX5_count_84 : decode cX5_count 84 = .ok (.iconst 0, 1) := by decide +kernel
theorem dX5_count_85 : decode cX5_count 85 = .ok (.istore_n 3, 1) := by decide +kernel
theorem dX5_count_86 : decode cX5_count 86 = .ok (.iload_n 3, 1) := by decide +kernel
theorem dX5_count_87 : decode cX5_count 87 = .ok (.sipush 256, 3) := by decide +kernel
theorem dX5_count_90 : decode cX5_count 90 = .ok (.if_icmp .ge 26, 3) := by decide +kernel
theorem dX5_count_93 : decode cX5_count 93 = .ok (.iload_n 2, 1) := by decide +kernel
theorem dX5_count_94 : decode cX5_count 94 = .ok (.aload_n 0, 1) := by decide +kernel
theorem dX5_count_95 : decode cX5_count 95 = .ok (.getfield 39, 3) := by decide +kernel
theorem dX5_count_98 : decode cX5_count 98 = .ok (.iload_n 3, 1) := by decide +kernel
theorem dX5_count_99 : decode cX5_count 99 = .ok (.baload, 1) := by decide +kernel
theorem dX5_count_100 : decode cX5_count 100 = .ok (.ifCond .eq 7, 3) := by decide +kernel
theorem dX5_count_103 : decode cX5_count 103 = .ok (.iconst 1, 1) := by decide +kernel
theorem dX5_count_104 : decode cX5_count 104 = .ok (.goto 4, 3) := by decide +kernel
theorem dX5_count_107 : decode cX5_count 107 = .ok (.iconst 0, 1) := by decide +kernel
theorem dX5_count_108 : decode cX5_count 108 = .ok (.iadd, 1) := by decide +kernel
theorem dX5_count_109 : decode cX5_count 109 = .ok (.istore_n 2, 1) := by decide +kernel
theorem dX5_count_110 : decode cX5_count 110 = .ok (.iinc 3 1, 3) := by decide +kernel
theorem dX5_count_113 : decode cX5_count 113 = .ok (.goto (-27), 3) := by decide +kernel
theorem dX5_count_116 : decode cX5_count 116 = .ok (.iload_n 2, 1) := by decide +kernel
theorem dX5_count_117 : decode cX5_count 117 = .ok (.ireturn, 1) := by decide +kernel
theorem dX5_count_118 : decode cX5_count 118 = .ok (.aload_n 0, 1) := by decide +kernel
theorem dX5_count_119 : decode cX5_count 119 = .ok (.getfield 128, 3) := by decide +kernel
theorem dX5_count_122 : decode cX5_count 122 = .ok (.ireturn, 1) := by decide +kernel
theorem dX5_count_123 : decode cX5_count 123 = .ok (.iconst 0, 1) := by decide +kernel
theorem dX5_count_124 : decode cX5_count 124 = .ok (.istore_n 3, 1) := by decide +kernel
theorem dX5_count_125 : decode cX5_count 125 = .ok (.iload_n 3, 1) := by decide +kernel
theorem dX5_count_126 : decode cX5_count 126 = .ok (.aload_n 0, 1) := by decide +kernel
theorem dX5_count_127 : decode cX5_count 127 = .ok (.getfield 75, 3) := by decide +kernel
theorem dX5_count_130 : decode cX5_count 130 = .ok (.if_icmp .ge 25, 3) := by decide +kernel
theorem dX5_count_133 : decode cX5_count 133 = .ok (.iload_n 2, 1) := by decide +kernel
theorem dX5_count_134 : decode cX5_count 134 = .ok (.aload_n 0, 1) := by decide +kernel
theorem dX5_count_135 : decode cX5_count 135 = .ok (.iload_n 3, 1) := by decide +kernel
theorem dX5_count_136 : decode cX5_count 136 = .ok (.invokevirtual 102, 3) := by decide +kernel
theorem dX5_count_139 : decode cX5_count 139 = .ok (.ifCond .eq 7, 3) := by decide +kernel
theorem dX5_count_142 : decode cX5_count 142 = .ok (.iconst 1, 1) := by decide +kernel
theorem dX5_count_143 : decode cX5_count 143 = .ok (.goto 4, 3) := by decide +kernel
theorem dX5_count_146 : decode cX5_count 146 = .ok (.iconst 0, 1) := by decide +kernel
theorem dX5_count_147 : decode cX5_count 147 = .ok (.iadd, 1) := by decide +kernel
theorem dX5_count_148 : decode cX5_count 148 = .ok (.istore_n 2, 1) := by decide +kernel
theorem dX5_count_149 : decode cX5_count 149 = .ok (.iinc 3 1, 3) := by decide +kernel
theorem dX5_count_152 : decode cX5_count 152 = .ok (.goto (-27), 3) := by decide +kernel
theorem dX5_count_155 : decode cX5_count 155 = .ok (.iload_n 2, 1) := by decide +kernel
theorem dX5_count_156 : decode cX5_count 156 = .ok (.ireturn, 1) := by decide +kernel
theorem dX5_count_157 : decode cX5_count 157 = .ok (.aload_n 0, 1) := by decide +kernel
theorem dX5_count_158 : decode cX5_count 158 = .ok (.getfield 115, 3) := by decide +kernel
theorem dX5_count_161 : decode cX5_count 161 = .ok (.ireturn, 1) := by decide +kernel
theorem dX5_count_162 : decode cX5_count 162 = .ok (.aload_n 0, 1) := by decide +kernel
theorem dX5_count_163 : decode cX5_count 163 = .ok (.getfield 125, 3) := by decide +kernel
theorem dX5_count_166 : decode cX5_count 166 = .ok (.ireturn, 1) := by decide +kernel
theorem dX5_count_167 : decode cX5_count 167 = .ok (.iconst 0, 1) := by decide +kernel
theorem dX5_count_168 : decode cX5_count 168 = .ok (.istore_n 3, 1) := by decide +kernel
theorem dX5_count_169 : decode cX5_count 169 = .ok (.iload_n 3, 1) := by decide +kernel
theorem dX5_count_170 : decode cX5_count 170 = .ok (.bipush 64, 2) := by decide +kernel
theorem dX5_count_172 : decode cX5_count 172 = .ok (.if_icmp .ge 41, 3) := by decide +kernel
theorem dX5_count_175 : decode cX5_count 175 = .ok (.iload_n 2, 1) := by decide +kernel
theorem dX5_count_176 : decode cX5_count 176 = .ok (.aload_n 0, 1) := by decide +kernel
theorem dX5_count_177 : decode cX5_count 177 = .ok (.getfield 60, 3) := by decide +kernel
theorem dX5_count_180 : decode cX5_count 180 = .ok (.iload_n 3, 1) := by decide +kernel
theorem dX5_count_181 : decode cX5_count 181 = .ok (.baload, 1) := by decide +kernel
theorem dX5_count_182 : decode cX5_count 182 = .ok (.ifCond .eq 7, 3) := by decide +kernel
theorem dX5_count_185 : decode cX5_count 185 = .ok (.iconst 1, 1) := by decide +kernel
theorem dX5_count_186 : decode cX5_count 186 = .ok (.goto 4, 3) := by decide +kernel
theorem dX5_count_189 : decode cX5_count 189 = .ok (.iconst 0, 1) := by decide +kernel
theorem dX5_count_190 : decode cX5_count 190 = .ok (.aload_n 0, 1) := by decide +kernel
theorem dX5_count_191 : decode cX5_count 191 = .ok (.getfield 63, 3) := by decide +kernel
theorem dX5_count_194 : decode cX5_count 194 = .ok (.iload_n 3, 1) := by decide +kernel
theorem dX5_count_195 : decode cX5_count 195 = .ok (.baload, 1) := by decide +kernel
theorem dX5_count_196 : decode cX5_count 196 = .ok (.ifCond .eq 7, 3) := by decide +kernel
theorem dX5_count_199 : decode cX5_count 199 = .ok (.iconst 1, 1) := by decide +kernel
theorem dX5_count_200 : decode cX5_count 200 = .ok (.goto 4, 3) := by decide +kernel
theorem dX5_count_203 : decode cX5_count 203 = .ok (.iconst 0, 1) := by decide +kernel
theorem dX5_count_204 : decode cX5_count 204 = .ok (.iadd, 1) := by decide +kernel
theorem dX5_count_205 : decode cX5_count 205 = .ok (.iadd, 1) := by decide +kernel
theorem dX5_count_206 : decode cX5_count 206 = .ok (.istore_n 2, 1) := by decide +kernel
theorem dX5_count_207 : decode cX5_count 207 = .ok (.iinc 3 1, 3) := by decide +kernel
theorem dX5_count_210 : decode cX5_count 210 = .ok (.goto (-41), 3) := by decide +kernel
theorem dX5_count_213 : decode cX5_count 213 = .ok (.iload_n 2, 1) := by decide +kernel
theorem dX5_count_214 : decode cX5_count 214 = .ok (.ireturn, 1) := by decide +kernel
theorem dX5_count_215 : decode cX5_count 215 = .ok (.bipush (-12), 2) := by decide +kernel
theorem dX5_count_217 : decode cX5_count 217 = .ok (.ireturn, 1) := by decide +kernel
theorem dX5_clear_0 : decode cX5_clear 0 = .ok (.aload_n 0, 1) := by decide +kernel
theorem dX5_clear_1 : decode cX5_clear 1 = .ok (.iconst 0, 1) := by decide +kernel
theorem dX5_clear_2 : decode cX5_clear 2 = .ok (.putfield 72, 3) := by decide +kernel
theorem dX5_clear_5 : decode cX5_clear 5 = .ok (.aload_n 0, 1) := by decide +kernel
theorem dX5_clear_6 : decode cX5_clear 6 = .ok (.getfield 75, 3) := by decide +kernel
theorem dX5_clear_9 : decode cX5_clear 9 = .ok (.istore_n 1, 1) := by decide +kernel
theorem dX5_clear_10 : decode cX5_clear 10 = .ok (.aload_n 0, 1) := by decide +kernel
theorem dX5_clear_11 : decode cX5_clear 11 = .ok (.iconst 0, 1) := by decide +kernel
theorem dX5_clear_12 : decode cX5_clear 12 = .ok (.putfield 75, 3) := by decide +kernel
theorem dX5_clear_15 : decode cX5_clear 15 = .ok (.aload_n 0, 1) := by decide +kernel
theorem dX5_clear_16 : decode cX5_clear 16 = .ok (.iconst 1, 1) := by decide +kernel
theorem dX5_clear_17 : decode cX5_clear 17 = .ok (.putfield 7, 3) := by decide +kernel
theorem dX5_clear_20 : decode cX5_clear 20 = .ok (.aload_n 0, 1) := by decide +kernel
theorem dX5_clear_21 : decode cX5_clear 21 = .ok (.iconst 0, 1) := by decide +kernel
theorem dX5_clear_22 : decode cX5_clear 22 = .ok (.putfield 130, 3) := by decide +kernel
theorem dX5_clear_25 : decode cX5_clear 25 = .ok (.aload_n 0, 1) := by decide +kernel
theorem dX5_clear_26 : decode cX5_clear 26 = .ok (.iconst 0, 1) := by decide +kernel
theorem dX5_clear_27 : decode cX5_clear 27 = .ok (.putfield 112, 3) := by decide +kernel
theorem dX5_clear_30 : decode cX5_clear 30 = .ok (.aload_n 0, 1) := by decide +kernel
theorem dX5_clear_31 : decode cX5_clear 31 = .ok (.iconst 0, 1) := by decide +kernel
theorem dX5_clear_32 : decode cX5_clear 32 = .ok (.putfield 115, 3) := by decide +kernel
theorem dX5_clear_35 : decode cX5_clear 35 = .ok (.aload_n 0, 1) := by decide +kernel
theorem dX5_clear_36 : decode cX5_clear 36 = .ok (.iconst 0, 1) := by decide +kernel
theorem dX5_clear_37 : decode cX5_clear 37 = .ok (.putfield 125, 3) := by decide +kernel
theorem dX5_clear_40 : decode cX5_clear 40 = .ok (.iconst 0, 1) := by decide +kernel
theorem dX5_clear_41 : decode cX5_clear 41 = .ok (.istore_n 2, 1) := by decide +kernel
theorem dX5_clear_42 : decode cX5_clear 42 = .ok (.iload_n 2, 1) := by decide +kernel
theorem dX5_clear_43 : decode cX5_clear 43 = .ok (.bipush 64, 2) := by decide +kernel
theorem dX5_clear_45 : decode cX5_clear 45 = .ok (.if_icmp .ge 23, 3) := by decide +kernel
theorem dX5_clear_48 : decode cX5_clear 48 = .ok (.aload_n 0, 1) := by decide +kernel
theorem dX5_clear_49 : decode cX5_clear 49 = .ok (.getfield 60, 3) := by decide +kernel
theorem dX5_clear_52 : decode cX5_clear 52 = .ok (.iload_n 2, 1) := by decide +kernel
theorem dX5_clear_53 : decode cX5_clear 53 = .ok (.iconst 0, 1) := by decide +kernel
theorem dX5_clear_54 : decode cX5_clear 54 = .ok (.bastore, 1) := by decide +kernel
theorem dX5_clear_55 : decode cX5_clear 55 = .ok (.aload_n 0, 1) := by decide +kernel
theorem dX5_clear_56 : decode cX5_clear 56 = .ok (.getfield 63, 3) := by decide +kernel
theorem dX5_clear_59 : decode cX5_clear 59 = .ok (.iload_n 2, 1) := by decide +kernel
theorem dX5_clear_60 : decode cX5_clear 60 = .ok (.iconst 0, 1) := by decide +kernel
theorem dX5_clear_61 : decode cX5_clear 61 = .ok (.bastore, 1) := by decide +kernel
theorem dX5_clear_62 : decode cX5_clear 62 = .ok (.iinc 2 1, 3) := by decide +kernel
theorem dX5_clear_65 : decode cX5_clear 65 = .ok (.goto (-23), 3) := by decide +kernel
theorem dX5_clear_68 : decode cX5_clear 68 = .ok (.aload_n 0, 1) := by decide +kernel
theorem dX5_clear_69 : decode cX5_clear 69 = .ok (.invokevirtual 133, 3) := by decide +kernel
theorem dX5_clear_72 : decode cX5_clear 72 = .ok (.aload_n 0, 1) := by decide +kernel
theorem dX5_clear_73 : decode cX5_clear 73 = .ok (.invokevirtual 69, 3) := by decide +kernel
theorem dX5_clear_76 : decode cX5_clear 76 = .ok (.iload_n 1, 1) := by decide +kernel
theorem dX5_clear_77 : decode cX5_clear 77 = .ok (.ireturn, 1) := by decide +kernel
theorem dL_number_0 : decode cL_number 0 = .ok (.aload_n 3, 1) := by decide +kernel
theorem dL_number_1 : decode cL_number 1 = .ok (.iconst 0, 1) := by decide +kernel
theorem dL_number_2 : decode cL_number 2 = .ok (.aload_n 0, 1) := by decide +kernel
theorem dL_number_3 : decode cL_number 3 = .ok (.iload_n 1, 1) := by decide +kernel
theorem dL_number_4 : decode cL_number 4 = .ok (.iload_n 2, 1) := by decide +kernel
theorem dL_number_5 : decode cL_number 5 = .ok (.invokevirtual 7, 3) := by decide +kernel
theorem dL_number_8 : decode cL_number 8 = .ok (.i2l, 1) := by decide +kernel
theorem dL_number_9 : decode cL_number 9 = .ok (.lastore, 1) := by decide +kernel
theorem dL_number_10 : decode cL_number 10 = .ok (.goto 11, 3) := by decide +kernel
theorem dL_number_13 : decode cL_number 13 = .ok (.astore 4, 2) := by decide +kernel
theorem dL_number_15 : decode cL_number 15 = .ok (.iconst 1, 1) := by decide +kernel
theorem dL_number_16 : decode cL_number 16 = .ok (.ireturn, 1) := by decide +kernel
theorem dL_number_17 : decode cL_number 17 = .ok (.astore 4, 2) := by decide +kernel
theorem dL_number_19 : decode cL_number 19 = .ok (.iconst 2, 1) := by decide +kernel
theorem dL_number_20 : decode cL_number 20 = .ok (.ireturn, 1) := by decide +kernel
theorem dL_number_21 : decode cL_number 21 = .ok (.iconst 0, 1) := by decide +kernel
theorem dL_number_22 : decode cL_number 22 = .ok (.ireturn, 1) := by decide +kernel
theorem dL_rate_0 : decode cL_rate 0 = .ok (.aload_n 2, 1) := by decide +kernel
theorem dL_rate_1 : decode cL_rate 1 = .ok (.iconst 0, 1) := by decide +kernel
theorem dL_rate_2 : decode cL_rate 2 = .ok (.aload_n 0, 1) := by decide +kernel
theorem dL_rate_3 : decode cL_rate 3 = .ok (.iload_n 1, 1) := by decide +kernel
theorem dL_rate_4 : decode cL_rate 4 = .ok (.invokevirtual 17, 3) := by decide +kernel
theorem dL_rate_7 : decode cL_rate 7 = .ok (.i2l, 1) := by decide +kernel
theorem dL_rate_8 : decode cL_rate 8 = .ok (.lastore, 1) := by decide +kernel
theorem dL_rate_9 : decode cL_rate 9 = .ok (.goto 6, 3) := by decide +kernel
theorem dL_rate_12 : decode cL_rate 12 = .ok (.astore_n 3, 1) := by decide +kernel
theorem dL_rate_13 : decode cL_rate 13 = .ok (.iconst 1, 1) := by decide +kernel
theorem dL_rate_14 : decode cL_rate 14 = .ok (.ireturn, 1) := by decide +kernel
theorem dL_rate_15 : decode cL_rate 15 = .ok (.iconst 0, 1) := by decide +kernel
theorem dL_rate_16 : decode cL_rate 16 = .ok (.ireturn, 1) := by decide +kernel
theorem dL_law_0 : decode cL_law 0 = .ok (.new 8, 3) := by decide +kernel
theorem dL_law_3 : decode cL_law 3 = .ok (.dup, 1) := by decide +kernel
theorem dL_law_4 : decode cL_law 4 = .ok (.invokespecial 21, 3) := by decide +kernel
theorem dL_law_7 : decode cL_law 7 = .ok (.astore_n 1, 1) := by decide +kernel
theorem dL_law_8 : decode cL_law 8 = .ok (.new 22, 3) := by decide +kernel
theorem dL_law_11 : decode cL_law 11 = .ok (.dup, 1) := by decide +kernel
theorem dL_law_12 : decode cL_law 12 = .ok (.invokespecial 24, 3) := by decide +kernel
theorem dL_law_15 : decode cL_law 15 = .ok (.astore_n 2, 1) := by decide +kernel
theorem dL_law_16 : decode cL_law 16 = .ok (.iconst 1, 1) := by decide +kernel
theorem dL_law_17 : decode cL_law 17 = .ok (.newarray .long, 2) := by decide +kernel
theorem dL_law_19 : decode cL_law 19 = .ok (.astore_n 3, 1) := by decide +kernel
theorem dL_law_20 : decode cL_law 20 = .ok (.iconst 0, 1) := by decide +kernel
theorem dL_law_21 : decode cL_law 21 = .ok (.istore 4, 2) := by decide +kernel
theorem dL_law_23 : decode cL_law 23 = .ok (.iload 4, 2) := by decide +kernel
theorem dL_law_25 : decode cL_law 25 = .ok (.aload_n 0, 1) := by decide +kernel
theorem dL_law_26 : decode cL_law 26 = .ok (.arraylength, 1) := by decide +kernel
theorem dL_law_27 : decode cL_law 27 = .ok (.iconst 5, 1) := by decide +kernel
theorem dL_law_28 : decode cL_law 28 = .ok (.isub, 1) := by decide +kernel
theorem dL_law_29 : decode cL_law 29 = .ok (.if_icmp .gt 775, 3) := by decide +kernel
theorem dL_law_32 : decode cL_law 32 = .ok (.aload_n 0, 1) := by decide +kernel
theorem dL_law_33 : decode cL_law 33 = .ok (.iload 4, 2) := by decide +kernel
theorem dL_law_35 : decode cL_law 35 = .ok (.iaload, 1) := by decide +kernel
theorem dL_law_36 : decode cL_law 36 = .ok (.bipush 31, 2) := by decide +kernel
theorem dL_law_38 : decode cL_law 38 = .ok (.iand, 1) := by decide +kernel
theorem dL_law_39 : decode cL_law 39 = .ok (.tableswitch 759 0 19 #[93, 118, 195, 220, 257, 294, 319, 344, 397, 410, 435, 460, 485, 522, 547, 615, 652, 708, 721, 746], 93) := by decide +kernel
theorem dL_law_132 : decode cL_law 132 = .ok (.aload_n 1, 1) := by decide +kernel
theorem dL_law_133 : decode cL_law 133 = .ok (.aload_n 0, 1) := by decide +kernel
theorem dL_law_134 : decode cL_law 134 = .ok (.iload 4, 2) := by decide +kernel
theorem dL_law_136 : decode cL_law 136 = .ok (.iconst 1, 1) := by decide +kernel
theorem dL_law_137 : decode cL_law 137 = .ok (.iadd, 1) := by decide +kernel
theorem dL_law_138 : decode cL_law 138 = .ok (.iaload, 1) := by decide +kernel
theorem dL_law_139 : decode cL_law 139 = .ok (.invokevirtual 25, 3) := by decide +kernel
theorem dL_law_142 : decode cL_law 142 = .ok (.aload_n 2, 1) := by decide +kernel
theorem dL_law_143 : decode cL_law 143 = .ok (.aload_n 0, 1) := by decide +kernel
theorem dL_law_144 : decode cL_law 144 = .ok (.iload 4, 2) := by decide +kernel
theorem dL_law_146 : decode cL_law 146 = .ok (.iconst 1, 1) := by decide +kernel
theorem dL_law_147 : decode cL_law 147 = .ok (.iadd, 1) := by decide +kernel
theorem dL_law_148 : decode cL_law 148 = .ok (.iaload, 1) := by decide +kernel
theorem dL_law_149 : decode cL_law 149 = .ok (.invokevirtual 28, 3) := by decide +kernel
theorem dL_law_152 : decode cL_law 152 = .ok (.if_icmp .eq 646, 3) := by decide +kernel
theorem dL_law_155 : decode cL_law 155 = .ok (.iconst 0, 1) := by decide +kernel
theorem dL_law_156 : decode cL_law 156 = .ok (.ireturn, 1) := by decide +kernel
theorem dL_law_157 : decode cL_law 157 = .ok (.aload_n 1, 1) := by decide +kernel
theorem dL_law_158 : decode cL_law 158 = .ok (.aload_n 0, 1) := by decide +kernel
theorem dL_law_159 : decode cL_law 159 = .ok (.iload 4, 2) := by decide +kernel
theorem dL_law_161 : decode cL_law 161 = .ok (.iconst 1, 1) := by decide +kernel
theorem dL_law_162 : decode cL_law 162 = .ok (.iadd, 1) := by decide +kernel
theorem dL_law_163 : decode cL_law 163 = .ok (.iaload, 1) := by decide +kernel
theorem dL_law_164 : decode cL_law 164 = .ok (.aload_n 0, 1) := by decide +kernel
theorem dL_law_165 : decode cL_law 165 = .ok (.iload 4, 2) := by decide +kernel
theorem dL_law_167 : decode cL_law 167 = .ok (.iconst 2, 1) := by decide +kernel
theorem dL_law_168 : decode cL_law 168 = .ok (.iadd, 1) := by decide +kernel
theorem dL_law_169 : decode cL_law 169 = .ok (.iaload, 1) := by decide +kernel
theorem dL_law_170 : decode cL_law 170 = .ok (.aload_n 0, 1) := by decide +kernel
theorem dL_law_171 : decode cL_law 171 = .ok (.iload 4, 2) := by decide +kernel
theorem dL_law_173 : decode cL_law 173 = .ok (.iconst 3, 1) := by decide +kernel
theorem dL_law_174 : decode cL_law 174 = .ok (.iadd, 1) := by decide +kernel
theorem dL_law_175 : decode cL_law 175 = .ok (.iaload, 1) := by decide +kernel
theorem dL_law_176 : decode cL_law 176 = .ok (.aload_n 0, 1) := by decide +kernel
theorem dL_law_177 : decode cL_law 177 = .ok (.iload 4, 2) := by decide +kernel
theorem dL_law_179 : decode cL_law 179 = .ok (.iconst 4, 1) := by decide +kernel
theorem dL_law_180 : decode cL_law 180 = .ok (.iadd, 1) := by decide +kernel
theorem dL_law_181 : decode cL_law 181 = .ok (.iaload, 1) := by decide +kernel
theorem dL_law_182 : decode cL_law 182 = .ok (.ifCond .eq 7, 3) := by decide +kernel
theorem dL_law_185 : decode cL_law 185 = .ok (.iconst 1, 1) := by decide +kernel
theorem dL_law_186 : decode cL_law 186 = .ok (.goto 4, 3) := by decide +kernel
theorem dL_law_189 : decode cL_law 189 = .ok (.iconst 0, 1) := by decide +kernel
theorem dL_law_190 : decode cL_law 190 = .ok (.invokevirtual 29, 3) := by decide +kernel
theorem dL_law_193 : decode cL_law 193 = .ok (.aload_n 2, 1) := by decide +kernel
theorem dL_law_194 : decode cL_law 194 = .ok (.aload_n 0, 1) := by decide +kernel
theorem dL_law_195 : decode cL_law 195 = .ok (.iload 4, 2) := by decide +kernel
theorem dL_law_197 : decode cL_law 197 = .ok (.iconst 1, 1) := by decide +kernel
theorem dL_law_198 : decode cL_law 198 = .ok (.iadd, 1) := by decide +kernel
theorem dL_law_199 : decode cL_law 199 = .ok (.iaload, 1) := by decide +kernel
theorem dL_law_200 : decode cL_law 200 = .ok (.aload_n 0, 1) := by decide +kernel
theorem dL_law_201 : decode cL_law 201 = .ok (.iload 4, 2) := by decide +kernel
theorem dL_law_203 : decode cL_law 203 = .ok (.iconst 2, 1) := by decide +kernel
theorem dL_law_204 : decode cL_law 204 = .ok (.iadd, 1) := by decide +kernel
theorem dL_law_205 : decode cL_law 205 = .ok (.iaload, 1) := by decide +kernel
theorem dL_law_206 : decode cL_law 206 = .ok (.aload_n 0, 1) := by decide +kernel
theorem dL_law_207 : decode cL_law 207 = .ok (.iload 4, 2) := by decide +kernel
theorem dL_law_209 : decode cL_law 209 = .ok (.iconst 3, 1) := by decide +kernel
theorem dL_law_210 : decode cL_law 210 = .ok (.iadd, 1) := by decide +kernel
theorem dL_law_211 : decode cL_law 211 = .ok (.iaload, 1) := by decide +kernel
theorem dL_law_212 : decode cL_law 212 = .ok (.aload_n 0, 1) := by decide +kernel
theorem dL_law_213 : decode cL_law 213 = .ok (.iload 4, 2) := by decide +kernel
theorem dL_law_215 : decode cL_law 215 = .ok (.iconst 4, 1) := by decide +kernel
theorem dL_law_216 : decode cL_law 216 = .ok (.iadd, 1) := by decide +kernel
theorem dL_law_217 : decode cL_law 217 = .ok (.iaload, 1) := by decide +kernel
theorem dL_law_218 : decode cL_law 218 = .ok (.ifCond .eq 7, 3) := by decide +kernel
theorem dL_law_221 : decode cL_law 221 = .ok (.iconst 1, 1) := by decide +kernel
theorem dL_law_222 : decode cL_law 222 = .ok (.goto 4, 3) := by decide +kernel
theorem dL_law_225 : decode cL_law 225 = .ok (.iconst 0, 1) := by decide +kernel
theorem dL_law_226 : decode cL_law 226 = .ok (.invokevirtual 33, 3) := by decide +kernel
theorem dL_law_229 : decode cL_law 229 = .ok (.if_icmp .eq 569, 3) := by decide +kernel
theorem dL_law_232 : decode cL_law 232 = .ok (.iconst 0, 1) := by decide +kernel
theorem dL_law_233 : decode cL_law 233 = .ok (.ireturn, 1) := by decide +kernel
theorem dL_law_234 : decode cL_law 234 = .ok (.aload_n 1, 1) := by decide +kernel
theorem dL_law_235 : decode cL_law 235 = .ok (.aload_n 0, 1) := by decide +kernel
theorem dL_law_236 : decode cL_law 236 = .ok (.iload 4, 2) := by decide +kernel
theorem dL_law_238 : decode cL_law 238 = .ok (.iconst 1, 1) := by decide +kernel
theorem dL_law_239 : decode cL_law 239 = .ok (.iadd, 1) := by decide +kernel
theorem dL_law_240 : decode cL_law 240 = .ok (.iaload, 1) := by decide +kernel
theorem dL_law_241 : decode cL_law 241 = .ok (.invokevirtual 34, 3) := by decide +kernel
theorem dL_law_244 : decode cL_law 244 = .ok (.aload_n 2, 1) := by decide +kernel
theorem dL_law_245 : decode cL_law 245 = .ok (.aload_n 0, 1) := by decide +kernel
theorem dL_law_246 : decode cL_law 246 = .ok (.iload 4, 2) := by decide +kernel
theorem dL_law_248 : decode cL_law 248 = .ok (.iconst 1, 1) := by decide +kernel
theorem dL_law_249 : decode cL_law 249 = .ok (.iadd, 1) := by decide +kernel
theorem dL_law_250 : decode cL_law 250 = .ok (.iaload, 1) := by decide +kernel
theorem dL_law_251 : decode cL_law 251 = .ok (.invokevirtual 37, 3) := by decide +kernel
theorem dL_law_254 : decode cL_law 254 = .ok (.if_icmp .eq 544, 3) := by decide +kernel
theorem dL_law_257 : decode cL_law 257 = .ok (.iconst 0, 1) := by decide +kernel
theorem dL_law_258 : decode cL_law 258 = .ok (.ireturn, 1) := by decide +kernel
theorem dL_law_259 : decode cL_law 259 = .ok (.aload_n 1, 1) := by decide +kernel
theorem dL_law_260 : decode cL_law 260 = .ok (.aload_n 0, 1) := by decide +kernel
theorem dL_law_261 : decode cL_law 261 = .ok (.iload 4, 2) := by decide +kernel
theorem dL_law_263 : decode cL_law 263 = .ok (.iconst 1, 1) := by decide +kernel
theorem dL_law_264 : decode cL_law 264 = .ok (.iadd, 1) := by decide +kernel
theorem dL_law_265 : decode cL_law 265 = .ok (.iaload, 1) := by decide +kernel
theorem dL_law_266 : decode cL_law 266 = .ok (.aload_n 0, 1) := by decide +kernel
theorem dL_law_267 : decode cL_law 267 = .ok (.iload 4, 2) := by decide +kernel
theorem dL_law_269 : decode cL_law 269 = .ok (.iconst 2, 1) := by decide +kernel
theorem dL_law_270 : decode cL_law 270 = .ok (.iadd, 1) := by decide +kernel
theorem dL_law_271 : decode cL_law 271 = .ok (.iaload, 1) := by decide +kernel
theorem dL_law_272 : decode cL_law 272 = .ok (.invokevirtual 38, 3) := by decide +kernel
theorem dL_law_275 : decode cL_law 275 = .ok (.aload_n 2, 1) := by decide +kernel
theorem dL_law_276 : decode cL_law 276 = .ok (.aload_n 0, 1) := by decide +kernel
theorem dL_law_277 : decode cL_law 277 = .ok (.iload 4, 2) := by decide +kernel
theorem dL_law_279 : decode cL_law 279 = .ok (.iconst 1, 1) := by decide +kernel
theorem dL_law_280 : decode cL_law 280 = .ok (.iadd, 1) := by decide +kernel
theorem dL_law_281 : decode cL_law 281 = .ok (.iaload, 1) := by decide +kernel
theorem dL_law_282 : decode cL_law 282 = .ok (.aload_n 0, 1) := by decide +kernel
theorem dL_law_283 : decode cL_law 283 = .ok (.iload 4, 2) := by decide +kernel
theorem dL_law_285 : decode cL_law 285 = .ok (.iconst 2, 1) := by decide +kernel
theorem dL_law_286 : decode cL_law 286 = .ok (.iadd, 1) := by decide +kernel
theorem dL_law_287 : decode cL_law 287 = .ok (.iaload, 1) := by decide +kernel
theorem dL_law_288 : decode cL_law 288 = .ok (.invokevirtual 41, 3) := by decide +kernel
theorem dL_law_291 : decode cL_law 291 = .ok (.if_icmp .eq 507, 3) := by decide +kernel
theorem dL_law_294 : decode cL_law 294 = .ok (.iconst 0, 1) := by decide +kernel
theorem dL_law_295 : decode cL_law 295 = .ok (.ireturn, 1) := by decide +kernel
theorem dL_law_296 : decode cL_law 296 = .ok (.aload_n 1, 1) := by decide +kernel
theorem dL_law_297 : decode cL_law 297 = .ok (.aload_n 0, 1) := by decide +kernel
theorem dL_law_298 : decode cL_law 298 = .ok (.iload 4, 2) := by decide +kernel
theorem dL_law_300 : decode cL_law 300 = .ok (.iconst 1, 1) := by decide +kernel
theorem dL_law_301 : decode cL_law 301 = .ok (.iadd, 1) := by decide +kernel
theorem dL_law_302 : decode cL_law 302 = .ok (.iaload, 1) := by decide +kernel
theorem dL_law_303 : decode cL_law 303 = .ok (.aload_n 0, 1) := by decide +kernel
theorem dL_law_304 : decode cL_law 304 = .ok (.iload 4, 2) := by decide +kernel
theorem dL_law_306 : decode cL_law 306 = .ok (.iconst 2, 1) := by decide +kernel
theorem dL_law_307 : decode cL_law 307 = .ok (.iadd, 1) := by decide +kernel
theorem dL_law_308 : decode cL_law 308 = .ok (.iaload, 1) := by decide +kernel
theorem dL_law_309 : decode cL_law 309 = .ok (.invokevirtual 42, 3) := by decide +kernel
theorem dL_law_312 : decode cL_law 312 = .ok (.aload_n 2, 1) := by decide +kernel
theorem dL_law_313 : decode cL_law 313 = .ok (.aload_n 0, 1) := by decide +kernel
theorem dL_law_314 : decode cL_law 314 = .ok (.iload 4, 2) := by decide +kernel
theorem dL_law_316 : decode cL_law 316 = .ok (.iconst 1, 1) := by decide +kernel
theorem dL_law_317 : decode cL_law 317 = .ok (.iadd, 1) := by decide +kernel
theorem dL_law_318 : decode cL_law 318 = .ok (.iaload, 1) := by decide +kernel
theorem dL_law_319 : decode cL_law 319 = .ok (.aload_n 0, 1) := by decide +kernel
theorem dL_law_320 : decode cL_law 320 = .ok (.iload 4, 2) := by decide +kernel
theorem dL_law_322 : decode cL_law 322 = .ok (.iconst 2, 1) := by decide +kernel
theorem dL_law_323 : decode cL_law 323 = .ok (.iadd, 1) := by decide +kernel
theorem dL_law_324 : decode cL_law 324 = .ok (.iaload, 1) := by decide +kernel
theorem dL_law_325 : decode cL_law 325 = .ok (.invokevirtual 45, 3) := by decide +kernel
theorem dL_law_328 : decode cL_law 328 = .ok (.if_icmp .eq 470, 3) := by decide +kernel
theorem dL_law_331 : decode cL_law 331 = .ok (.iconst 0, 1) := by decide +kernel
theorem dL_law_332 : decode cL_law 332 = .ok (.ireturn, 1) := by decide +kernel
theorem dL_law_333 : decode cL_law 333 = .ok (.aload_n 1, 1) := by decide +kernel
theorem dL_law_334 : decode cL_law 334 = .ok (.aload_n 0, 1) := by decide +kernel
theorem dL_law_335 : decode cL_law 335 = .ok (.iload 4, 2) := by decide +kernel
theorem dL_law_337 : decode cL_law 337 = .ok (.iconst 1, 1) := by decide +kernel
theorem dL_law_338 : decode cL_law 338 = .ok (.iadd, 1) := by decide +kernel
theorem dL_law_339 : decode cL_law 339 = .ok (.iaload, 1) := by decide +kernel
theorem dL_law_340 : decode cL_law 340 = .ok (.invokevirtual 46, 3) := by decide +kernel
theorem dL_law_343 : decode cL_law 343 = .ok (.aload_n 2, 1) := by decide +kernel
theorem dL_law_344 : decode cL_law 344 = .ok (.aload_n 0, 1) := by decide +kernel
theorem dL_law_345 : decode cL_law 345 = .ok (.iload 4, 2) := by decide +kernel
theorem dL_law_347 : decode cL_law 347 = .ok (.iconst 1, 1) := by decide +kernel
theorem dL_law_348 : decode cL_law 348 = .ok (.iadd, 1) := by decide +kernel
theorem dL_law_349 : decode cL_law 349 = .ok (.iaload, 1) := by decide +kernel
theorem dL_law_350 : decode cL_law 350 = .ok (.invokevirtual 49, 3) := by decide +kernel
theorem dL_law_353 : decode cL_law 353 = .ok (.if_icmp .eq 445, 3) := by decide +kernel
theorem dL_law_356 : decode cL_law 356 = .ok (.iconst 0, 1) := by decide +kernel
theorem dL_law_357 : decode cL_law 357 = .ok (.ireturn, 1) := by decide +kernel
theorem dL_law_358 : decode cL_law 358 = .ok (.aload_n 1, 1) := by decide +kernel
theorem dL_law_359 : decode cL_law 359 = .ok (.aload_n 0, 1) := by decide +kernel
theorem dL_law_360 : decode cL_law 360 = .ok (.iload 4, 2) := by decide +kernel
theorem dL_law_362 : decode cL_law 362 = .ok (.iconst 1, 1) := by decide +kernel
theorem dL_law_363 : decode cL_law 363 = .ok (.iadd, 1) := by decide +kernel
theorem dL_law_364 : decode cL_law 364 = .ok (.iaload, 1) := by decide +kernel
theorem dL_law_365 : decode cL_law 365 = .ok (.invokevirtual 50, 3) := by decide +kernel
theorem dL_law_368 : decode cL_law 368 = .ok (.aload_n 2, 1) := by decide +kernel
theorem dL_law_369 : decode cL_law 369 = .ok (.aload_n 0, 1) := by decide +kernel
theorem dL_law_370 : decode cL_law 370 = .ok (.iload 4, 2) := by decide +kernel
theorem dL_law_372 : decode cL_law 372 = .ok (.iconst 1, 1) := by decide +kernel
theorem dL_law_373 : decode cL_law 373 = .ok (.iadd, 1) := by decide +kernel
theorem dL_law_374 : decode cL_law 374 = .ok (.iaload, 1) := by decide +kernel
theorem dL_law_375 : decode cL_law 375 = .ok (.invokevirtual 53, 3) := by decide +kernel
theorem dL_law_378 : decode cL_law 378 = .ok (.if_icmp .eq 420, 3) := by decide +kernel
theorem dL_law_381 : decode cL_law 381 = .ok (.iconst 0, 1) := by decide +kernel
theorem dL_law_382 : decode cL_law 382 = .ok (.ireturn, 1) := by decide +kernel
theorem dL_law_383 : decode cL_law 383 = .ok (.aload_n 1, 1) := by decide +kernel
theorem dL_law_384 : decode cL_law 384 = .ok (.aload_n 0, 1) := by decide +kernel
theorem dL_law_385 : decode cL_law 385 = .ok (.iload 4, 2) := by decide +kernel
theorem dL_law_387 : decode cL_law 387 = .ok (.iconst 1, 1) := by decide +kernel
theorem dL_law_388 : decode cL_law 388 = .ok (.iadd, 1) := by decide +kernel
theorem dL_law_389 : decode cL_law 389 = .ok (.iaload, 1) := by decide +kernel
theorem dL_law_390 : decode cL_law 390 = .ok (.aload_n 0, 1) := by decide +kernel
theorem dL_law_391 : decode cL_law 391 = .ok (.iload 4, 2) := by decide +kernel
theorem dL_law_393 : decode cL_law 393 = .ok (.iconst 2, 1) := by decide +kernel
theorem dL_law_394 : decode cL_law 394 = .ok (.iadd, 1) := by decide +kernel
theorem dL_law_395 : decode cL_law 395 = .ok (.iaload, 1) := by decide +kernel
theorem dL_law_396 : decode cL_law 396 = .ok (.ifCond .eq 7, 3) := by decide +kernel
theorem dL_law_399 : decode cL_law 399 = .ok (.iconst 1, 1) := by decide +kernel
theorem dL_law_400 : decode cL_law 400 = .ok (.goto 4, 3) := by decide +kernel
theorem dL_law_403 : decode cL_law 403 = .ok (.iconst 0, 1) := by decide +kernel
theorem dL_law_404 : decode cL_law 404 = .ok (.invokevirtual 54, 3) := by decide +kernel
theorem dL_law_407 : decode cL_law 407 = .ok (.aload_n 2, 1) := by decide +kernel
theorem dL_law_408 : decode cL_law 408 = .ok (.aload_n 0, 1) := by decide +kernel
theorem dL_law_409 : decode cL_law 409 = .ok (.iload 4, 2) := by decide +kernel
theorem dL_law_411 : decode cL_law 411 = .ok (.iconst 1, 1) := by decide +kernel
theorem dL_law_412 : decode cL_law 412 = .ok (.iadd, 1) := by decide +kernel
theorem dL_law_413 : decode cL_law 413 = .ok (.iaload, 1) := by decide +kernel
theorem dL_law_414 : decode cL_law 414 = .ok (.aload_n 0, 1) := by decide +kernel
theorem dL_law_415 : decode cL_law 415 = .ok (.iload 4, 2) := by decide +kernel
theorem dL_law_417 : decode cL_law 417 = .ok (.iconst 2, 1) := by decide +kernel
theorem dL_law_418 : decode cL_law 418 = .ok (.iadd, 1) := by decide +kernel
theorem dL_law_419 : decode cL_law 419 = .ok (.iaload, 1) := by decide +kernel
theorem dL_law_420 : decode cL_law 420 = .ok (.ifCond .eq 7, 3) := by decide +kernel
theorem dL_law_423 : decode cL_law 423 = .ok (.iconst 1, 1) := by decide +kernel
theorem dL_law_424 : decode cL_law 424 = .ok (.goto 4, 3) := by decide +kernel
theorem dL_law_427 : decode cL_law 427 = .ok (.iconst 0, 1) := by decide +kernel
theorem dL_law_428 : decode cL_law 428 = .ok (.invokevirtual 58, 3) := by decide +kernel
theorem dL_law_431 : decode cL_law 431 = .ok (.if_icmp .eq 367, 3) := by decide +kernel
theorem dL_law_434 : decode cL_law 434 = .ok (.iconst 0, 1) := by decide +kernel
theorem dL_law_435 : decode cL_law 435 = .ok (.ireturn, 1) := by decide +kernel
theorem dL_law_436 : decode cL_law 436 = .ok (.aload_n 1, 1) := by decide +kernel
theorem dL_law_437 : decode cL_law 437 = .ok (.invokevirtual 59, 3) := by decide +kernel
theorem dL_law_440 : decode cL_law 440 = .ok (.aload_n 2, 1) := by decide +kernel
theorem dL_law_441 : decode cL_law 441 = .ok (.invokevirtual 63, 3) := by decide +kernel
theorem dL_law_444 : decode cL_law 444 = .ok (.if_icmp .eq 354, 3) := by decide +kernel
theorem dL_law_447 : decode cL_law 447 = .ok (.iconst 0, 1) := by decide +kernel
theorem dL_law_448 : decode cL_law 448 = .ok (.ireturn, 1) := by decide +kernel
theorem dL_law_449 : decode cL_law 449 = .ok (.aload_n 1, 1) := by decide +kernel
theorem dL_law_450 : decode cL_law 450 = .ok (.aload_n 0, 1) := by decide +kernel
theorem dL_law_451 : decode cL_law 451 = .ok (.iload 4, 2) := by decide +kernel
theorem dL_law_453 : decode cL_law 453 = .ok (.iconst 1, 1) := by decide +kernel
theorem dL_law_454 : decode cL_law 454 = .ok (.iadd, 1) := by decide +kernel
theorem dL_law_455 : decode cL_law 455 = .ok (.iaload, 1) := by decide +kernel
theorem dL_law_456 : decode cL_law 456 = .ok (.invokevirtual 64, 3) := by decide +kernel
theorem dL_law_459 : decode cL_law 459 = .ok (.aload_n 2, 1) := by decide +kernel
theorem dL_law_460 : decode cL_law 460 = .ok (.aload_n 0, 1) := by decide +kernel
theorem dL_law_461 : decode cL_law 461 = .ok (.iload 4, 2) := by decide +kernel
theorem dL_law_463 : decode cL_law 463 = .ok (.iconst 1, 1) := by decide +kernel
theorem dL_law_464 : decode cL_law 464 = .ok (.iadd, 1) := by decide +kernel
theorem dL_law_465 : decode cL_law 465 = .ok (.iaload, 1) := by decide +kernel
theorem dL_law_466 : decode cL_law 466 = .ok (.invokevirtual 67, 3) := by decide +kernel
theorem dL_law_469 : decode cL_law 469 = .ok (.if_icmp .eq 329, 3) := by decide +kernel
theorem dL_law_472 : decode cL_law 472 = .ok (.iconst 0, 1) := by decide +kernel
theorem dL_law_473 : decode cL_law 473 = .ok (.ireturn, 1) := by decide +kernel
theorem dL_law_474 : decode cL_law 474 = .ok (.aload_n 1, 1) := by decide +kernel
theorem dL_law_475 : decode cL_law 475 = .ok (.aload_n 0, 1) := by decide +kernel
theorem dL_law_476 : decode cL_law 476 = .ok (.iload 4, 2) := by decide +kernel
theorem dL_law_478 : decode cL_law 478 = .ok (.iconst 1, 1) := by decide +kernel
theorem dL_law_479 : decode cL_law 479 = .ok (.iadd, 1) := by decide +kernel
theorem dL_law_480 : decode cL_law 480 = .ok (.iaload, 1) := by decide +kernel
theorem dL_law_481 : decode cL_law 481 = .ok (.invokevirtual 68, 3) := by decide +kernel
theorem dL_law_484 : decode cL_law 484 = .ok (.aload_n 2, 1) := by decide +kernel
theorem dL_law_485 : decode cL_law 485 = .ok (.aload_n 0, 1) := by decide +kernel
theorem dL_law_486 : decode cL_law 486 = .ok (.iload 4, 2) := by decide +kernel
theorem dL_law_488 : decode cL_law 488 = .ok (.iconst 1, 1) := by decide +kernel
theorem dL_law_489 : decode cL_law 489 = .ok (.iadd, 1) := by decide +kernel
theorem dL_law_490 : decode cL_law 490 = .ok (.iaload, 1) := by decide +kernel
theorem dL_law_491 : decode cL_law 491 = .ok (.invokevirtual 71, 3) := by decide +kernel
theorem dL_law_494 : decode cL_law 494 = .ok (.if_icmp .eq 304, 3) := by decide +kernel
theorem dL_law_497 : decode cL_law 497 = .ok (.iconst 0, 1) := by decide +kernel
theorem dL_law_498 : decode cL_law 498 = .ok (.ireturn, 1) := by decide +kernel
theorem dL_law_499 : decode cL_law 499 = .ok (.aload_n 1, 1) := by decide +kernel
theorem dL_law_500 : decode cL_law 500 = .ok (.aload_n 0, 1) := by decide +kernel
theorem dL_law_501 : decode cL_law 501 = .ok (.iload 4, 2) := by decide +kernel
theorem dL_law_503 : decode cL_law 503 = .ok (.iconst 1, 1) := by decide +kernel
theorem dL_law_504 : decode cL_law 504 = .ok (.iadd, 1) := by decide +kernel
theorem dL_law_505 : decode cL_law 505 = .ok (.iaload, 1) := by decide +kernel
theorem dL_law_506 : decode cL_law 506 = .ok (.invokevirtual 72, 3) := by decide +kernel
theorem dL_law_509 : decode cL_law 509 = .ok (.aload_n 2, 1) := by decide +kernel
theorem dL_law_510 : decode cL_law 510 = .ok (.aload_n 0, 1) := by decide +kernel
theorem dL_law_511 : decode cL_law 511 = .ok (.iload 4, 2) := by decide +kernel
theorem dL_law_513 : decode cL_law 513 = .ok (.iconst 1, 1) := by decide +kernel
theorem dL_law_514 : decode cL_law 514 = .ok (.iadd, 1) := by decide +kernel
theorem dL_law_515 : decode cL_law 515 = .ok (.iaload, 1) := by decide +kernel
theorem dL_law_516 : decode cL_law 516 = .ok (.invokevirtual 75, 3) := by decide +kernel
theorem dL_law_519 : decode cL_law 519 = .ok (.if_icmp .eq 279, 3) := by decide +kernel
theorem dL_law_522 : decode cL_law 522 = .ok (.iconst 0, 1) := by decide +kernel
theorem dL_law_523 : decode cL_law 523 = .ok (.ireturn, 1) := by decide +kernel
theorem dL_law_524 : decode cL_law 524 = .ok (.aload_n 1, 1) := by decide +kernel
theorem dL_law_525 : decode cL_law 525 = .ok (.aload_n 0, 1) := by decide +kernel
theorem dL_law_526 : decode cL_law 526 = .ok (.iload 4, 2) := by decide +kernel
theorem dL_law_528 : decode cL_law 528 = .ok (.iconst 1, 1) := by decide +kernel
theorem dL_law_529 : decode cL_law 529 = .ok (.iadd, 1) := by decide +kernel
theorem dL_law_530 : decode cL_law 530 = .ok (.iaload, 1) := by decide +kernel
theorem dL_law_531 : decode cL_law 531 = .ok (.aload_n 0, 1) := by decide +kernel
theorem dL_law_532 : decode cL_law 532 = .ok (.iload 4, 2) := by decide +kernel
theorem dL_law_534 : decode cL_law 534 = .ok (.iconst 2, 1) := by decide +kernel
theorem dL_law_535 : decode cL_law 535 = .ok (.iadd, 1) := by decide +kernel
theorem dL_law_536 : decode cL_law 536 = .ok (.iaload, 1) := by decide +kernel
theorem dL_law_537 : decode cL_law 537 = .ok (.invokevirtual 76, 3) := by decide +kernel
theorem dL_law_540 : decode cL_law 540 = .ok (.aload_n 2, 1) := by decide +kernel
theorem dL_law_541 : decode cL_law 541 = .ok (.aload_n 0, 1) := by decide +kernel
theorem dL_law_542 : decode cL_law 542 = .ok (.iload 4, 2) := by decide +kernel
theorem dL_law_544 : decode cL_law 544 = .ok (.iconst 1, 1) := by decide +kernel
theorem dL_law_545 : decode cL_law 545 = .ok (.iadd, 1) := by decide +kernel
theorem dL_law_546 : decode cL_law 546 = .ok (.iaload, 1) := by decide +kernel
theorem dL_law_547 : decode cL_law 547 = .ok (.aload_n 0, 1) := by decide +kernel
theorem dL_law_548 : decode cL_law 548 = .ok (.iload 4, 2) := by decide +kernel
theorem dL_law_550 : decode cL_law 550 = .ok (.iconst 2, 1) := by decide +kernel
theorem dL_law_551 : decode cL_law 551 = .ok (.iadd, 1) := by decide +kernel
theorem dL_law_552 : decode cL_law 552 = .ok (.iaload, 1) := by decide +kernel
theorem dL_law_553 : decode cL_law 553 = .ok (.invokevirtual 79, 3) := by decide +kernel
theorem dL_law_556 : decode cL_law 556 = .ok (.if_icmp .eq 242, 3) := by decide +kernel
theorem dL_law_559 : decode cL_law 559 = .ok (.iconst 0, 1) := by decide +kernel
theorem dL_law_560 : decode cL_law 560 = .ok (.ireturn, 1) := by decide +kernel
theorem dL_law_561 : decode cL_law 561 = .ok (.aload_n 1, 1) := by decide +kernel
theorem dL_law_562 : decode cL_law 562 = .ok (.aload_n 0, 1) := by decide +kernel
theorem dL_law_563 : decode cL_law 563 = .ok (.iload 4, 2) := by decide +kernel
theorem dL_law_565 : decode cL_law 565 = .ok (.iconst 1, 1) := by decide +kernel
theorem dL_law_566 : decode cL_law 566 = .ok (.iadd, 1) := by decide +kernel
theorem dL_law_567 : decode cL_law 567 = .ok (.iaload, 1) := by decide +kernel
theorem dL_law_568 : decode cL_law 568 = .ok (.invokevirtual 80, 3) := by decide +kernel
theorem dL_law_571 : decode cL_law 571 = .ok (.aload_n 2, 1) := by decide +kernel
theorem dL_law_572 : decode cL_law 572 = .ok (.aload_n 0, 1) := by decide +kernel
theorem dL_law_573 : decode cL_law 573 = .ok (.iload 4, 2) := by decide +kernel
theorem dL_law_575 : decode cL_law 575 = .ok (.iconst 1, 1) := by decide +kernel
theorem dL_law_576 : decode cL_law 576 = .ok (.iadd, 1) := by decide +kernel
theorem dL_law_577 : decode cL_law 577 = .ok (.iaload, 1) := by decide +kernel
theorem dL_law_578 : decode cL_law 578 = .ok (.invokevirtual 83, 3) := by decide +kernel
theorem dL_law_581 : decode cL_law 581 = .ok (.if_icmp .eq 217, 3) := by decide +kernel
theorem dL_law_584 : decode cL_law 584 = .ok (.iconst 0, 1) := by decide +kernel
theorem dL_law_585 : decode cL_law 585 = .ok (.ireturn, 1) := by decide +kernel
theorem dL_law_586 : decode cL_law 586 = .ok (.aload_n 1, 1) := by decide +kernel
theorem dL_law_587 : decode cL_law 587 = .ok (.aload_n 0, 1) := by decide +kernel
theorem dL_law_588 : decode cL_law 588 = .ok (.iload 4, 2) := by decide +kernel
theorem dL_law_590 : decode cL_law 590 = .ok (.iconst 1, 1) := by decide +kernel
theorem dL_law_591 : decode cL_law 591 = .ok (.iadd, 1) := by decide +kernel
theorem dL_law_592 : decode cL_law 592 = .ok (.iaload, 1) := by decide +kernel
theorem dL_law_593 : decode cL_law 593 = .ok (.aload_n 0, 1) := by decide +kernel
theorem dL_law_594 : decode cL_law 594 = .ok (.iload 4, 2) := by decide +kernel
theorem dL_law_596 : decode cL_law 596 = .ok (.iconst 2, 1) := by decide +kernel
theorem dL_law_597 : decode cL_law 597 = .ok (.iadd, 1) := by decide +kernel
theorem dL_law_598 : decode cL_law 598 = .ok (.iaload, 1) := by decide +kernel
