theorem dX11_offGoes_78 : decode cX11_offGoes 78 = .ok (.iconst 1, 1) := by decide +kernel
theorem dX11_offGoes_79 : decode cX11_offGoes 79 = .ok (.goto 4, 3) := by decide +kernel
theorem dX11_offGoes_82 : decode cX11_offGoes 82 = .ok (.iconst 0, 1) := by decide +kernel
theorem dX11_offGoes_83 : decode cX11_offGoes 83 = .ok (.bastore, 1) := by decide +kernel
theorem dX11_offGoes_84 : decode cX11_offGoes 84 = .ok (.aload_n 0, 1) := by decide +kernel
theorem dX11_offGoes_85 : decode cX11_offGoes 85 = .ok (.getfield 26, 3) := by decide +kernel
theorem dX11_offGoes_88 : decode cX11_offGoes 88 = .ok (.iload_n 3, 1) := by decide +kernel
theorem dX11_offGoes_89 : decode cX11_offGoes 89 = .ok (.iaload, 1) := by decide +kernel
theorem dX11_offGoes_90 : decode cX11_offGoes 90 = .ok (.ifCond .ne 16, 3) := by decide +kernel
theorem dX11_offGoes_93 : decode cX11_offGoes 93 = .ok (.aload_n 0, 1) := by decide +kernel
theorem dX11_offGoes_94 : decode cX11_offGoes 94 = .ok (.getfield 56, 3) := by decide +kernel
theorem dX11_offGoes_97 : decode cX11_offGoes 97 = .ok (.iload_n 3, 1) := by decide +kernel
theorem dX11_offGoes_98 : decode cX11_offGoes 98 = .ok (.dup2, 1) := by decide +kernel
theorem dX11_offGoes_99 : decode cX11_offGoes 99 = .ok (.iaload, 1) := by decide +kernel
theorem dX11_offGoes_100 : decode cX11_offGoes 100 = .ok (.iconst 1, 1) := by decide +kernel
theorem dX11_offGoes_101 : decode cX11_offGoes 101 = .ok (.iadd, 1) := by decide +kernel
theorem dX11_offGoes_102 : decode cX11_offGoes 102 = .ok (.iastore, 1) := by decide +kernel
theorem dX11_offGoes_103 : decode cX11_offGoes 103 = .ok (.goto 89, 3) := by decide +kernel
theorem dX11_offGoes_106 : decode cX11_offGoes 106 = .ok (.aload_n 0, 1) := by decide +kernel
theorem dX11_offGoes_107 : decode cX11_offGoes 107 = .ok (.getfield 26, 3) := by decide +kernel
theorem dX11_offGoes_110 : decode cX11_offGoes 110 = .ok (.iload_n 3, 1) := by decide +kernel
theorem dX11_offGoes_111 : decode cX11_offGoes 111 = .ok (.iaload, 1) := by decide +kernel
theorem dX11_offGoes_112 : decode cX11_offGoes 112 = .ok (.iconst 2, 1) := by decide +kernel
theorem dX11_offGoes_113 : decode cX11_offGoes 113 = .ok (.if_icmp .ne 33, 3) := by decide +kernel
theorem dX11_offGoes_116 : decode cX11_offGoes 116 = .ok (.aload_n 0, 1) := by decide +kernel
theorem dX11_offGoes_117 : decode cX11_offGoes 117 = .ok (.getfield 56, 3) := by decide +kernel
theorem dX11_offGoes_120 : decode cX11_offGoes 120 = .ok (.iload_n 3, 1) := by decide +kernel
theorem dX11_offGoes_121 : decode cX11_offGoes 121 = .ok (.aload_n 0, 1) := by decide +kernel
theorem dX11_offGoes_122 : decode cX11_offGoes 122 = .ok (.getfield 32, 3) := by decide +kernel
theorem dX11_offGoes_125 : decode cX11_offGoes 125 = .ok (.bipush 24, 2) := by decide +kernel
theorem dX11_offGoes_127 : decode cX11_offGoes 127 = .ok (.iload_n 3, 1) := by decide +kernel
theorem dX11_offGoes_128 : decode cX11_offGoes 128 = .ok (.imul, 1) := by decide +kernel
theorem dX11_offGoes_129 : decode cX11_offGoes 129 = .ok (.iload 4, 2) := by decide +kernel
theorem dX11_offGoes_131 : decode cX11_offGoes 131 = .ok (.iconst 1, 1) := by decide +kernel
theorem dX11_offGoes_132 : decode cX11_offGoes 132 = .ok (.isub, 1) := by decide +kernel
theorem dX11_offGoes_133 : decode cX11_offGoes 133 = .ok (.aload_n 0, 1) := by decide +kernel
theorem dX11_offGoes_134 : decode cX11_offGoes 134 = .ok (.getfield 29, 3) := by decide +kernel
theorem dX11_offGoes_137 : decode cX11_offGoes 137 = .ok (.iload_n 3, 1) := by decide +kernel
theorem dX11_offGoes_138 : decode cX11_offGoes 138 = .ok (.iaload, 1) := by decide +kernel
theorem dX11_offGoes_139 : decode cX11_offGoes 139 = .ok (.irem, 1) := by decide +kernel
theorem dX11_offGoes_140 : decode cX11_offGoes 140 = .ok (.iadd, 1) := by decide +kernel
theorem dX11_offGoes_141 : decode cX11_offGoes 141 = .ok (.iaload, 1) := by decide +kernel
theorem dX11_offGoes_142 : decode cX11_offGoes 142 = .ok (.iastore, 1) := by decide +kernel
theorem dX11_offGoes_143 : decode cX11_offGoes 143 = .ok (.goto 49, 3) := by decide +kernel
theorem dX11_offGoes_146 : decode cX11_offGoes 146 = .ok (.aload_n 0, 1) := by decide +kernel
theorem dX11_offGoes_147 : decode cX11_offGoes 147 = .ok (.getfield 56, 3) := by decide +kernel
theorem dX11_offGoes_150 : decode cX11_offGoes 150 = .ok (.iload_n 3, 1) := by decide +kernel
theorem dX11_offGoes_151 : decode cX11_offGoes 151 = .ok (.dup2, 1) := by decide +kernel
theorem dX11_offGoes_152 : decode cX11_offGoes 152 = .ok (.iaload, 1) := by decide +kernel
theorem dX11_offGoes_153 : decode cX11_offGoes 153 = .ok (.aload_n 0, 1) := by decide +kernel
theorem dX11_offGoes_154 : decode cX11_offGoes 154 = .ok (.getfield 32, 3) := by decide +kernel
theorem dX11_offGoes_157 : decode cX11_offGoes 157 = .ok (.bipush 24, 2) := by decide +kernel
theorem dX11_offGoes_159 : decode cX11_offGoes 159 = .ok (.iload_n 3, 1) := by decide +kernel
theorem dX11_offGoes_160 : decode cX11_offGoes 160 = .ok (.imul, 1) := by decide +kernel
theorem dX11_offGoes_161 : decode cX11_offGoes 161 = .ok (.aload_n 0, 1) := by decide +kernel
theorem dX11_offGoes_162 : decode cX11_offGoes 162 = .ok (.getfield 35, 3) := by decide +kernel
theorem dX11_offGoes_165 : decode cX11_offGoes 165 = .ok (.iload_n 3, 1) := by decide +kernel
theorem dX11_offGoes_166 : decode cX11_offGoes 166 = .ok (.iaload, 1) := by decide +kernel
theorem dX11_offGoes_167 : decode cX11_offGoes 167 = .ok (.iadd, 1) := by decide +kernel
theorem dX11_offGoes_168 : decode cX11_offGoes 168 = .ok (.iaload, 1) := by decide +kernel
theorem dX11_offGoes_169 : decode cX11_offGoes 169 = .ok (.iadd, 1) := by decide +kernel
theorem dX11_offGoes_170 : decode cX11_offGoes 170 = .ok (.iastore, 1) := by decide +kernel
theorem dX11_offGoes_171 : decode cX11_offGoes 171 = .ok (.aload_n 0, 1) := by decide +kernel
theorem dX11_offGoes_172 : decode cX11_offGoes 172 = .ok (.getfield 35, 3) := by decide +kernel
theorem dX11_offGoes_175 : decode cX11_offGoes 175 = .ok (.iload_n 3, 1) := by decide +kernel
theorem dX11_offGoes_176 : decode cX11_offGoes 176 = .ok (.aload_n 0, 1) := by decide +kernel
theorem dX11_offGoes_177 : decode cX11_offGoes 177 = .ok (.getfield 35, 3) := by decide +kernel
theorem dX11_offGoes_180 : decode cX11_offGoes 180 = .ok (.iload_n 3, 1) := by decide +kernel
theorem dX11_offGoes_181 : decode cX11_offGoes 181 = .ok (.iaload, 1) := by decide +kernel
theorem dX11_offGoes_182 : decode cX11_offGoes 182 = .ok (.iconst 1, 1) := by decide +kernel
theorem dX11_offGoes_183 : decode cX11_offGoes 183 = .ok (.iadd, 1) := by decide +kernel
theorem dX11_offGoes_184 : decode cX11_offGoes 184 = .ok (.aload_n 0, 1) := by decide +kernel
theorem dX11_offGoes_185 : decode cX11_offGoes 185 = .ok (.getfield 29, 3) := by decide +kernel
theorem dX11_offGoes_188 : decode cX11_offGoes 188 = .ok (.iload_n 3, 1) := by decide +kernel
theorem dX11_offGoes_189 : decode cX11_offGoes 189 = .ok (.iaload, 1) := by decide +kernel
theorem dX11_offGoes_190 : decode cX11_offGoes 190 = .ok (.irem, 1) := by decide +kernel
theorem dX11_offGoes_191 : decode cX11_offGoes 191 = .ok (.iastore, 1) := by decide +kernel
theorem dX11_offGoes_192 : decode cX11_offGoes 192 = .ok (.return_, 1) := by decide +kernel
theorem dX11_warnedGoes_0 : decode cX11_warnedGoes 0 = .ok (.aload_n 0, 1) := by decide +kernel
theorem dX11_warnedGoes_1 : decode cX11_warnedGoes 1 = .ok (.getfield 102, 3) := by decide +kernel
theorem dX11_warnedGoes_4 : decode cX11_warnedGoes 4 = .ok (.iload_n 1, 1) := by decide +kernel
theorem dX11_warnedGoes_5 : decode cX11_warnedGoes 5 = .ok (.iload_n 2, 1) := by decide +kernel
theorem dX11_warnedGoes_6 : decode cX11_warnedGoes 6 = .ok (.invokestatic 200, 3) := by decide +kernel
theorem dX11_warnedGoes_9 : decode cX11_warnedGoes 9 = .ok (.baload, 1) := by decide +kernel
theorem dX11_warnedGoes_10 : decode cX11_warnedGoes 10 = .ok (.ifCond .eq 29, 3) := by decide +kernel
theorem dX11_warnedGoes_13 : decode cX11_warnedGoes 13 = .ok (.aload_n 0, 1) := by decide +kernel
theorem dX11_warnedGoes_14 : decode cX11_warnedGoes 14 = .ok (.iload_n 1, 1) := by decide +kernel
theorem dX11_warnedGoes_15 : decode cX11_warnedGoes 15 = .ok (.invokevirtual 218, 3) := by decide +kernel
theorem dX11_warnedGoes_18 : decode cX11_warnedGoes 18 = .ok (.iconst 2, 1) := by decide +kernel
theorem dX11_warnedGoes_19 : decode cX11_warnedGoes 19 = .ok (.if_icmp .eq 20, 3) := by decide +kernel
theorem dX11_warnedGoes_22 : decode cX11_warnedGoes 22 = .ok (.aload_n 0, 1) := by decide +kernel
theorem dX11_warnedGoes_23 : decode cX11_warnedGoes 23 = .ok (.getfield 102, 3) := by decide +kernel
theorem dX11_warnedGoes_26 : decode cX11_warnedGoes 26 = .ok (.iload_n 1, 1) := by decide +kernel
theorem dX11_warnedGoes_27 : decode cX11_warnedGoes 27 = .ok (.iload_n 2, 1) := by decide +kernel
theorem dX11_warnedGoes_28 : decode cX11_warnedGoes 28 = .ok (.invokestatic 200, 3) := by decide +kernel
theorem dX11_warnedGoes_31 : decode cX11_warnedGoes 31 = .ok (.iconst 0, 1) := by decide +kernel
theorem dX11_warnedGoes_32 : decode cX11_warnedGoes 32 = .ok (.bastore, 1) := by decide +kernel
theorem dX11_warnedGoes_33 : decode cX11_warnedGoes 33 = .ok (.aload_n 0, 1) := by decide +kernel
theorem dX11_warnedGoes_34 : decode cX11_warnedGoes 34 = .ok (.iload_n 1, 1) := by decide +kernel
theorem dX11_warnedGoes_35 : decode cX11_warnedGoes 35 = .ok (.iload_n 2, 1) := by decide +kernel
theorem dX11_warnedGoes_36 : decode cX11_warnedGoes 36 = .ok (.invokevirtual 221, 3) := by decide +kernel
theorem dX11_warnedGoes_39 : decode cX11_warnedGoes 39 = .ok (.return_, 1) := by decide +kernel
theorem dX11_stepOn_0 : decode cX11_stepOn 0 = .ok (.aload_n 0, 1) := by decide +kernel
theorem dX11_stepOn_1 : decode cX11_stepOn 1 = .ok (.getfield 75, 3) := by decide +kernel
theorem dX11_stepOn_4 : decode cX11_stepOn 4 = .ok (.iload_n 1, 1) := by decide +kernel
theorem dX11_stepOn_5 : decode cX11_stepOn 5 = .ok (.aload_n 0, 1) := by decide +kernel
theorem dX11_stepOn_6 : decode cX11_stepOn 6 = .ok (.getfield 75, 3) := by decide +kernel
theorem dX11_stepOn_9 : decode cX11_stepOn 9 = .ok (.iload_n 1, 1) := by decide +kernel
theorem dX11_stepOn_10 : decode cX11_stepOn 10 = .ok (.iaload, 1) := by decide +kernel
theorem dX11_stepOn_11 : decode cX11_stepOn 11 = .ok (.iconst 1, 1) := by decide +kernel
theorem dX11_stepOn_12 : decode cX11_stepOn 12 = .ok (.iadd, 1) := by decide +kernel
theorem dX11_stepOn_13 : decode cX11_stepOn 13 = .ok (.sipush 1440, 3) := by decide +kernel
theorem dX11_stepOn_16 : decode cX11_stepOn 16 = .ok (.irem, 1) := by decide +kernel
theorem dX11_stepOn_17 : decode cX11_stepOn 17 = .ok (.iastore, 1) := by decide +kernel
theorem dX11_stepOn_18 : decode cX11_stepOn 18 = .ok (.aload_n 0, 1) := by decide +kernel
theorem dX11_stepOn_19 : decode cX11_stepOn 19 = .ok (.getfield 75, 3) := by decide +kernel
theorem dX11_stepOn_22 : decode cX11_stepOn 22 = .ok (.iload_n 1, 1) := by decide +kernel
theorem dX11_stepOn_23 : decode cX11_stepOn 23 = .ok (.iaload, 1) := by decide +kernel
theorem dX11_stepOn_24 : decode cX11_stepOn 24 = .ok (.bipush 60, 2) := by decide +kernel
theorem dX11_stepOn_26 : decode cX11_stepOn 26 = .ok (.irem, 1) := by decide +kernel
theorem dX11_stepOn_27 : decode cX11_stepOn 27 = .ok (.istore_n 2, 1) := by decide +kernel
theorem dX11_stepOn_28 : decode cX11_stepOn 28 = .ok (.aload_n 0, 1) := by decide +kernel
theorem dX11_stepOn_29 : decode cX11_stepOn 29 = .ok (.getfield 99, 3) := by decide +kernel
theorem dX11_stepOn_32 : decode cX11_stepOn 32 = .ok (.iconst 2, 1) := by decide +kernel
theorem dX11_stepOn_33 : decode cX11_stepOn 33 = .ok (.iload_n 1, 1) := by decide +kernel
theorem dX11_stepOn_34 : decode cX11_stepOn 34 = .ok (.imul, 1) := by decide +kernel
theorem dX11_stepOn_35 : decode cX11_stepOn 35 = .ok (.iconst 1, 1) := by decide +kernel
theorem dX11_stepOn_36 : decode cX11_stepOn 36 = .ok (.iadd, 1) := by decide +kernel
theorem dX11_stepOn_37 : decode cX11_stepOn 37 = .ok (.iaload, 1) := by decide +kernel
theorem dX11_stepOn_38 : decode cX11_stepOn 38 = .ok (.ifCond .lt 7, 3) := by decide +kernel
theorem dX11_stepOn_41 : decode cX11_stepOn 41 = .ok (.iconst 1, 1) := by decide +kernel
theorem dX11_stepOn_42 : decode cX11_stepOn 42 = .ok (.goto 4, 3) := by decide +kernel
theorem dX11_stepOn_45 : decode cX11_stepOn 45 = .ok (.iconst 0, 1) := by decide +kernel
theorem dX11_stepOn_46 : decode cX11_stepOn 46 = .ok (.istore_n 3, 1) := by decide +kernel
theorem dX11_stepOn_47 : decode cX11_stepOn 47 = .ok (.aload_n 0, 1) := by decide +kernel
theorem dX11_stepOn_48 : decode cX11_stepOn 48 = .ok (.getfield 99, 3) := by decide +kernel
theorem dX11_stepOn_51 : decode cX11_stepOn 51 = .ok (.iconst 2, 1) := by decide +kernel
theorem dX11_stepOn_52 : decode cX11_stepOn 52 = .ok (.iload_n 1, 1) := by decide +kernel
theorem dX11_stepOn_53 : decode cX11_stepOn 53 = .ok (.imul, 1) := by decide +kernel
theorem dX11_stepOn_54 : decode cX11_stepOn 54 = .ok (.iaload, 1) := by decide +kernel
theorem dX11_stepOn_55 : decode cX11_stepOn 55 = .ok (.ifCond .lt 11, 3) := by decide +kernel
theorem dX11_stepOn_58 : decode cX11_stepOn 58 = .ok (.iload_n 3, 1) := by decide +kernel
theorem dX11_stepOn_59 : decode cX11_stepOn 59 = .ok (.ifCond .ne 7, 3) := by decide +kernel
theorem dX11_stepOn_62 : decode cX11_stepOn 62 = .ok (.iconst 1, 1) := by decide +kernel
theorem dX11_stepOn_63 : decode cX11_stepOn 63 = .ok (.goto 4, 3) := by decide +kernel
theorem dX11_stepOn_66 : decode cX11_stepOn 66 = .ok (.iconst 0, 1) := by decide +kernel
theorem dX11_stepOn_67 : decode cX11_stepOn 67 = .ok (.istore 4, 2) := by decide +kernel
theorem dX11_stepOn_69 : decode cX11_stepOn 69 = .ok (.iload_n 2, 1) := by decide +kernel
theorem dX11_stepOn_70 : decode cX11_stepOn 70 = .ok (.bipush 15, 2) := by decide +kernel
theorem dX11_stepOn_72 : decode cX11_stepOn 72 = .ok (.irem, 1) := by decide +kernel
theorem dX11_stepOn_73 : decode cX11_stepOn 73 = .ok (.bipush 10, 2) := by decide +kernel
theorem dX11_stepOn_75 : decode cX11_stepOn 75 = .ok (.if_icmp .ne 70, 3) := by decide +kernel
theorem dX11_stepOn_78 : decode cX11_stepOn 78 = .ok (.aload_n 0, 1) := by decide +kernel
theorem dX11_stepOn_79 : decode cX11_stepOn 79 = .ok (.getfield 102, 3) := by decide +kernel
theorem dX11_stepOn_82 : decode cX11_stepOn 82 = .ok (.iconst 2, 1) := by decide +kernel
theorem dX11_stepOn_83 : decode cX11_stepOn 83 = .ok (.iload_n 1, 1) := by decide +kernel
theorem dX11_stepOn_84 : decode cX11_stepOn 84 = .ok (.imul, 1) := by decide +kernel
theorem dX11_stepOn_85 : decode cX11_stepOn 85 = .ok (.iconst 1, 1) := by decide +kernel
theorem dX11_stepOn_86 : decode cX11_stepOn 86 = .ok (.iadd, 1) := by decide +kernel
theorem dX11_stepOn_87 : decode cX11_stepOn 87 = .ok (.aload_n 0, 1) := by decide +kernel
theorem dX11_stepOn_88 : decode cX11_stepOn 88 = .ok (.getfield 102, 3) := by decide +kernel
theorem dX11_stepOn_91 : decode cX11_stepOn 91 = .ok (.iconst 2, 1) := by decide +kernel
theorem dX11_stepOn_92 : decode cX11_stepOn 92 = .ok (.iload_n 1, 1) := by decide +kernel
theorem dX11_stepOn_93 : decode cX11_stepOn 93 = .ok (.imul, 1) := by decide +kernel
theorem dX11_stepOn_94 : decode cX11_stepOn 94 = .ok (.iconst 1, 1) := by decide +kernel
theorem dX11_stepOn_95 : decode cX11_stepOn 95 = .ok (.iadd, 1) := by decide +kernel
theorem dX11_stepOn_96 : decode cX11_stepOn 96 = .ok (.baload, 1) := by decide +kernel
theorem dX11_stepOn_97 : decode cX11_stepOn 97 = .ok (.ifCond .ne 7, 3) := by decide +kernel
theorem dX11_stepOn_100 : decode cX11_stepOn 100 = .ok (.iload_n 3, 1) := by decide +kernel
theorem dX11_stepOn_101 : decode cX11_stepOn 101 = .ok (.ifCond .eq 7, 3) := by decide +kernel
theorem dX11_stepOn_104 : decode cX11_stepOn 104 = .ok (.iconst 1, 1) := by decide +kernel
theorem dX11_stepOn_105 : decode cX11_stepOn 105 = .ok (.goto 4, 3) := by decide +kernel
theorem dX11_stepOn_108 : decode cX11_stepOn 108 = .ok (.iconst 0, 1) := by decide +kernel
theorem dX11_stepOn_109 : decode cX11_stepOn 109 = .ok (.bastore, 1) := by decide +kernel
theorem dX11_stepOn_110 : decode cX11_stepOn 110 = .ok (.aload_n 0, 1) := by decide +kernel
theorem dX11_stepOn_111 : decode cX11_stepOn 111 = .ok (.getfield 102, 3) := by decide +kernel
theorem dX11_stepOn_114 : decode cX11_stepOn 114 = .ok (.iconst 2, 1) := by decide +kernel
theorem dX11_stepOn_115 : decode cX11_stepOn 115 = .ok (.iload_n 1, 1) := by decide +kernel
theorem dX11_stepOn_116 : decode cX11_stepOn 116 = .ok (.imul, 1) := by decide +kernel
theorem dX11_stepOn_117 : decode cX11_stepOn 117 = .ok (.aload_n 0, 1) := by decide +kernel
theorem dX11_stepOn_118 : decode cX11_stepOn 118 = .ok (.getfield 102, 3) := by decide +kernel
theorem dX11_stepOn_121 : decode cX11_stepOn 121 = .ok (.iconst 2, 1) := by decide +kernel
theorem dX11_stepOn_122 : decode cX11_stepOn 122 = .ok (.iload_n 1, 1) := by decide +kernel
theorem dX11_stepOn_123 : decode cX11_stepOn 123 = .ok (.imul, 1) := by decide +kernel
theorem dX11_stepOn_124 : decode cX11_stepOn 124 = .ok (.baload, 1) := by decide +kernel
theorem dX11_stepOn_125 : decode cX11_stepOn 125 = .ok (.ifCond .ne 14, 3) := by decide +kernel
theorem dX11_stepOn_128 : decode cX11_stepOn 128 = .ok (.iload 4, 2) := by decide +kernel
theorem dX11_stepOn_130 : decode cX11_stepOn 130 = .ok (.ifCond .eq 13, 3) := by decide +kernel
theorem dX11_stepOn_133 : decode cX11_stepOn 133 = .ok (.iload_n 2, 1) := by decide +kernel
theorem dX11_stepOn_134 : decode cX11_stepOn 134 = .ok (.bipush 55, 2) := by decide +kernel
theorem dX11_stepOn_136 : decode cX11_stepOn 136 = .ok (.if_icmp .ne 7, 3) := by decide +kernel
theorem dX11_stepOn_139 : decode cX11_stepOn 139 = .ok (.iconst 1, 1) := by decide +kernel
theorem dX11_stepOn_140 : decode cX11_stepOn 140 = .ok (.goto 4, 3) := by decide +kernel
theorem dX11_stepOn_143 : decode cX11_stepOn 143 = .ok (.iconst 0, 1) := by decide +kernel
theorem dX11_stepOn_144 : decode cX11_stepOn 144 = .ok (.bastore, 1) := by decide +kernel
theorem dX11_stepOn_145 : decode cX11_stepOn 145 = .ok (.iload_n 2, 1) := by decide +kernel
theorem dX11_stepOn_146 : decode cX11_stepOn 146 = .ok (.bipush 15, 2) := by decide +kernel
theorem dX11_stepOn_148 : decode cX11_stepOn 148 = .ok (.irem, 1) := by decide +kernel
theorem dX11_stepOn_149 : decode cX11_stepOn 149 = .ok (.ifCond .ne 13, 3) := by decide +kernel
theorem dX11_stepOn_152 : decode cX11_stepOn 152 = .ok (.iload_n 3, 1) := by decide +kernel
theorem dX11_stepOn_153 : decode cX11_stepOn 153 = .ok (.ifCond .eq 9, 3) := by decide +kernel
theorem dX11_stepOn_156 : decode cX11_stepOn 156 = .ok (.aload_n 0, 1) := by decide +kernel
theorem dX11_stepOn_157 : decode cX11_stepOn 157 = .ok (.iload_n 1, 1) := by decide +kernel
theorem dX11_stepOn_158 : decode cX11_stepOn 158 = .ok (.iconst 1, 1) := by decide +kernel
theorem dX11_stepOn_159 : decode cX11_stepOn 159 = .ok (.invokevirtual 225, 3) := by decide +kernel
theorem dX11_stepOn_162 : decode cX11_stepOn 162 = .ok (.iload_n 2, 1) := by decide +kernel
theorem dX11_stepOn_163 : decode cX11_stepOn 163 = .ok (.ifCond .ne 14, 3) := by decide +kernel
theorem dX11_stepOn_166 : decode cX11_stepOn 166 = .ok (.iload 4, 2) := by decide +kernel
theorem dX11_stepOn_168 : decode cX11_stepOn 168 = .ok (.ifCond .eq 9, 3) := by decide +kernel
theorem dX11_stepOn_171 : decode cX11_stepOn 171 = .ok (.aload_n 0, 1) := by decide +kernel
theorem dX11_stepOn_172 : decode cX11_stepOn 172 = .ok (.iload_n 1, 1) := by decide +kernel
theorem dX11_stepOn_173 : decode cX11_stepOn 173 = .ok (.iconst 0, 1) := by decide +kernel
theorem dX11_stepOn_174 : decode cX11_stepOn 174 = .ok (.invokevirtual 225, 3) := by decide +kernel
theorem dX11_stepOn_177 : decode cX11_stepOn 177 = .ok (.return_, 1) := by decide +kernel
theorem dX11_forward_0 : decode cX11_forward 0 = .ok (.iload_n 2, 1) := by decide +kernel
theorem dX11_forward_1 : decode cX11_forward 1 = .ok (.iconst 0, 1) := by decide +kernel
theorem dX11_forward_2 : decode cX11_forward 2 = .ok (.sipush 1500, 3) := by decide +kernel
theorem dX11_forward_5 : decode cX11_forward 5 = .ok (.invokestatic 145, 3) := by decide +kernel
theorem dX11_forward_8 : decode cX11_forward 8 = .ok (.ifCond .ne 5, 3) := by decide +kernel
theorem dX11_forward_11 : decode cX11_forward 11 = .ok (.iconst (-1), 1) := by decide +kernel
theorem dX11_forward_12 : decode cX11_forward 12 = .ok (.ireturn, 1) := by decide +kernel
theorem dX11_forward_13 : decode cX11_forward 13 = .ok (.aload_n 0, 1) := by decide +kernel
theorem dX11_forward_14 : decode cX11_forward 14 = .ok (.iload_n 1, 1) := by decide +kernel
theorem dX11_forward_15 : decode cX11_forward 15 = .ok (.invokevirtual 203, 3) := by decide +kernel
theorem dX11_forward_18 : decode cX11_forward 18 = .ok (.istore_n 3, 1) := by decide +kernel
theorem dX11_forward_19 : decode cX11_forward 19 = .ok (.iload_n 3, 1) := by decide +kernel
theorem dX11_forward_20 : decode cX11_forward 20 = .ok (.ifCond .ge 5, 3) := by decide +kernel
theorem dX11_forward_23 : decode cX11_forward 23 = .ok (.iload_n 3, 1) := by decide +kernel
theorem dX11_forward_24 : decode cX11_forward 24 = .ok (.ireturn, 1) := by decide +kernel
theorem dX11_forward_25 : decode cX11_forward 25 = .ok (.iconst 0, 1) := by decide +kernel
theorem dX11_forward_26 : decode cX11_forward 26 = .ok (.istore 4, 2) := by decide +kernel
theorem dX11_forward_28 : decode cX11_forward 28 = .ok (.iload 4, 2) := by decide +kernel
theorem dX11_forward_30 : decode cX11_forward 30 = .ok (.iload_n 2, 1) := by decide +kernel
theorem dX11_forward_31 : decode cX11_forward 31 = .ok (.if_icmp .ge 14, 3) := by decide +kernel
theorem dX11_forward_34 : decode cX11_forward 34 = .ok (.aload_n 0, 1) := by decide +kernel
theorem dX11_forward_35 : decode cX11_forward 35 = .ok (.iload_n 1, 1) := by decide +kernel
theorem dX11_forward_36 : decode cX11_forward 36 = .ok (.invokevirtual 228, 3) := by decide +kernel
theorem dX11_forward_39 : decode cX11_forward 39 = .ok (.iinc 4 1, 3) := by decide +kernel
theorem dX11_forward_42 : decode cX11_forward 42 = .ok (.goto (-14), 3) := by decide +kernel
theorem dX11_forward_45 : decode cX11_forward 45 = .ok (.aload_n 0, 1) := by decide +kernel
theorem dX11_forward_46 : decode cX11_forward 46 = .ok (.getfield 75, 3) := by decide +kernel
theorem dX11_forward_49 : decode cX11_forward 49 = .ok (.iload_n 1, 1) := by decide +kernel
theorem dX11_forward_50 : decode cX11_forward 50 = .ok (.iaload, 1) := by decide +kernel
theorem dX11_forward_51 : decode cX11_forward 51 = .ok (.ireturn, 1) := by decide +kernel
theorem dX11_back_0 : decode cX11_back 0 = .ok (.iload_n 2, 1) := by decide +kernel
theorem dX11_back_1 : decode cX11_back 1 = .ok (.iconst 0, 1) := by decide +kernel
theorem dX11_back_2 : decode cX11_back 2 = .ok (.sipush 1500, 3) := by decide +kernel
theorem dX11_back_5 : decode cX11_back 5 = .ok (.invokestatic 145, 3) := by decide +kernel
theorem dX11_back_8 : decode cX11_back 8 = .ok (.ifCond .ne 5, 3) := by decide +kernel
theorem dX11_back_11 : decode cX11_back 11 = .ok (.iconst (-1), 1) := by decide +kernel
theorem dX11_back_12 : decode cX11_back 12 = .ok (.ireturn, 1) := by decide +kernel
theorem dX11_back_13 : decode cX11_back 13 = .ok (.aload_n 0, 1) := by decide +kernel
theorem dX11_back_14 : decode cX11_back 14 = .ok (.iload_n 1, 1) := by decide +kernel
theorem dX11_back_15 : decode cX11_back 15 = .ok (.invokevirtual 203, 3) := by decide +kernel
theorem dX11_back_18 : decode cX11_back 18 = .ok (.istore_n 3, 1) := by decide +kernel
theorem dX11_back_19 : decode cX11_back 19 = .ok (.iload_n 3, 1) := by decide +kernel
theorem dX11_back_20 : decode cX11_back 20 = .ok (.ifCond .ge 5, 3) := by decide +kernel
theorem dX11_back_23 : decode cX11_back 23 = .ok (.iload_n 3, 1) := by decide +kernel
theorem dX11_back_24 : decode cX11_back 24 = .ok (.ireturn, 1) := by decide +kernel
theorem dX11_back_25 : decode cX11_back 25 = .ok (.aload_n 0, 1) := by decide +kernel
theorem dX11_back_26 : decode cX11_back 26 = .ok (.getfield 75, 3) := by decide +kernel
theorem dX11_back_29 : decode cX11_back 29 = .ok (.iload_n 1, 1) := by decide +kernel
theorem dX11_back_30 : decode cX11_back 30 = .ok (.aload_n 0, 1) := by decide +kernel
theorem dX11_back_31 : decode cX11_back 31 = .ok (.getfield 75, 3) := by decide +kernel
theorem dX11_back_34 : decode cX11_back 34 = .ok (.iload_n 1, 1) := by decide +kernel
theorem dX11_back_35 : decode cX11_back 35 = .ok (.iaload, 1) := by decide +kernel
theorem dX11_back_36 : decode cX11_back 36 = .ok (.sipush 2880, 3) := by decide +kernel
theorem dX11_back_39 : decode cX11_back 39 = .ok (.iadd, 1) := by decide +kernel
theorem dX11_back_40 : decode cX11_back 40 = .ok (.iload_n 2, 1) := by decide +kernel
theorem dX11_back_41 : decode cX11_back 41 = .ok (.isub, 1) := by decide +kernel
theorem dX11_back_42 : decode cX11_back 42 = .ok (.sipush 1440, 3) := by decide +kernel
theorem dX11_back_45 : decode cX11_back 45 = .ok (.irem, 1) := by decide +kernel
theorem dX11_back_46 : decode cX11_back 46 = .ok (.iastore, 1) := by decide +kernel
theorem dX11_back_47 : decode cX11_back 47 = .ok (.aload_n 0, 1) := by decide +kernel
theorem dX11_back_48 : decode cX11_back 48 = .ok (.getfield 75, 3) := by decide +kernel
theorem dX11_back_51 : decode cX11_back 51 = .ok (.iload_n 1, 1) := by decide +kernel
theorem dX11_back_52 : decode cX11_back 52 = .ok (.iaload, 1) := by decide +kernel
theorem dX11_back_53 : decode cX11_back 53 = .ok (.ireturn, 1) := by decide +kernel
theorem dX11_rate_0 : decode cX11_rate 0 = .ok (.iload_n 2, 1) := by decide +kernel
theorem dX11_rate_1 : decode cX11_rate 1 = .ok (.sipush (-3600), 3) := by decide +kernel
theorem dX11_rate_4 : decode cX11_rate 4 = .ok (.sipush 3600, 3) := by decide +kernel
theorem dX11_rate_7 : decode cX11_rate 7 = .ok (.invokestatic 145, 3) := by decide +kernel
theorem dX11_rate_10 : decode cX11_rate 10 = .ok (.ifCond .ne 5, 3) := by decide +kernel
theorem dX11_rate_13 : decode cX11_rate 13 = .ok (.iconst (-1), 1) := by decide +kernel
theorem dX11_rate_14 : decode cX11_rate 14 = .ok (.ireturn, 1) := by decide +kernel
theorem dX11_rate_15 : decode cX11_rate 15 = .ok (.aload_n 0, 1) := by decide +kernel
theorem dX11_rate_16 : decode cX11_rate 16 = .ok (.iload_n 1, 1) := by decide +kernel
theorem dX11_rate_17 : decode cX11_rate 17 = .ok (.invokevirtual 203, 3) := by decide +kernel
theorem dX11_rate_20 : decode cX11_rate 20 = .ok (.istore_n 3, 1) := by decide +kernel
theorem dX11_rate_21 : decode cX11_rate 21 = .ok (.iload_n 3, 1) := by decide +kernel
theorem dX11_rate_22 : decode cX11_rate 22 = .ok (.ifCond .ge 5, 3) := by decide +kernel
theorem dX11_rate_25 : decode cX11_rate 25 = .ok (.iload_n 3, 1) := by decide +kernel
theorem dX11_rate_26 : decode cX11_rate 26 = .ok (.ireturn, 1) := by decide +kernel
theorem dX11_rate_27 : decode cX11_rate 27 = .ok (.aload_n 0, 1) := by decide +kernel
theorem dX11_rate_28 : decode cX11_rate 28 = .ok (.getfield 78, 3) := by decide +kernel
theorem dX11_rate_31 : decode cX11_rate 31 = .ok (.iload_n 1, 1) := by decide +kernel
theorem dX11_rate_32 : decode cX11_rate 32 = .ok (.iaload, 1) := by decide +kernel
theorem dX11_rate_33 : decode cX11_rate 33 = .ok (.istore 4, 2) := by decide +kernel
theorem dX11_rate_35 : decode cX11_rate 35 = .ok (.aload_n 0, 1) := by decide +kernel
theorem dX11_rate_36 : decode cX11_rate 36 = .ok (.getfield 78, 3) := by decide +kernel
theorem dX11_rate_39 : decode cX11_rate 39 = .ok (.iload_n 1, 1) := by decide +kernel
theorem dX11_rate_40 : decode cX11_rate 40 = .ok (.iload_n 2, 1) := by decide +kernel
theorem dX11_rate_41 : decode cX11_rate 41 = .ok (.iastore, 1) := by decide +kernel
theorem dX11_rate_42 : decode cX11_rate 42 = .ok (.iload 4, 2) := by decide +kernel
theorem dX11_rate_44 : decode cX11_rate 44 = .ok (.ireturn, 1) := by decide +kernel
theorem dX11_go_0 : decode cX11_go 0 = .ok (.aload_n 0, 1) := by decide +kernel
theorem dX11_go_1 : decode cX11_go 1 = .ok (.iload_n 1, 1) := by decide +kernel
theorem dX11_go_2 : decode cX11_go 2 = .ok (.invokevirtual 203, 3) := by decide +kernel
theorem dX11_go_5 : decode cX11_go 5 = .ok (.istore_n 3, 1) := by decide +kernel
theorem dX11_go_6 : decode cX11_go 6 = .ok (.iload_n 3, 1) := by decide +kernel
theorem dX11_go_7 : decode cX11_go 7 = .ok (.ifCond .ge 5, 3) := by decide +kernel
theorem dX11_go_10 : decode cX11_go 10 = .ok (.iload_n 3, 1) := by decide +kernel
theorem dX11_go_11 : decode cX11_go 11 = .ok (.ireturn, 1) := by decide +kernel
theorem dX11_go_12 : decode cX11_go 12 = .ok (.aload_n 0, 1) := by decide +kernel
theorem dX11_go_13 : decode cX11_go 13 = .ok (.getfield 87, 3) := by decide +kernel
theorem dX11_go_16 : decode cX11_go 16 = .ok (.iload_n 1, 1) := by decide +kernel
theorem dX11_go_17 : decode cX11_go 17 = .ok (.baload, 1) := by decide +kernel
theorem dX11_go_18 : decode cX11_go 18 = .ok (.ifCond .eq 7, 3) := by decide +kernel
theorem dX11_go_21 : decode cX11_go 21 = .ok (.iconst 1, 1) := by decide +kernel
theorem dX11_go_22 : decode cX11_go 22 = .ok (.goto 4, 3) := by decide +kernel
theorem dX11_go_25 : decode cX11_go 25 = .ok (.iconst 0, 1) := by decide +kernel
theorem dX11_go_26 : decode cX11_go 26 = .ok (.istore 4, 2) := by decide +kernel
theorem dX11_go_28 : decode cX11_go 28 = .ok (.aload_n 0, 1) := by decide +kernel
theorem dX11_go_29 : decode cX11_go 29 = .ok (.getfield 87, 3) := by decide +kernel
theorem dX11_go_32 : decode cX11_go 32 = .ok (.iload_n 1, 1) := by decide +kernel
theorem dX11_go_33 : decode cX11_go 33 = .ok (.iload_n 2, 1) := by decide +kernel
theorem dX11_go_34 : decode cX11_go 34 = .ok (.bastore, 1) := by decide +kernel
theorem dX11_go_35 : decode cX11_go 35 = .ok (.iload 4, 2) := by decide +kernel
theorem dX11_go_37 : decode cX11_go 37 = .ok (.ireturn, 1) := by decide +kernel
theorem dX11_windGoing_0 : decode cX11_windGoing 0 = .ok (.iload_n 2, 1) := by decide +kernel
theorem dX11_windGoing_1 : decode cX11_windGoing 1 = .ok (.iconst 0, 1) := by decide +kernel
theorem dX11_windGoing_2 : decode cX11_windGoing 2 = .ok (.ldc 179, 2) := by decide +kernel
theorem dX11_windGoing_4 : decode cX11_windGoing 4 = .ok (.invokestatic 145, 3) := by decide +kernel
theorem dX11_windGoing_7 : decode cX11_windGoing 7 = .ok (.ifCond .ne 5, 3) := by decide +kernel
theorem dX11_windGoing_10 : decode cX11_windGoing 10 = .ok (.iconst (-1), 1) := by decide +kernel
theorem dX11_windGoing_11 : decode cX11_windGoing 11 = .ok (.ireturn, 1) := by decide +kernel
theorem dX11_windGoing_12 : decode cX11_windGoing 12 = .ok (.aload_n 0, 1) := by decide +kernel
theorem dX11_windGoing_13 : decode cX11_windGoing 13 = .ok (.iload_n 1, 1) := by decide +kernel
theorem dX11_windGoing_14 : decode cX11_windGoing 14 = .ok (.invokevirtual 203, 3) := by decide +kernel
theorem dX11_windGoing_17 : decode cX11_windGoing 17 = .ok (.istore_n 3, 1) := by decide +kernel
theorem dX11_windGoing_18 : decode cX11_windGoing 18 = .ok (.iload_n 3, 1) := by decide +kernel
theorem dX11_windGoing_19 : decode cX11_windGoing 19 = .ok (.ifCond .ge 5, 3) := by decide +kernel
theorem dX11_windGoing_22 : decode cX11_windGoing 22 = .ok (.iload_n 3, 1) := by decide +kernel
theorem dX11_windGoing_23 : decode cX11_windGoing 23 = .ok (.ireturn, 1) := by decide +kernel
theorem dX11_windGoing_24 : decode cX11_windGoing 24 = .ok (.aload_n 0, 1) := by decide +kernel
theorem dX11_windGoing_25 : decode cX11_windGoing 25 = .ok (.getfield 81, 3) := by decide +kernel
theorem dX11_windGoing_28 : decode cX11_windGoing 28 = .ok (.iload_n 1, 1) := by decide +kernel
theorem dX11_windGoing_29 : decode cX11_windGoing 29 = .ok (.iaload, 1) := by decide +kernel
theorem dX11_windGoing_30 : decode cX11_windGoing 30 = .ok (.istore 4, 2) := by decide +kernel
theorem dX11_windGoing_32 : decode cX11_windGoing 32 = .ok (.aload_n 0, 1) := by decide +kernel
theorem dX11_windGoing_33 : decode cX11_windGoing 33 = .ok (.getfield 81, 3) := by decide +kernel
theorem dX11_windGoing_36 : decode cX11_windGoing 36 = .ok (.iload_n 1, 1) := by decide +kernel
theorem dX11_windGoing_37 : decode cX11_windGoing 37 = .ok (.iload_n 2, 1) := by decide +kernel
theorem dX11_windGoing_38 : decode cX11_windGoing 38 = .ok (.iastore, 1) := by decide +kernel
theorem dX11_windGoing_39 : decode cX11_windGoing 39 = .ok (.iload 4, 2) := by decide +kernel
theorem dX11_windGoing_41 : decode cX11_windGoing 41 = .ok (.ireturn, 1) := by decide +kernel
theorem dX11_silence_0 : decode cX11_silence 0 = .ok (.iload_n 2, 1) := by decide +kernel
theorem dX11_silence_1 : decode cX11_silence 1 = .ok (.iconst 0, 1) := by decide +kernel
theorem dX11_silence_2 : decode cX11_silence 2 = .ok (.bipush 23, 2) := by decide +kernel
theorem dX11_silence_4 : decode cX11_silence 4 = .ok (.invokestatic 145, 3) := by decide +kernel
theorem dX11_silence_7 : decode cX11_silence 7 = .ok (.ifCond .eq 23, 3) := by decide +kernel
theorem dX11_silence_10 : decode cX11_silence 10 = .ok (.iload_n 3, 1) := by decide +kernel
theorem dX11_silence_11 : decode cX11_silence 11 = .ok (.iconst 0, 1) := by decide +kernel
theorem dX11_silence_12 : decode cX11_silence 12 = .ok (.bipush 23, 2) := by decide +kernel
theorem dX11_silence_14 : decode cX11_silence 14 = .ok (.invokestatic 145, 3) := by decide +kernel
theorem dX11_silence_17 : decode cX11_silence 17 = .ok (.ifCond .eq 13, 3) := by decide +kernel
theorem dX11_silence_20 : decode cX11_silence 20 = .ok (.iload 4, 2) := by decide +kernel
theorem dX11_silence_22 : decode cX11_silence 22 = .ok (.iconst 0, 1) := by decide +kernel
theorem dX11_silence_23 : decode cX11_silence 23 = .ok (.iconst 1, 1) := by decide +kernel
theorem dX11_silence_24 : decode cX11_silence 24 = .ok (.invokestatic 145, 3) := by decide +kernel
theorem dX11_silence_27 : decode cX11_silence 27 = .ok (.ifCond .ne 5, 3) := by decide +kernel
theorem dX11_silence_30 : decode cX11_silence 30 = .ok (.iconst (-1), 1) := by decide +kernel
theorem dX11_silence_31 : decode cX11_silence 31 = .ok (.ireturn, 1) := by decide +kernel
theorem dX11_silence_32 : decode cX11_silence 32 = .ok (.aload_n 0, 1) := by decide +kernel
theorem dX11_silence_33 : decode cX11_silence 33 = .ok (.iload_n 1, 1) := by decide +kernel
theorem dX11_silence_34 : decode cX11_silence 34 = .ok (.invokevirtual 203, 3) := by decide +kernel
theorem dX11_silence_37 : decode cX11_silence 37 = .ok (.istore 5, 2) := by decide +kernel
theorem dX11_silence_39 : decode cX11_silence 39 = .ok (.iload 5, 2) := by decide +kernel
theorem dX11_silence_41 : decode cX11_silence 41 = .ok (.ifCond .ge 6, 3) := by decide +kernel
theorem dX11_silence_44 : decode cX11_silence 44 = .ok (.iload 5, 2) := by decide +kernel
theorem dX11_silence_46 : decode cX11_silence 46 = .ok (.ireturn, 1) := by decide +kernel
theorem dX11_silence_47 : decode cX11_silence 47 = .ok (.aload_n 0, 1) := by decide +kernel
theorem dX11_silence_48 : decode cX11_silence 48 = .ok (.getfield 90, 3) := by decide +kernel
theorem dX11_silence_51 : decode cX11_silence 51 = .ok (.iload_n 1, 1) := by decide +kernel
theorem dX11_silence_52 : decode cX11_silence 52 = .ok (.iload_n 2, 1) := by decide +kernel
theorem dX11_silence_53 : decode cX11_silence 53 = .ok (.iastore, 1) := by decide +kernel
theorem dX11_silence_54 : decode cX11_silence 54 = .ok (.aload_n 0, 1) := by decide +kernel
theorem dX11_silence_55 : decode cX11_silence 55 = .ok (.getfield 93, 3) := by decide +kernel
theorem dX11_silence_58 : decode cX11_silence 58 = .ok (.iload_n 1, 1) := by decide +kernel
theorem dX11_silence_59 : decode cX11_silence 59 = .ok (.iload_n 3, 1) := by decide +kernel
theorem dX11_silence_60 : decode cX11_silence 60 = .ok (.iastore, 1) := by decide +kernel
theorem dX11_silence_61 : decode cX11_silence 61 = .ok (.aload_n 0, 1) := by decide +kernel
theorem dX11_silence_62 : decode cX11_silence 62 = .ok (.getfield 96, 3) := by decide +kernel
theorem dX11_silence_65 : decode cX11_silence 65 = .ok (.iload_n 1, 1) := by decide +kernel
theorem dX11_silence_66 : decode cX11_silence 66 = .ok (.iload 4, 2) := by decide +kernel
theorem dX11_silence_68 : decode cX11_silence 68 = .ok (.iastore, 1) := by decide +kernel
theorem dX11_silence_69 : decode cX11_silence 69 = .ok (.iconst 1, 1) := by decide +kernel
theorem dX11_silence_70 : decode cX11_silence 70 = .ok (.ireturn, 1) := by decide +kernel
theorem dX11_letOff_0 : decode cX11_letOff 0 = .ok (.aload_n 0, 1) := by decide +kernel
theorem dX11_letOff_1 : decode cX11_letOff 1 = .ok (.iload_n 1, 1) := by decide +kernel
theorem dX11_letOff_2 : decode cX11_letOff 2 = .ok (.iload_n 2, 1) := by decide +kernel
theorem dX11_letOff_3 : decode cX11_letOff 3 = .ok (.invokevirtual 206, 3) := by decide +kernel
theorem dX11_letOff_6 : decode cX11_letOff 6 = .ok (.istore_n 3, 1) := by decide +kernel
theorem dX11_letOff_7 : decode cX11_letOff 7 = .ok (.iload_n 3, 1) := by decide +kernel
theorem dX11_letOff_8 : decode cX11_letOff 8 = .ok (.ifCond .ge 5, 3) := by decide +kernel
theorem dX11_letOff_11 : decode cX11_letOff 11 = .ok (.iload_n 3, 1) := by decide +kernel
theorem dX11_letOff_12 : decode cX11_letOff 12 = .ok (.ireturn, 1) := by decide +kernel
theorem dX11_letOff_13 : decode cX11_letOff 13 = .ok (.aload_n 0, 1) := by decide +kernel
theorem dX11_letOff_14 : decode cX11_letOff 14 = .ok (.iload_n 1, 1) := by decide +kernel
theorem dX11_letOff_15 : decode cX11_letOff 15 = .ok (.iload_n 2, 1) := by decide +kernel
theorem dX11_letOff_16 : decode cX11_letOff 16 = .ok (.invokevirtual 221, 3) := by decide +kernel
theorem dX11_letOff_19 : decode cX11_letOff 19 = .ok (.aload_n 0, 1) := by decide +kernel
theorem dX11_letOff_20 : decode cX11_letOff 20 = .ok (.getfield 56, 3) := by decide +kernel
theorem dX11_letOff_23 : decode cX11_letOff 23 = .ok (.aload_n 0, 1) := by decide +kernel
theorem dX11_letOff_24 : decode cX11_letOff 24 = .ok (.getfield 99, 3) := by decide +kernel
theorem dX11_letOff_27 : decode cX11_letOff 27 = .ok (.iload_n 1, 1) := by decide +kernel
theorem dX11_letOff_28 : decode cX11_letOff 28 = .ok (.iload_n 2, 1) := by decide +kernel
theorem dX11_letOff_29 : decode cX11_letOff 29 = .ok (.invokestatic 200, 3) := by decide +kernel
theorem dX11_letOff_32 : decode cX11_letOff 32 = .ok (.iaload, 1) := by decide +kernel
theorem dX11_letOff_33 : decode cX11_letOff 33 = .ok (.iaload, 1) := by decide +kernel
theorem dX11_letOff_34 : decode cX11_letOff 34 = .ok (.ireturn, 1) := by decide +kernel
theorem dX11_runs_0 : decode cX11_runs 0 = .ok (.aload_n 0, 1) := by decide +kernel
theorem dX11_runs_1 : decode cX11_runs 1 = .ok (.getfield 99, 3) := by decide +kernel
theorem dX11_runs_4 : decode cX11_runs 4 = .ok (.iload_n 1, 1) := by decide +kernel
theorem dX11_runs_5 : decode cX11_runs 5 = .ok (.iload_n 2, 1) := by decide +kernel
theorem dX11_runs_6 : decode cX11_runs 6 = .ok (.invokestatic 200, 3) := by decide +kernel
theorem dX11_runs_9 : decode cX11_runs 9 = .ok (.iaload, 1) := by decide +kernel
theorem dX11_runs_10 : decode cX11_runs 10 = .ok (.istore 4, 2) := by decide +kernel
theorem dX11_runs_12 : decode cX11_runs 12 = .ok (.aload_n 0, 1) := by decide +kernel
theorem dX11_runs_13 : decode cX11_runs 13 = .ok (.iload_n 1, 1) := by decide +kernel
theorem dX11_runs_14 : decode cX11_runs 14 = .ok (.invokevirtual 218, 3) := by decide +kernel
theorem dX11_runs_17 : decode cX11_runs 17 = .ok (.iconst 1, 1) := by decide +kernel
theorem dX11_runs_18 : decode cX11_runs 18 = .ok (.if_icmp .ne 7, 3) := by decide +kernel
theorem dX11_runs_21 : decode cX11_runs 21 = .ok (.iconst 1, 1) := by decide +kernel
theorem dX11_runs_22 : decode cX11_runs 22 = .ok (.goto 4, 3) := by decide +kernel
theorem dX11_runs_25 : decode cX11_runs 25 = .ok (.iconst 0, 1) := by decide +kernel
theorem dX11_runs_26 : decode cX11_runs 26 = .ok (.istore 5, 2) := by decide +kernel
theorem dX11_runs_28 : decode cX11_runs 28 = .ok (.iconst 0, 1) := by decide +kernel
theorem dX11_runs_29 : decode cX11_runs 29 = .ok (.istore 6, 2) := by decide +kernel
theorem dX11_runs_31 : decode cX11_runs 31 = .ok (.iconst 0, 1) := by decide +kernel
theorem dX11_runs_32 : decode cX11_runs 32 = .ok (.istore 7, 2) := by decide +kernel
theorem dX11_runs_34 : decode cX11_runs 34 = .ok (.iconst 0, 1) := by decide +kernel
theorem dX11_runs_35 : decode cX11_runs 35 = .ok (.istore 8, 2) := by decide +kernel
theorem dX11_runs_37 : decode cX11_runs 37 = .ok (.aload_n 0, 1) := by decide +kernel
theorem dX11_runs_38 : decode cX11_runs 38 = .ok (.getfield 56, 3) := by decide +kernel
theorem dX11_runs_41 : decode cX11_runs 41 = .ok (.iload 4, 2) := by decide +kernel
theorem dX11_runs_43 : decode cX11_runs 43 = .ok (.iaload, 1) := by decide +kernel
theorem dX11_runs_44 : decode cX11_runs 44 = .ok (.ifCond .le 166, 3) := by decide +kernel
theorem dX11_runs_47 : decode cX11_runs 47 = .ok (.aload_n 0, 1) := by decide +kernel
theorem dX11_runs_48 : decode cX11_runs 48 = .ok (.getfield 53, 3) := by decide +kernel
theorem dX11_runs_51 : decode cX11_runs 51 = .ok (.iload 4, 2) := by decide +kernel
theorem dX11_runs_53 : decode cX11_runs 53 = .ok (.iaload, 1) := by decide +kernel
theorem dX11_runs_54 : decode cX11_runs 54 = .ok (.ifCond .le 156, 3) := by decide +kernel
theorem dX11_runs_57 : decode cX11_runs 57 = .ok (.iload 6, 2) := by decide +kernel
theorem dX11_runs_59 : decode cX11_runs 59 = .ok (.iload_n 3, 1) := by decide +kernel
theorem dX11_runs_60 : decode cX11_runs 60 = .ok (.if_icmp .ge 150, 3) := by decide +kernel
theorem dX11_runs_63 : decode cX11_runs 63 = .ok (.aload_n 0, 1) := by decide +kernel
theorem dX11_runs_64 : decode cX11_runs 64 = .ok (.getfield 26, 3) := by decide +kernel
theorem dX11_runs_67 : decode cX11_runs 67 = .ok (.iload 4, 2) := by decide +kernel
theorem dX11_runs_69 : decode cX11_runs 69 = .ok (.iaload, 1) := by decide +kernel
theorem dX11_runs_70 : decode cX11_runs 70 = .ok (.iconst 3, 1) := by decide +kernel
theorem dX11_runs_71 : decode cX11_runs 71 = .ok (.if_icmp .ne 24, 3) := by decide +kernel
theorem dX11_runs_74 : decode cX11_runs 74 = .ok (.aload_n 0, 1) := by decide +kernel
theorem dX11_runs_75 : decode cX11_runs 75 = .ok (.getfield 41, 3) := by decide +kernel
theorem dX11_runs_78 : decode cX11_runs 78 = .ok (.bipush 48, 2) := by decide +kernel
theorem dX11_runs_80 : decode cX11_runs 80 = .ok (.iload 4, 2) := by decide +kernel
theorem dX11_runs_82 : decode cX11_runs 82 = .ok (.imul, 1) := by decide +kernel
theorem dX11_runs_83 : decode cX11_runs 83 = .ok (.aload_n 0, 1) := by decide +kernel
theorem dX11_runs_84 : decode cX11_runs 84 = .ok (.getfield 44, 3) := by decide +kernel
theorem dX11_runs_87 : decode cX11_runs 87 = .ok (.iload 4, 2) := by decide +kernel
theorem dX11_runs_89 : decode cX11_runs 89 = .ok (.iaload, 1) := by decide +kernel
theorem dX11_runs_90 : decode cX11_runs 90 = .ok (.iadd, 1) := by decide +kernel
theorem dX11_runs_91 : decode cX11_runs 91 = .ok (.iaload, 1) := by decide +kernel
theorem dX11_runs_92 : decode cX11_runs 92 = .ok (.goto 4, 3) := by decide +kernel
theorem dX11_runs_95 : decode cX11_runs 95 = .ok (.iconst 1, 1) := by decide +kernel
theorem dX11_runs_96 : decode cX11_runs 96 = .ok (.istore 9, 2) := by decide +kernel
theorem dX11_runs_98 : decode cX11_runs 98 = .ok (.aload_n 0, 1) := by decide +kernel
theorem dX11_runs_99 : decode cX11_runs 99 = .ok (.getfield 44, 3) := by decide +kernel
theorem dX11_runs_102 : decode cX11_runs 102 = .ok (.iload 4, 2) := by decide +kernel
theorem dX11_runs_104 : decode cX11_runs 104 = .ok (.aload_n 0, 1) := by decide +kernel
theorem dX11_runs_105 : decode cX11_runs 105 = .ok (.getfield 26, 3) := by decide +kernel
theorem dX11_runs_108 : decode cX11_runs 108 = .ok (.iload 4, 2) := by decide +kernel
theorem dX11_runs_110 : decode cX11_runs 110 = .ok (.iaload, 1) := by decide +kernel
theorem dX11_runs_111 : decode cX11_runs 111 = .ok (.iconst 3, 1) := by decide +kernel
theorem dX11_runs_112 : decode cX11_runs 112 = .ok (.if_icmp .ne 23, 3) := by decide +kernel
theorem dX11_runs_115 : decode cX11_runs 115 = .ok (.aload_n 0, 1) := by decide +kernel
theorem dX11_runs_116 : decode cX11_runs 116 = .ok (.getfield 44, 3) := by decide +kernel
theorem dX11_runs_119 : decode cX11_runs 119 = .ok (.iload 4, 2) := by decide +kernel
theorem dX11_runs_121 : decode cX11_runs 121 = .ok (.iaload, 1) := by decide +kernel
theorem dX11_runs_122 : decode cX11_runs 122 = .ok (.iconst 1, 1) := by decide +kernel
theorem dX11_runs_123 : decode cX11_runs 123 = .ok (.iadd, 1) := by decide +kernel
theorem dX11_runs_124 : decode cX11_runs 124 = .ok (.aload_n 0, 1) := by decide +kernel
theorem dX11_runs_125 : decode cX11_runs 125 = .ok (.getfield 38, 3) := by decide +kernel
theorem dX11_runs_128 : decode cX11_runs 128 = .ok (.iload 4, 2) := by decide +kernel
theorem dX11_runs_130 : decode cX11_runs 130 = .ok (.iaload, 1) := by decide +kernel
theorem dX11_runs_131 : decode cX11_runs 131 = .ok (.irem, 1) := by decide +kernel
theorem dX11_runs_132 : decode cX11_runs 132 = .ok (.goto 4, 3) := by decide +kernel
theorem dX11_runs_135 : decode cX11_runs 135 = .ok (.iconst 0, 1) := by decide +kernel
theorem dX11_runs_136 : decode cX11_runs 136 = .ok (.iastore, 1) := by decide +kernel
theorem dX11_runs_137 : decode cX11_runs 137 = .ok (.iload 5, 2) := by decide +kernel
theorem dX11_runs_139 : decode cX11_runs 139 = .ok (.ifCond .eq 7, 3) := by decide +kernel
theorem dX11_runs_142 : decode cX11_runs 142 = .ok (.iconst 0, 1) := by decide +kernel
theorem dX11_runs_143 : decode cX11_runs 143 = .ok (.goto 15, 3) := by decide +kernel
theorem dX11_runs_146 : decode cX11_runs 146 = .ok (.iload 9, 2) := by decide +kernel
theorem dX11_runs_148 : decode cX11_runs 148 = .ok (.aload_n 0, 1) := by decide +kernel
theorem dX11_runs_149 : decode cX11_runs 149 = .ok (.getfield 62, 3) := by decide +kernel
theorem dX11_runs_152 : decode cX11_runs 152 = .ok (.iload 4, 2) := by decide +kernel
theorem dX11_runs_154 : decode cX11_runs 154 = .ok (.iaload, 1) := by decide +kernel
theorem dX11_runs_155 : decode cX11_runs 155 = .ok (.iconst (-1), 1) := by decide +kernel
theorem dX11_runs_156 : decode cX11_runs 156 = .ok (.ixor, 1) := by decide +kernel
theorem dX11_runs_157 : decode cX11_runs 157 = .ok (.iand, 1) := by decide +kernel
theorem dX11_runs_158 : decode cX11_runs 158 = .ok (.istore 10, 2) := by decide +kernel
theorem dX11_runs_160 : decode cX11_runs 160 = .ok (.iload 7, 2) := by decide +kernel
theorem dX11_runs_162 : decode cX11_runs 162 = .ok (.iload 10, 2) := by decide +kernel
theorem dX11_runs_164 : decode cX11_runs 164 = .ok (.ifCond .ne 7, 3) := by decide +kernel
theorem dX11_runs_167 : decode cX11_runs 167 = .ok (.iconst 0, 1) := by decide +kernel
theorem dX11_runs_168 : decode cX11_runs 168 = .ok (.goto 4, 3) := by decide +kernel
theorem dX11_runs_171 : decode cX11_runs 171 = .ok (.iconst 1, 1) := by decide +kernel
theorem dX11_runs_172 : decode cX11_runs 172 = .ok (.iadd, 1) := by decide +kernel
theorem dX11_runs_173 : decode cX11_runs 173 = .ok (.istore 7, 2) := by decide +kernel
theorem dX11_runs_175 : decode cX11_runs 175 = .ok (.iload 8, 2) := by decide +kernel
theorem dX11_runs_177 : decode cX11_runs 177 = .ok (.iload 10, 2) := by decide +kernel
theorem dX11_runs_179 : decode cX11_runs 179 = .ok (.ior, 1) := by decide +kernel
theorem dX11_runs_180 : decode cX11_runs 180 = .ok (.istore 8, 2) := by decide +kernel
theorem dX11_runs_182 : decode cX11_runs 182 = .ok (.aload_n 0, 1) := by decide +kernel
theorem dX11_runs_183 : decode cX11_runs 183 = .ok (.getfield 56, 3) := by decide +kernel
theorem dX11_runs_186 : decode cX11_runs 186 = .ok (.iload 4, 2) := by decide +kernel
theorem dX11_runs_188 : decode cX11_runs 188 = .ok (.dup2, 1) := by decide +kernel
theorem dX11_runs_189 : decode cX11_runs 189 = .ok (.iaload, 1) := by decide +kernel
theorem dX11_runs_190 : decode cX11_runs 190 = .ok (.iconst 1, 1) := by decide +kernel
theorem dX11_runs_191 : decode cX11_runs 191 = .ok (.isub, 1) := by decide +kernel
theorem dX11_runs_192 : decode cX11_runs 192 = .ok (.iastore, 1) := by decide +kernel
theorem dX11_runs_193 : decode cX11_runs 193 = .ok (.aload_n 0, 1) := by decide +kernel
theorem dX11_runs_194 : decode cX11_runs 194 = .ok (.getfield 53, 3) := by decide +kernel
theorem dX11_runs_197 : decode cX11_runs 197 = .ok (.iload 4, 2) := by decide +kernel
theorem dX11_runs_199 : decode cX11_runs 199 = .ok (.dup2, 1) := by decide +kernel
theorem dX11_runs_200 : decode cX11_runs 200 = .ok (.iaload, 1) := by decide +kernel
theorem dX11_runs_201 : decode cX11_runs 201 = .ok (.iconst 1, 1) := by decide +kernel
theorem dX11_runs_202 : decode cX11_runs 202 = .ok (.isub, 1) := by decide +kernel
theorem dX11_runs_203 : decode cX11_runs 203 = .ok (.iastore, 1) := by decide +kernel
theorem dX11_runs_204 : decode cX11_runs 204 = .ok (.iinc 6 1, 3) := by decide +kernel
theorem dX11_runs_207 : decode cX11_runs 207 = .ok (.goto (-170), 3) := by decide +kernel
theorem dX11_runs_210 : decode cX11_runs 210 = .ok (.aload_n 0, 1) := by decide +kernel
theorem dX11_runs_211 : decode cX11_runs 211 = .ok (.getfield 65, 3) := by decide +kernel
theorem dX11_runs_214 : decode cX11_runs 214 = .ok (.iload 4, 2) := by decide +kernel
theorem dX11_runs_216 : decode cX11_runs 216 = .ok (.dup2, 1) := by decide +kernel
theorem dX11_runs_217 : decode cX11_runs 217 = .ok (.iaload, 1) := by decide +kernel
theorem dX11_runs_218 : decode cX11_runs 218 = .ok (.iload 6, 2) := by decide +kernel
theorem dX11_runs_220 : decode cX11_runs 220 = .ok (.iadd, 1) := by decide +kernel
theorem dX11_runs_221 : decode cX11_runs 221 = .ok (.iastore, 1) := by decide +kernel
theorem dX11_runs_222 : decode cX11_runs 222 = .ok (.aload_n 0, 1) := by decide +kernel
theorem dX11_runs_223 : decode cX11_runs 223 = .ok (.dup, 1) := by decide +kernel
theorem dX11_runs_224 : decode cX11_runs 224 = .ok (.getfield 231, 3) := by decide +kernel
theorem dX11_runs_227 : decode cX11_runs 227 = .ok (.iload 6, 2) := by decide +kernel
theorem dX11_runs_229 : decode cX11_runs 229 = .ok (.iadd, 1) := by decide +kernel
theorem dX11_runs_230 : decode cX11_runs 230 = .ok (.putfield 231, 3) := by decide +kernel
theorem dX11_runs_233 : decode cX11_runs 233 = .ok (.iload 7, 2) := by decide +kernel
theorem dX11_runs_235 : decode cX11_runs 235 = .ok (.ifCond .le 14, 3) := by decide +kernel
theorem dX11_runs_238 : decode cX11_runs 238 = .ok (.aload_n 0, 1) := by decide +kernel
theorem dX11_runs_239 : decode cX11_runs 239 = .ok (.iload_n 1, 1) := by decide +kernel
theorem dX11_runs_240 : decode cX11_runs 240 = .ok (.iload 4, 2) := by decide +kernel
theorem dX11_runs_242 : decode cX11_runs 242 = .ok (.iload 7, 2) := by decide +kernel
theorem dX11_runs_244 : decode cX11_runs 244 = .ok (.iload 8, 2) := by decide +kernel
theorem dX11_runs_246 : decode cX11_runs 246 = .ok (.invokevirtual 234, 3) := by decide +kernel
theorem dX11_runs_249 : decode cX11_runs 249 = .ok (.iload_n 2, 1) := by decide +kernel
theorem dX11_runs_250 : decode cX11_runs 250 = .ok (.ifCond .eq 54, 3) := by decide +kernel
theorem dX11_runs_253 : decode cX11_runs 253 = .ok (.iload 6, 2) := by decide +kernel
theorem dX11_runs_255 : decode cX11_runs 255 = .ok (.ifCond .le 49, 3) := by decide +kernel
theorem dX11_runs_258 : decode cX11_runs 258 = .ok (.aload_n 0, 1) := by decide +kernel
theorem dX11_runs_259 : decode cX11_runs 259 = .ok (.getfield 56, 3) := by decide +kernel
theorem dX11_runs_262 : decode cX11_runs 262 = .ok (.iload 4, 2) := by decide +kernel
theorem dX11_runs_264 : decode cX11_runs 264 = .ok (.iaload, 1) := by decide +kernel
theorem dX11_runs_265 : decode cX11_runs 265 = .ok (.ifCond .ne 39, 3) := by decide +kernel
theorem dX11_runs_268 : decode cX11_runs 268 = .ok (.aload_n 0, 1) := by decide +kernel
theorem dX11_runs_269 : decode cX11_runs 269 = .ok (.getfield 68, 3) := by decide +kernel
theorem dX11_runs_272 : decode cX11_runs 272 = .ok (.iload 4, 2) := by decide +kernel
theorem dX11_runs_274 : decode cX11_runs 274 = .ok (.baload, 1) := by decide +kernel
theorem dX11_runs_275 : decode cX11_runs 275 = .ok (.ifCond .eq 29, 3) := by decide +kernel
theorem dX11_runs_278 : decode cX11_runs 278 = .ok (.aload_n 0, 1) := by decide +kernel
theorem dX11_runs_279 : decode cX11_runs 279 = .ok (.getfield 99, 3) := by decide +kernel
theorem dX11_runs_282 : decode cX11_runs 282 = .ok (.iconst 2, 1) := by decide +kernel
theorem dX11_runs_283 : decode cX11_runs 283 = .ok (.iload_n 1, 1) := by decide +kernel
theorem dX11_runs_284 : decode cX11_runs 284 = .ok (.imul, 1) := by decide +kernel
theorem dX11_runs_285 : decode cX11_runs 285 = .ok (.iaload, 1) := by decide +kernel
theorem dX11_runs_286 : decode cX11_runs 286 = .ok (.ifCond .lt 18, 3) := by decide +kernel
theorem dX11_runs_289 : decode cX11_runs 289 = .ok (.aload_n 0, 1) := by decide +kernel
theorem dX11_runs_290 : decode cX11_runs 290 = .ok (.iload_n 1, 1) := by decide +kernel
theorem dX11_runs_291 : decode cX11_runs 291 = .ok (.invokevirtual 218, 3) := by decide +kernel
theorem dX11_runs_294 : decode cX11_runs 294 = .ok (.iconst 2, 1) := by decide +kernel
theorem dX11_runs_295 : decode cX11_runs 295 = .ok (.if_icmp .eq 9, 3) := by decide +kernel
theorem dX11_runs_298 : decode cX11_runs 298 = .ok (.aload_n 0, 1) := by decide +kernel
theorem dX11_runs_299 : decode cX11_runs 299 = .ok (.iload_n 1, 1) := by decide +kernel
theorem dX11_runs_300 : decode cX11_runs 300 = .ok (.iconst 0, 1) := by decide +kernel
theorem dX11_runs_301 : decode cX11_runs 301 = .ok (.invokevirtual 221, 3) := by decide +kernel
theorem dX11_runs_304 : decode cX11_runs 304 = .ok (.iload 6, 2) := by decide +kernel
theorem dX11_runs_306 : decode cX11_runs 306 = .ok (.ireturn, 1) := by decide +kernel
theorem dX11_writeLog_0 : decode cX11_writeLog 0 = .ok (.aload_n 0, 1) := by decide +kernel
theorem dX11_writeLog_1 : decode cX11_writeLog 1 = .ok (.getfield 105, 3) := by decide +kernel
theorem dX11_writeLog_4 : decode cX11_writeLog 4 = .ok (.iload_n 1, 1) := by decide +kernel
theorem dX11_writeLog_5 : decode cX11_writeLog 5 = .ok (.iaload, 1) := by decide +kernel
theorem dX11_writeLog_6 : decode cX11_writeLog 6 = .ok (.bipush 60, 2) := by decide +kernel
theorem dX11_writeLog_8 : decode cX11_writeLog 8 = .ok (.if_icmp .ne 58, 3) := by decide +kernel
theorem dX11_writeLog_11 : decode cX11_writeLog 11 = .ok (.iconst 0, 1) := by decide +kernel
theorem dX11_writeLog_12 : decode cX11_writeLog 12 = .ok (.istore 5, 2) := by decide +kernel
theorem dX11_writeLog_14 : decode cX11_writeLog 14 = .ok (.iload 5, 2) := by decide +kernel
theorem dX11_writeLog_16 : decode cX11_writeLog 16 = .ok (.sipush 236, 3) := by decide +kernel
theorem dX11_writeLog_19 : decode cX11_writeLog 19 = .ok (.if_icmp .ge 37, 3) := by decide +kernel
theorem dX11_writeLog_22 : decode cX11_writeLog 22 = .ok (.aload_n 0, 1) := by decide +kernel
theorem dX11_writeLog_23 : decode cX11_writeLog 23 = .ok (.getfield 108, 3) := by decide +kernel
theorem dX11_writeLog_26 : decode cX11_writeLog 26 = .ok (.sipush 240, 3) := by decide +kernel
theorem dX11_writeLog_29 : decode cX11_writeLog 29 = .ok (.iload_n 1, 1) := by decide +kernel
theorem dX11_writeLog_30 : decode cX11_writeLog 30 = .ok (.imul, 1) := by decide +kernel
theorem dX11_writeLog_31 : decode cX11_writeLog 31 = .ok (.iload 5, 2) := by decide +kernel
theorem dX11_writeLog_33 : decode cX11_writeLog 33 = .ok (.iadd, 1) := by decide +kernel
theorem dX11_writeLog_34 : decode cX11_writeLog 34 = .ok (.aload_n 0, 1) := by decide +kernel
theorem dX11_writeLog_35 : decode cX11_writeLog 35 = .ok (.getfield 108, 3) := by decide +kernel
theorem dX11_writeLog_38 : decode cX11_writeLog 38 = .ok (.sipush 240, 3) := by decide +kernel
theorem dX11_writeLog_41 : decode cX11_writeLog 41 = .ok (.iload_n 1, 1) := by decide +kernel
theorem dX11_writeLog_42 : decode cX11_writeLog 42 = .ok (.imul, 1) := by decide +kernel
theorem dX11_writeLog_43 : decode cX11_writeLog 43 = .ok (.iload 5, 2) := by decide +kernel
theorem dX11_writeLog_45 : decode cX11_writeLog 45 = .ok (.iadd, 1) := by decide +kernel
theorem dX11_writeLog_46 : decode cX11_writeLog 46 = .ok (.iconst 4, 1) := by decide +kernel
theorem dX11_writeLog_47 : decode cX11_writeLog 47 = .ok (.iadd, 1) := by decide +kernel
theorem dX11_writeLog_48 : decode cX11_writeLog 48 = .ok (.iaload, 1) := by decide +kernel
theorem dX11_writeLog_49 : decode cX11_writeLog 49 = .ok (.iastore, 1) := by decide +kernel
theorem dX11_writeLog_50 : decode cX11_writeLog 50 = .ok (.iinc 5 1, 3) := by decide +kernel
theorem dX11_writeLog_53 : decode cX11_writeLog 53 = .ok (.goto (-39), 3) := by decide +kernel
theorem dX11_writeLog_56 : decode cX11_writeLog 56 = .ok (.aload_n 0, 1) := by decide +kernel
theorem dX11_writeLog_57 : decode cX11_writeLog 57 = .ok (.getfield 105, 3) := by decide +kernel
theorem dX11_writeLog_60 : decode cX11_writeLog 60 = .ok (.iload_n 1, 1) := by decide +kernel
theorem dX11_writeLog_61 : decode cX11_writeLog 61 = .ok (.dup2, 1) := by decide +kernel
theorem dX11_writeLog_62 : decode cX11_writeLog 62 = .ok (.iaload, 1) := by decide +kernel
theorem dX11_writeLog_63 : decode cX11_writeLog 63 = .ok (.iconst 1, 1) := by decide +kernel
theorem dX11_writeLog_64 : decode cX11_writeLog 64 = .ok (.isub, 1) := by decide +kernel
theorem dX11_writeLog_65 : decode cX11_writeLog 65 = .ok (.iastore, 1) := by decide +kernel
theorem dX11_writeLog_66 : decode cX11_writeLog 66 = .ok (.sipush 240, 3) := by decide +kernel
theorem dX11_writeLog_69 : decode cX11_writeLog 69 = .ok (.iload_n 1, 1) := by decide +kernel
theorem dX11_writeLog_70 : decode cX11_writeLog 70 = .ok (.imul, 1) := by decide +kernel
theorem dX11_writeLog_71 : decode cX11_writeLog 71 = .ok (.iconst 4, 1) := by decide +kernel
theorem dX11_writeLog_72 : decode cX11_writeLog 72 = .ok (.aload_n 0, 1) := by decide +kernel
theorem dX11_writeLog_73 : decode cX11_writeLog 73 = .ok (.getfield 105, 3) := by decide +kernel
theorem dX11_writeLog_76 : decode cX11_writeLog 76 = .ok (.iload_n 1, 1) := by decide +kernel
theorem dX11_writeLog_77 : decode cX11_writeLog 77 = .ok (.iaload, 1) := by decide +kernel
theorem dX11_writeLog_78 : decode cX11_writeLog 78 = .ok (.imul, 1) := by decide +kernel
theorem dX11_writeLog_79 : decode cX11_writeLog 79 = .ok (.iadd, 1) := by decide +kernel
theorem dX11_writeLog_80 : decode cX11_writeLog 80 = .ok (.istore 5, 2) := by decide +kernel
theorem dX11_writeLog_82 : decode cX11_writeLog 82 = .ok (.aload_n 0, 1) := by decide +kernel
theorem dX11_writeLog_83 : decode cX11_writeLog 83 = .ok (.getfield 108, 3) := by decide +kernel
theorem dX11_writeLog_86 : decode cX11_writeLog 86 = .ok (.iload 5, 2) := by decide +kernel
theorem dX11_writeLog_88 : decode cX11_writeLog 88 = .ok (.aload_n 0, 1) := by decide +kernel
theorem dX11_writeLog_89 : decode cX11_writeLog 89 = .ok (.getfield 238, 3) := by decide +kernel
theorem dX11_writeLog_92 : decode cX11_writeLog 92 = .ok (.iastore, 1) := by decide +kernel
theorem dX11_writeLog_93 : decode cX11_writeLog 93 = .ok (.aload_n 0, 1) := by decide +kernel
theorem dX11_writeLog_94 : decode cX11_writeLog 94 = .ok (.getfield 108, 3) := by decide +kernel
theorem dX11_writeLog_97 : decode cX11_writeLog 97 = .ok (.iload 5, 2) := by decide +kernel
theorem dX11_writeLog_99 : decode cX11_writeLog 99 = .ok (.iconst 1, 1) := by decide +kernel
theorem dX11_writeLog_100 : decode cX11_writeLog 100 = .ok (.iadd, 1) := by decide +kernel
theorem dX11_writeLog_101 : decode cX11_writeLog 101 = .ok (.iload_n 2, 1) := by decide +kernel
theorem dX11_writeLog_102 : decode cX11_writeLog 102 = .ok (.iastore, 1) := by decide +kernel
theorem dX11_writeLog_103 : decode cX11_writeLog 103 = .ok (.aload_n 0, 1) := by decide +kernel
theorem dX11_writeLog_104 : decode cX11_writeLog 104 = .ok (.getfield 108, 3) := by decide +kernel
theorem dX11_writeLog_107 : decode cX11_writeLog 107 = .ok (.iload 5, 2) := by decide +kernel
theorem dX11_writeLog_109 : decode cX11_writeLog 109 = .ok (.iconst 2, 1) := by decide +kernel
theorem dX11_writeLog_110 : decode cX11_writeLog 110 = .ok (.iadd, 1) := by decide +kernel
theorem dX11_writeLog_111 : decode cX11_writeLog 111 = .ok (.iload_n 3, 1) := by decide +kernel
theorem dX11_writeLog_112 : decode cX11_writeLog 112 = .ok (.iastore, 1) := by decide +kernel
theorem dX11_writeLog_113 : decode cX11_writeLog 113 = .ok (.aload_n 0, 1) := by decide +kernel
theorem dX11_writeLog_114 : decode cX11_writeLog 114 = .ok (.getfield 108, 3) := by decide +kernel
theorem dX11_writeLog_117 : decode cX11_writeLog 117 = .ok (.iload 5, 2) := by decide +kernel
theorem dX11_writeLog_119 : decode cX11_writeLog 119 = .ok (.iconst 3, 1) := by decide +kernel
theorem dX11_writeLog_120 : decode cX11_writeLog 120 = .ok (.iadd, 1) := by decide +kernel
theorem dX11_writeLog_121 : decode cX11_writeLog 121 = .ok (.iload 4, 2) := by decide +kernel
theorem dX11_writeLog_123 : decode cX11_writeLog 123 = .ok (.iastore, 1) := by decide +kernel
theorem dX11_writeLog_124 : decode cX11_writeLog 124 = .ok (.aload_n 0, 1) := by decide +kernel
theorem dX11_writeLog_125 : decode cX11_writeLog 125 = .ok (.getfield 105, 3) := by decide +kernel
theorem dX11_writeLog_128 : decode cX11_writeLog 128 = .ok (.iload_n 1, 1) := by decide +kernel
theorem dX11_writeLog_129 : decode cX11_writeLog 129 = .ok (.dup2, 1) := by decide +kernel
theorem dX11_writeLog_130 : decode cX11_writeLog 130 = .ok (.iaload, 1) := by decide +kernel
theorem dX11_writeLog_131 : decode cX11_writeLog 131 = .ok (.iconst 1, 1) := by decide +kernel
theorem dX11_writeLog_132 : decode cX11_writeLog 132 = .ok (.iadd, 1) := by decide +kernel
theorem dX11_writeLog_133 : decode cX11_writeLog 133 = .ok (.iastore, 1) := by decide +kernel
theorem dX11_writeLog_134 : decode cX11_writeLog 134 = .ok (.return_, 1) := by decide +kernel
theorem dX11_runOut_0 : decode cX11_runOut 0 = .ok (.aload_n 0, 1) := by decide +kernel
theorem dX11_runOut_1 : decode cX11_runOut 1 = .ok (.iload_n 1, 1) := by decide +kernel
theorem dX11_runOut_2 : decode cX11_runOut 2 = .ok (.iload_n 2, 1) := by decide +kernel
theorem dX11_runOut_3 : decode cX11_runOut 3 = .ok (.invokevirtual 206, 3) := by decide +kernel
theorem dX11_runOut_6 : decode cX11_runOut 6 = .ok (.istore_n 3, 1) := by decide +kernel
theorem dX11_runOut_7 : decode cX11_runOut 7 = .ok (.iload_n 3, 1) := by decide +kernel
theorem dX11_runOut_8 : decode cX11_runOut 8 = .ok (.ifCond .ge 7, 3) := by decide +kernel
theorem dX11_runOut_11 : decode cX11_runOut 11 = .ok (.iload_n 3, 1) := by decide +kernel
theorem dX11_runOut_12 : decode cX11_runOut 12 = .ok (.goto 11, 3) := by decide +kernel
theorem dX11_runOut_15 : decode cX11_runOut 15 = .ok (.aload_n 0, 1) := by decide +kernel
theorem dX11_runOut_16 : decode cX11_runOut 16 = .ok (.iload_n 1, 1) := by decide +kernel
theorem dX11_runOut_17 : decode cX11_runOut 17 = .ok (.iload_n 2, 1) := by decide +kernel
theorem dX11_runOut_18 : decode cX11_runOut 18 = .ok (.ldc 243, 2) := by decide +kernel
theorem dX11_runOut_20 : decode cX11_runOut 20 = .ok (.invokevirtual 244, 3) := by decide +kernel
theorem dX11_runOut_23 : decode cX11_runOut 23 = .ok (.ireturn, 1) := by decide +kernel
theorem dX11_minuteOf_0 : decode cX11_minuteOf 0 = .ok (.aload_n 0, 1) := by decide +kernel
theorem dX11_minuteOf_1 : decode cX11_minuteOf 1 = .ok (.getfield 87, 3) := by decide +kernel
theorem dX11_minuteOf_4 : decode cX11_minuteOf 4 = .ok (.iload_n 1, 1) := by decide +kernel
theorem dX11_minuteOf_5 : decode cX11_minuteOf 5 = .ok (.baload, 1) := by decide +kernel
theorem dX11_minuteOf_6 : decode cX11_minuteOf 6 = .ok (.ifCond .eq 79, 3) := by decide +kernel
theorem dX11_minuteOf_9 : decode cX11_minuteOf 9 = .ok (.aload_n 0, 1) := by decide +kernel
theorem dX11_minuteOf_10 : decode cX11_minuteOf 10 = .ok (.getfield 81, 3) := by decide +kernel
theorem dX11_minuteOf_13 : decode cX11_minuteOf 13 = .ok (.iload_n 1, 1) := by decide +kernel
theorem dX11_minuteOf_14 : decode cX11_minuteOf 14 = .ok (.iaload, 1) := by decide +kernel
theorem dX11_minuteOf_15 : decode cX11_minuteOf 15 = .ok (.ifCond .le 70, 3) := by decide +kernel
theorem dX11_minuteOf_18 : decode cX11_minuteOf 18 = .ok (.aload_n 0, 1) := by decide +kernel
theorem dX11_minuteOf_19 : decode cX11_minuteOf 19 = .ok (.getfield 84, 3) := by decide +kernel
theorem dX11_minuteOf_22 : decode cX11_minuteOf 22 = .ok (.iload_n 1, 1) := by decide +kernel
theorem dX11_minuteOf_23 : decode cX11_minuteOf 23 = .ok (.dup2, 1) := by decide +kernel
theorem dX11_minuteOf_24 : decode cX11_minuteOf 24 = .ok (.iaload, 1) := by decide +kernel
theorem dX11_minuteOf_25 : decode cX11_minuteOf 25 = .ok (.ldc 248, 2) := by decide +kernel
theorem dX11_minuteOf_27 : decode cX11_minuteOf 27 = .ok (.aload_n 0, 1) := by decide +kernel
theorem dX11_minuteOf_28 : decode cX11_minuteOf 28 = .ok (.getfield 78, 3) := by decide +kernel
theorem dX11_minuteOf_31 : decode cX11_minuteOf 31 = .ok (.iload_n 1, 1) := by decide +kernel
theorem dX11_minuteOf_32 : decode cX11_minuteOf 32 = .ok (.iaload, 1) := by decide +kernel
theorem dX11_minuteOf_33 : decode cX11_minuteOf 33 = .ok (.iadd, 1) := by decide +kernel
theorem dX11_minuteOf_34 : decode cX11_minuteOf 34 = .ok (.iadd, 1) := by decide +kernel
theorem dX11_minuteOf_35 : decode cX11_minuteOf 35 = .ok (.iastore, 1) := by decide +kernel
theorem dX11_minuteOf_36 : decode cX11_minuteOf 36 = .ok (.aload_n 0, 1) := by decide +kernel
theorem dX11_minuteOf_37 : decode cX11_minuteOf 37 = .ok (.getfield 84, 3) := by decide +kernel
theorem dX11_minuteOf_40 : decode cX11_minuteOf 40 = .ok (.iload_n 1, 1) := by decide +kernel
theorem dX11_minuteOf_41 : decode cX11_minuteOf 41 = .ok (.iaload, 1) := by decide +kernel
theorem dX11_minuteOf_42 : decode cX11_minuteOf 42 = .ok (.ldc 248, 2) := by decide +kernel
theorem dX11_minuteOf_44 : decode cX11_minuteOf 44 = .ok (.if_icmp .lt 41, 3) := by decide +kernel
theorem dX11_minuteOf_47 : decode cX11_minuteOf 47 = .ok (.aload_n 0, 1) := by decide +kernel
theorem dX11_minuteOf_48 : decode cX11_minuteOf 48 = .ok (.getfield 81, 3) := by decide +kernel
theorem dX11_minuteOf_51 : decode cX11_minuteOf 51 = .ok (.iload_n 1, 1) := by decide +kernel
theorem dX11_minuteOf_52 : decode cX11_minuteOf 52 = .ok (.iaload, 1) := by decide +kernel
theorem dX11_minuteOf_53 : decode cX11_minuteOf 53 = .ok (.ifCond .le 32, 3) := by decide +kernel
theorem dX11_minuteOf_56 : decode cX11_minuteOf 56 = .ok (.aload_n 0, 1) := by decide +kernel
theorem dX11_minuteOf_57 : decode cX11_minuteOf 57 = .ok (.getfield 84, 3) := by decide +kernel
theorem dX11_minuteOf_60 : decode cX11_minuteOf 60 = .ok (.iload_n 1, 1) := by decide +kernel
theorem dX11_minuteOf_61 : decode cX11_minuteOf 61 = .ok (.dup2, 1) := by decide +kernel
theorem dX11_minuteOf_62 : decode cX11_minuteOf 62 = .ok (.iaload, 1) := by decide +kernel
theorem dX11_minuteOf_63 : decode cX11_minuteOf 63 = .ok (.ldc 248, 2) := by decide +kernel
theorem dX11_minuteOf_65 : decode cX11_minuteOf 65 = .ok (.isub, 1) := by decide +kernel
theorem dX11_minuteOf_66 : decode cX11_minuteOf 66 = .ok (.iastore, 1) := by decide +kernel
theorem dX11_minuteOf_67 : decode cX11_minuteOf 67 = .ok (.aload_n 0, 1) := by decide +kernel
theorem dX11_minuteOf_68 : decode cX11_minuteOf 68 = .ok (.getfield 81, 3) := by decide +kernel
theorem dX11_minuteOf_71 : decode cX11_minuteOf 71 = .ok (.iload_n 1, 1) := by decide +kernel
theorem dX11_minuteOf_72 : decode cX11_minuteOf 72 = .ok (.dup2, 1) := by decide +kernel
theorem dX11_minuteOf_73 : decode cX11_minuteOf 73 = .ok (.iaload, 1) := by decide +kernel
theorem dX11_minuteOf_74 : decode cX11_minuteOf 74 = .ok (.iconst 1, 1) := by decide +kernel
theorem dX11_minuteOf_75 : decode cX11_minuteOf 75 = .ok (.isub, 1) := by decide +kernel
theorem dX11_minuteOf_76 : decode cX11_minuteOf 76 = .ok (.iastore, 1) := by decide +kernel
theorem dX11_minuteOf_77 : decode cX11_minuteOf 77 = .ok (.aload_n 0, 1) := by decide +kernel
theorem dX11_minuteOf_78 : decode cX11_minuteOf 78 = .ok (.iload_n 1, 1) := by decide +kernel
theorem dX11_minuteOf_79 : decode cX11_minuteOf 79 = .ok (.invokevirtual 228, 3) := by decide +kernel
theorem dX11_minuteOf_82 : decode cX11_minuteOf 82 = .ok (.goto (-46), 3) := by decide +kernel
theorem dX11_minuteOf_85 : decode cX11_minuteOf 85 = .ok (.iconst 1, 1) := by decide +kernel
theorem dX11_minuteOf_86 : decode cX11_minuteOf 86 = .ok (.istore_n 2, 1) := by decide +kernel
theorem dX11_minuteOf_87 : decode cX11_minuteOf 87 = .ok (.iload_n 2, 1) := by decide +kernel
theorem dX11_minuteOf_88 : decode cX11_minuteOf 88 = .ok (.ifCond .lt 53, 3) := by decide +kernel
theorem dX11_minuteOf_91 : decode cX11_minuteOf 91 = .ok (.aload_n 0, 1) := by decide +kernel
theorem dX11_minuteOf_92 : decode cX11_minuteOf 92 = .ok (.getfield 99, 3) := by decide +kernel
theorem dX11_minuteOf_95 : decode cX11_minuteOf 95 = .ok (.iconst 2, 1) := by decide +kernel
theorem dX11_minuteOf_96 : decode cX11_minuteOf 96 = .ok (.iload_n 1, 1) := by decide +kernel
theorem dX11_minuteOf_97 : decode cX11_minuteOf 97 = .ok (.imul, 1) := by decide +kernel
theorem dX11_minuteOf_98 : decode cX11_minuteOf 98 = .ok (.iload_n 2, 1) := by decide +kernel
theorem dX11_minuteOf_99 : decode cX11_minuteOf 99 = .ok (.iadd, 1) := by decide +kernel
theorem dX11_minuteOf_100 : decode cX11_minuteOf 100 = .ok (.iaload, 1) := by decide +kernel
theorem dX11_minuteOf_101 : decode cX11_minuteOf 101 = .ok (.ifCond .lt 34, 3) := by decide +kernel
theorem dX11_minuteOf_104 : decode cX11_minuteOf 104 = .ok (.aload_n 0, 1) := by decide +kernel
theorem dX11_minuteOf_105 : decode cX11_minuteOf 105 = .ok (.iload_n 1, 1) := by decide +kernel
theorem dX11_minuteOf_106 : decode cX11_minuteOf 106 = .ok (.iload_n 2, 1) := by decide +kernel
theorem dX11_minuteOf_107 : decode cX11_minuteOf 107 = .ok (.iconst 1, 1) := by decide +kernel
theorem dX11_minuteOf_108 : decode cX11_minuteOf 108 = .ok (.if_icmp .ne 7, 3) := by decide +kernel
theorem dX11_minuteOf_111 : decode cX11_minuteOf 111 = .ok (.iconst 1, 1) := by decide +kernel
theorem dX11_minuteOf_112 : decode cX11_minuteOf 112 = .ok (.goto 4, 3) := by decide +kernel
theorem dX11_minuteOf_115 : decode cX11_minuteOf 115 = .ok (.iconst 0, 1) := by decide +kernel
theorem dX11_minuteOf_116 : decode cX11_minuteOf 116 = .ok (.aload_n 0, 1) := by decide +kernel
theorem dX11_minuteOf_117 : decode cX11_minuteOf 117 = .ok (.getfield 47, 3) := by decide +kernel
theorem dX11_minuteOf_120 : decode cX11_minuteOf 120 = .ok (.aload_n 0, 1) := by decide +kernel
theorem dX11_minuteOf_121 : decode cX11_minuteOf 121 = .ok (.getfield 99, 3) := by decide +kernel
theorem dX11_minuteOf_124 : decode cX11_minuteOf 124 = .ok (.iconst 2, 1) := by decide +kernel
theorem dX11_minuteOf_125 : decode cX11_minuteOf 125 = .ok (.iload_n 1, 1) := by decide +kernel
theorem dX11_minuteOf_126 : decode cX11_minuteOf 126 = .ok (.imul, 1) := by decide +kernel
theorem dX11_minuteOf_127 : decode cX11_minuteOf 127 = .ok (.iload_n 2, 1) := by decide +kernel
theorem dX11_minuteOf_128 : decode cX11_minuteOf 128 = .ok (.iadd, 1) := by decide +kernel
theorem dX11_minuteOf_129 : decode cX11_minuteOf 129 = .ok (.iaload, 1) := by decide +kernel
theorem dX11_minuteOf_130 : decode cX11_minuteOf 130 = .ok (.iaload, 1) := by decide +kernel
theorem dX11_minuteOf_131 : decode cX11_minuteOf 131 = .ok (.invokevirtual 244, 3) := by decide +kernel
theorem dX11_minuteOf_134 : decode cX11_minuteOf 134 = .ok (.istore_n 3, 1) := by decide +kernel
theorem dX11_minuteOf_135 : decode cX11_minuteOf 135 = .ok (.iinc 2 (-1), 3) := by decide +kernel
theorem dX11_minuteOf_138 : decode cX11_minuteOf 138 = .ok (.goto (-51), 3) := by decide +kernel
theorem dX11_minuteOf_141 : decode cX11_minuteOf 141 = .ok (.return_, 1) := by decide +kernel
theorem dX11_pass_0 : decode cX11_pass 0 = .ok (.iload_n 1, 1) := by decide +kernel
theorem dX11_pass_1 : decode cX11_pass 1 = .ok (.iconst 0, 1) := by decide +kernel
theorem dX11_pass_2 : decode cX11_pass 2 = .ok (.sipush 3000, 3) := by decide +kernel
theorem dX11_pass_5 : decode cX11_pass 5 = .ok (.invokestatic 145, 3) := by decide +kernel
theorem dX11_pass_8 : decode cX11_pass 8 = .ok (.ifCond .ne 5, 3) := by decide +kernel
theorem dX11_pass_11 : decode cX11_pass 11 = .ok (.iconst (-1), 1) := by decide +kernel
theorem dX11_pass_12 : decode cX11_pass 12 = .ok (.ireturn, 1) := by decide +kernel
theorem dX11_pass_13 : decode cX11_pass 13 = .ok (.aload_n 0, 1) := by decide +kernel
theorem dX11_pass_14 : decode cX11_pass 14 = .ok (.getfield 238, 3) := by decide +kernel
theorem dX11_pass_17 : decode cX11_pass 17 = .ok (.iload_n 1, 1) := by decide +kernel
theorem dX11_pass_18 : decode cX11_pass 18 = .ok (.iadd, 1) := by decide +kernel
theorem dX11_pass_19 : decode cX11_pass 19 = .ok (.ldc 249, 2) := by decide +kernel
theorem dX11_pass_21 : decode cX11_pass 21 = .ok (.if_icmp .le 6, 3) := by decide +kernel
theorem dX11_pass_24 : decode cX11_pass 24 = .ok (.bipush (-2), 2) := by decide +kernel
theorem dX11_pass_26 : decode cX11_pass 26 = .ok (.ireturn, 1) := by decide +kernel
theorem dX11_pass_27 : decode cX11_pass 27 = .ok (.iconst 0, 1) := by decide +kernel
theorem dX11_pass_28 : decode cX11_pass 28 = .ok (.istore_n 2, 1) := by decide +kernel
theorem dX11_pass_29 : decode cX11_pass 29 = .ok (.iload_n 2, 1) := by decide +kernel
theorem dX11_pass_30 : decode cX11_pass 30 = .ok (.iload_n 1, 1) := by decide +kernel
theorem dX11_pass_31 : decode cX11_pass 31 = .ok (.if_icmp .ge 46, 3) := by decide +kernel
theorem dX11_pass_34 : decode cX11_pass 34 = .ok (.iconst 0, 1) := by decide +kernel
theorem dX11_pass_35 : decode cX11_pass 35 = .ok (.istore_n 3, 1) := by decide +kernel
theorem dX11_pass_36 : decode cX11_pass 36 = .ok (.iload_n 3, 1) := by decide +kernel
theorem dX11_pass_37 : decode cX11_pass 37 = .ok (.iconst 4, 1) := by decide +kernel
theorem dX11_pass_38 : decode cX11_pass 38 = .ok (.if_icmp .ge 23, 3) := by decide +kernel
theorem dX11_pass_41 : decode cX11_pass 41 = .ok (.aload_n 0, 1) := by decide +kernel
theorem dX11_pass_42 : decode cX11_pass 42 = .ok (.getfield 72, 3) := by decide +kernel
theorem dX11_pass_45 : decode cX11_pass 45 = .ok (.iload_n 3, 1) := by decide +kernel
theorem dX11_pass_46 : decode cX11_pass 46 = .ok (.baload, 1) := by decide +kernel
theorem dX11_pass_47 : decode cX11_pass 47 = .ok (.ifCond .eq 8, 3) := by decide +kernel
theorem dX11_pass_50 : decode cX11_pass 50 = .ok (.aload_n 0, 1) := by decide +kernel
theorem dX11_pass_51 : decode cX11_pass 51 = .ok (.iload_n 3, 1) := by decide +kernel
theorem dX11_pass_52 : decode cX11_pass 52 = .ok (.invokevirtual 250, 3) := by decide +kernel
theorem dX11_pass_55 : decode cX11_pass 55 = .ok (.iinc 3 1, 3) := by decide +kernel
theorem dX11_pass_58 : decode cX11_pass 58 = .ok (.goto (-22), 3) := by decide +kernel
theorem dX11_pass_61 : decode cX11_pass 61 = .ok (.aload_n 0, 1) := by decide +kernel
theorem dX11_pass_62 : decode cX11_pass 62 = .ok (.dup, 1) := by decide +kernel
theorem dX11_pass_63 : decode cX11_pass 63 = .ok (.getfield 238, 3) := by decide +kernel
theorem dX11_pass_66 : decode cX11_pass 66 = .ok (.iconst 1, 1) := by decide +kernel
theorem dX11_pass_67 : decode cX11_pass 67 = .ok (.iadd, 1) := by decide +kernel
theorem dX11_pass_68 : decode cX11_pass 68 = .ok (.putfield 238, 3) := by decide +kernel
theorem dX11_pass_71 : decode cX11_pass 71 = .ok (.iinc 2 1, 3) := by decide +kernel
theorem dX11_pass_74 : decode cX11_pass 74 = .ok (.goto (-45), 3) := by decide +kernel
theorem dX11_pass_77 : decode cX11_pass 77 = .ok (.aload_n 0, 1) := by decide +kernel
theorem dX11_pass_78 : decode cX11_pass 78 = .ok (.getfield 238, 3) := by decide +kernel
theorem dX11_pass_81 : decode cX11_pass 81 = .ok (.ireturn, 1) := by decide +kernel
theorem dX11_towerTells_0 : decode cX11_towerTells 0 = .ok (.iload_n 2, 1) := by decide +kernel
theorem dX11_towerTells_1 : decode cX11_towerTells 1 = .ok (.tableswitch 139 0 7 #[47, 54, 61, 68, 83, 92, 103, 120], 47) := by decide +kernel
theorem dX11_towerTells_48 : decode cX11_towerTells 48 = .ok (.aload_n 0, 1) := by decide +kernel
theorem dX11_towerTells_49 : decode cX11_towerTells 49 = .ok (.getfield 75, 3) := by decide +kernel
theorem dX11_towerTells_52 : decode cX11_towerTells 52 = .ok (.iload_n 1, 1) := by decide +kernel
theorem dX11_towerTells_53 : decode cX11_towerTells 53 = .ok (.iaload, 1) := by decide +kernel
theorem dX11_towerTells_54 : decode cX11_towerTells 54 = .ok (.ireturn, 1) := by decide +kernel
theorem dX11_towerTells_55 : decode cX11_towerTells 55 = .ok (.aload_n 0, 1) := by decide +kernel
theorem dX11_towerTells_56 : decode cX11_towerTells 56 = .ok (.getfield 84, 3) := by decide +kernel
theorem dX11_towerTells_59 : decode cX11_towerTells 59 = .ok (.iload_n 1, 1) := by decide +kernel
theorem dX11_towerTells_60 : decode cX11_towerTells 60 = .ok (.iaload, 1) := by decide +kernel
theorem dX11_towerTells_61 : decode cX11_towerTells 61 = .ok (.ireturn, 1) := by decide +kernel
theorem dX11_towerTells_62 : decode cX11_towerTells 62 = .ok (.aload_n 0, 1) := by decide +kernel
theorem dX11_towerTells_63 : decode cX11_towerTells 63 = .ok (.getfield 81, 3) := by decide +kernel
theorem dX11_towerTells_66 : decode cX11_towerTells 66 = .ok (.iload_n 1, 1) := by decide +kernel
theorem dX11_towerTells_67 : decode cX11_towerTells 67 = .ok (.iaload, 1) := by decide +kernel
theorem dX11_towerTells_68 : decode cX11_towerTells 68 = .ok (.ireturn, 1) := by decide +kernel
theorem dX11_towerTells_69 : decode cX11_towerTells 69 = .ok (.aload_n 0, 1) := by decide +kernel
theorem dX11_towerTells_70 : decode cX11_towerTells 70 = .ok (.getfield 87, 3) := by decide +kernel
theorem dX11_towerTells_73 : decode cX11_towerTells 73 = .ok (.iload_n 1, 1) := by decide +kernel
theorem dX11_towerTells_74 : decode cX11_towerTells 74 = .ok (.baload, 1) := by decide +kernel
theorem dX11_towerTells_75 : decode cX11_towerTells 75 = .ok (.ifCond .eq 7, 3) := by decide +kernel
theorem dX11_towerTells_78 : decode cX11_towerTells 78 = .ok (.iconst 1, 1) := by decide +kernel
theorem dX11_towerTells_79 : decode cX11_towerTells 79 = .ok (.goto 4, 3) := by decide +kernel
theorem dX11_towerTells_82 : decode cX11_towerTells 82 = .ok (.iconst 0, 1) := by decide +kernel
theorem dX11_towerTells_83 : decode cX11_towerTells 83 = .ok (.ireturn, 1) := by decide +kernel
theorem dX11_towerTells_84 : decode cX11_towerTells 84 = .ok (.aload_n 0, 1) := by decide +kernel
theorem dX11_towerTells_85 : decode cX11_towerTells 85 = .ok (.getfield 99, 3) := by decide +kernel
theorem dX11_towerTells_88 : decode cX11_towerTells 88 = .ok (.iconst 2, 1) := by decide +kernel
theorem dX11_towerTells_89 : decode cX11_towerTells 89 = .ok (.iload_n 1, 1) := by decide +kernel
theorem dX11_towerTells_90 : decode cX11_towerTells 90 = .ok (.imul, 1) := by decide +kernel
theorem dX11_towerTells_91 : decode cX11_towerTells 91 = .ok (.iaload, 1) := by decide +kernel
theorem dX11_towerTells_92 : decode cX11_towerTells 92 = .ok (.ireturn, 1) := by decide +kernel
theorem dX11_towerTells_93 : decode cX11_towerTells 93 = .ok (.aload_n 0, 1) := by decide +kernel
theorem dX11_towerTells_94 : decode cX11_towerTells 94 = .ok (.getfield 99, 3) := by decide +kernel
theorem dX11_towerTells_97 : decode cX11_towerTells 97 = .ok (.iconst 2, 1) := by decide +kernel
theorem dX11_towerTells_98 : decode cX11_towerTells 98 = .ok (.iload_n 1, 1) := by decide +kernel
theorem dX11_towerTells_99 : decode cX11_towerTells 99 = .ok (.imul, 1) := by decide +kernel
theorem dX11_towerTells_100 : decode cX11_towerTells 100 = .ok (.iconst 1, 1) := by decide +kernel
theorem dX11_towerTells_101 : decode cX11_towerTells 101 = .ok (.iadd, 1) := by decide +kernel
theorem dX11_towerTells_102 : decode cX11_towerTells 102 = .ok (.iaload, 1) := by decide +kernel
theorem dX11_towerTells_103 : decode cX11_towerTells 103 = .ok (.ireturn, 1) := by decide +kernel
theorem dX11_towerTells_104 : decode cX11_towerTells 104 = .ok (.aload_n 0, 1) := by decide +kernel
theorem dX11_towerTells_105 : decode cX11_towerTells 105 = .ok (.getfield 102, 3) := by decide +kernel
theorem dX11_towerTells_108 : decode cX11_towerTells 108 = .ok (.iconst 2, 1) := by decide +kernel
theorem dX11_towerTells_109 : decode cX11_towerTells 109 = .ok (.iload_n 1, 1) := by decide +kernel
theorem dX11_towerTells_110 : decode cX11_towerTells 110 = .ok (.imul, 1) := by decide +kernel
theorem dX11_towerTells_111 : decode cX11_towerTells 111 = .ok (.baload, 1) := by decide +kernel
theorem dX11_towerTells_112 : decode cX11_towerTells 112 = .ok (.ifCond .eq 7, 3) := by decide +kernel
theorem dX11_towerTells_115 : decode cX11_towerTells 115 = .ok (.iconst 1, 1) := by decide +kernel
theorem dX11_towerTells_116 : decode cX11_towerTells 116 = .ok (.goto 4, 3) := by decide +kernel
theorem dX11_towerTells_119 : decode cX11_towerTells 119 = .ok (.iconst 0, 1) := by decide +kernel
theorem dX11_towerTells_120 : decode cX11_towerTells 120 = .ok (.ireturn, 1) := by decide +kernel
theorem dX11_towerTells_121 : decode cX11_towerTells 121 = .ok (.aload_n 0, 1) := by decide +kernel
theorem dX11_towerTells_122 : decode cX11_towerTells 122 = .ok (.getfield 102, 3) := by decide +kernel
theorem dX11_towerTells_125 : decode cX11_towerTells 125 = .ok (.iconst 2, 1) := by decide +kernel
theorem dX11_towerTells_126 : decode cX11_towerTells 126 = .ok (.iload_n 1, 1) := by decide +kernel
theorem dX11_towerTells_127 : decode cX11_towerTells 127 = .ok (.imul, 1) := by decide +kernel
theorem dX11_towerTells_128 : decode cX11_towerTells 128 = .ok (.iconst 1, 1) := by decide +kernel
theorem dX11_towerTells_129 : decode cX11_towerTells 129 = .ok (.iadd, 1) := by decide +kernel
theorem dX11_towerTells_130 : decode cX11_towerTells 130 = .ok (.baload, 1) := by decide +kernel
theorem dX11_towerTells_131 : decode cX11_towerTells 131 = .ok (.ifCond .eq 7, 3) := by decide +kernel
theorem dX11_towerTells_134 : decode cX11_towerTells 134 = .ok (.iconst 1, 1) := by decide +kernel
theorem dX11_towerTells_135 : decode cX11_towerTells 135 = .ok (.goto 4, 3) := by decide +kernel
theorem dX11_towerTells_138 : decode cX11_towerTells 138 = .ok (.iconst 0, 1) := by decide +kernel
theorem dX11_towerTells_139 : decode cX11_towerTells 139 = .ok (.ireturn, 1) := by decide +kernel
theorem dX11_towerTells_140 : decode cX11_towerTells 140 = .ok (.aload_n 0, 1) := by decide +kernel
theorem dX11_towerTells_141 : decode cX11_towerTells 141 = .ok (.iload_n 1, 1) := by decide +kernel
theorem dX11_towerTells_142 : decode cX11_towerTells 142 = .ok (.invokevirtual 218, 3) := by decide +kernel
theorem dX11_towerTells_145 : decode cX11_towerTells 145 = .ok (.ireturn, 1) := by decide +kernel
theorem dX11_tells_0 : decode cX11_tells 0 = .ok (.iload_n 2, 1) := by decide +kernel
theorem dX11_tells_1 : decode cX11_tells 1 = .ok (.iconst 0, 1) := by decide +kernel
theorem dX11_tells_2 : decode cX11_tells 2 = .ok (.bipush 8, 2) := by decide +kernel
theorem dX11_tells_4 : decode cX11_tells 4 = .ok (.invokestatic 145, 3) := by decide +kernel
theorem dX11_tells_7 : decode cX11_tells 7 = .ok (.ifCond .ne 5, 3) := by decide +kernel
theorem dX11_tells_10 : decode cX11_tells 10 = .ok (.iconst (-1), 1) := by decide +kernel
theorem dX11_tells_11 : decode cX11_tells 11 = .ok (.ireturn, 1) := by decide +kernel
theorem dX11_tells_12 : decode cX11_tells 12 = .ok (.aload_n 0, 1) := by decide +kernel
theorem dX11_tells_13 : decode cX11_tells 13 = .ok (.iload_n 1, 1) := by decide +kernel
theorem dX11_tells_14 : decode cX11_tells 14 = .ok (.invokevirtual 203, 3) := by decide +kernel
theorem dX11_tells_17 : decode cX11_tells 17 = .ok (.istore_n 3, 1) := by decide +kernel
theorem dX11_tells_18 : decode cX11_tells 18 = .ok (.iload_n 3, 1) := by decide +kernel
theorem dX11_tells_19 : decode cX11_tells 19 = .ok (.ifCond .ge 7, 3) := by decide +kernel
theorem dX11_tells_22 : decode cX11_tells 22 = .ok (.iload_n 3, 1) := by decide +kernel
theorem dX11_tells_23 : decode cX11_tells 23 = .ok (.goto 9, 3) := by decide +kernel
theorem dX11_tells_26 : decode cX11_tells 26 = .ok (.aload_n 0, 1) := by decide +kernel
theorem dX11_tells_27 : decode cX11_tells 27 = .ok (.iload_n 1, 1) := by decide +kernel
theorem dX11_tells_28 : decode cX11_tells 28 = .ok (.iload_n 2, 1) := by decide +kernel
theorem dX11_tells_29 : decode cX11_tells 29 = .ok (.invokevirtual 253, 3) := by decide +kernel
theorem dX11_tells_32 : decode cX11_tells 32 = .ok (.ireturn, 1) := by decide +kernel
theorem dX11_log_0 : decode cX11_log 0 = .ok (.iload_n 3, 1) := by decide +kernel
theorem dX11_log_1 : decode cX11_log 1 = .ok (.iconst 0, 1) := by decide +kernel
theorem dX11_log_2 : decode cX11_log 2 = .ok (.iconst 3, 1) := by decide +kernel
theorem dX11_log_3 : decode cX11_log 3 = .ok (.invokestatic 145, 3) := by decide +kernel
theorem dX11_log_6 : decode cX11_log 6 = .ok (.ifCond .ne 5, 3) := by decide +kernel
theorem dX11_log_9 : decode cX11_log 9 = .ok (.iconst (-1), 1) := by decide +kernel
theorem dX11_log_10 : decode cX11_log 10 = .ok (.ireturn, 1) := by decide +kernel
theorem dX11_log_11 : decode cX11_log 11 = .ok (.aload_n 0, 1) := by decide +kernel
theorem dX11_log_12 : decode cX11_log 12 = .ok (.iload_n 1, 1) := by decide +kernel
theorem dX11_log_13 : decode cX11_log 13 = .ok (.invokevirtual 203, 3) := by decide +kernel
theorem dX11_log_16 : decode cX11_log 16 = .ok (.istore 4, 2) := by decide +kernel
theorem dX11_log_18 : decode cX11_log 18 = .ok (.iload 4, 2) := by decide +kernel
theorem dX11_log_20 : decode cX11_log 20 = .ok (.ifCond .ge 6, 3) := by decide +kernel
theorem dX11_log_23 : decode cX11_log 23 = .ok (.iload 4, 2) := by decide +kernel
theorem dX11_log_25 : decode cX11_log 25 = .ok (.ireturn, 1) := by decide +kernel
theorem dX11_log_26 : decode cX11_log 26 = .ok (.iload_n 2, 1) := by decide +kernel
theorem dX11_log_27 : decode cX11_log 27 = .ok (.iconst 0, 1) := by decide +kernel
theorem dX11_log_28 : decode cX11_log 28 = .ok (.aload_n 0, 1) := by decide +kernel
theorem dX11_log_29 : decode cX11_log 29 = .ok (.getfield 105, 3) := by decide +kernel
theorem dX11_log_32 : decode cX11_log 32 = .ok (.iload_n 1, 1) := by decide +kernel
theorem dX11_log_33 : decode cX11_log 33 = .ok (.iaload, 1) := by decide +kernel
theorem dX11_log_34 : decode cX11_log 34 = .ok (.iconst 1, 1) := by decide +kernel
theorem dX11_log_35 : decode cX11_log 35 = .ok (.isub, 1) := by decide +kernel
theorem dX11_log_36 : decode cX11_log 36 = .ok (.invokestatic 145, 3) := by decide +kernel
theorem dX11_log_39 : decode cX11_log 39 = .ok (.ifCond .eq 31, 3) := by decide +kernel
theorem dX11_log_42 : decode cX11_log 42 = .ok (.aload_n 0, 1) := by decide +kernel
theorem dX11_log_43 : decode cX11_log 43 = .ok (.getfield 108, 3) := by decide +kernel
theorem dX11_log_46 : decode cX11_log 46 = .ok (.sipush 240, 3) := by decide +kernel
theorem dX11_log_49 : decode cX11_log 49 = .ok (.iload_n 1, 1) := by decide +kernel
theorem dX11_log_50 : decode cX11_log 50 = .ok (.imul, 1) := by decide +kernel
theorem dX11_log_51 : decode cX11_log 51 = .ok (.iconst 4, 1) := by decide +kernel
theorem dX11_log_52 : decode cX11_log 52 = .ok (.aload_n 0, 1) := by decide +kernel
theorem dX11_log_53 : decode cX11_log 53 = .ok (.getfield 105, 3) := by decide +kernel
theorem dX11_log_56 : decode cX11_log 56 = .ok (.iload_n 1, 1) := by decide +kernel
theorem dX11_log_57 : decode cX11_log 57 = .ok (.iaload, 1) := by decide +kernel
theorem dX11_log_58 : decode cX11_log 58 = .ok (.iconst 1, 1) := by decide +kernel
theorem dX11_log_59 : decode cX11_log 59 = .ok (.isub, 1) := by decide +kernel
theorem dX11_log_60 : decode cX11_log 60 = .ok (.iload_n 2, 1) := by decide +kernel
theorem dX11_log_61 : decode cX11_log 61 = .ok (.isub, 1) := by decide +kernel
theorem dX11_log_62 : decode cX11_log 62 = .ok (.imul, 1) := by decide +kernel
theorem dX11_log_63 : decode cX11_log 63 = .ok (.iadd, 1) := by decide +kernel
theorem dX11_log_64 : decode cX11_log 64 = .ok (.iload_n 3, 1) := by decide +kernel
theorem dX11_log_65 : decode cX11_log 65 = .ok (.iadd, 1) := by decide +kernel
theorem dX11_log_66 : decode cX11_log 66 = .ok (.iaload, 1) := by decide +kernel
theorem dX11_log_67 : decode cX11_log 67 = .ok (.goto 5, 3) := by decide +kernel
theorem dX11_log_70 : decode cX11_log 70 = .ok (.bipush (-9), 2) := by decide +kernel
theorem dX11_log_72 : decode cX11_log 72 = .ok (.ireturn, 1) := by decide +kernel
theorem dX11_heard_0 : decode cX11_heard 0 = .ok (.iload_n 2, 1) := by decide +kernel
theorem dX11_heard_1 : decode cX11_heard 1 = .ok (.ifCond .lt 8, 3) := by decide +kernel
theorem dX11_heard_4 : decode cX11_heard 4 = .ok (.iload_n 2, 1) := by decide +kernel
theorem dX11_heard_5 : decode cX11_heard 5 = .ok (.iload_n 3, 1) := by decide +kernel
theorem dX11_heard_6 : decode cX11_heard 6 = .ok (.if_icmp .le 5, 3) := by decide +kernel
theorem dX11_heard_9 : decode cX11_heard 9 = .ok (.iconst (-1), 1) := by decide +kernel
theorem dX11_heard_10 : decode cX11_heard 10 = .ok (.ireturn, 1) := by decide +kernel
theorem dX11_heard_11 : decode cX11_heard 11 = .ok (.aload_n 0, 1) := by decide +kernel
theorem dX11_heard_12 : decode cX11_heard 12 = .ok (.iload_n 1, 1) := by decide +kernel
theorem dX11_heard_13 : decode cX11_heard 13 = .ok (.invokevirtual 203, 3) := by decide +kernel
theorem dX11_heard_16 : decode cX11_heard 16 = .ok (.istore 4, 2) := by decide +kernel
theorem dX11_heard_18 : decode cX11_heard 18 = .ok (.iload 4, 2) := by decide +kernel
theorem dX11_heard_20 : decode cX11_heard 20 = .ok (.ifCond .ge 6, 3) := by decide +kernel
theorem dX11_heard_23 : decode cX11_heard 23 = .ok (.iload 4, 2) := by decide +kernel
theorem dX11_heard_25 : decode cX11_heard 25 = .ok (.ireturn, 1) := by decide +kernel
theorem dX11_heard_26 : decode cX11_heard 26 = .ok (.iconst 0, 1) := by decide +kernel
theorem dX11_heard_27 : decode cX11_heard 27 = .ok (.istore 5, 2) := by decide +kernel
theorem dX11_heard_29 : decode cX11_heard 29 = .ok (.iconst 0, 1) := by decide +kernel
theorem dX11_heard_30 : decode cX11_heard 30 = .ok (.istore 6, 2) := by decide +kernel
theorem dX11_heard_32 : decode cX11_heard 32 = .ok (.iload 6, 2) := by decide +kernel
theorem dX11_heard_34 : decode cX11_heard 34 = .ok (.aload_n 0, 1) := by decide +kernel
theorem dX11_heard_35 : decode cX11_heard 35 = .ok (.getfield 105, 3) := by decide +kernel
theorem dX11_heard_38 : decode cX11_heard 38 = .ok (.iload_n 1, 1) := by decide +kernel
theorem dX11_heard_39 : decode cX11_heard 39 = .ok (.iaload, 1) := by decide +kernel
theorem dX11_heard_40 : decode cX11_heard 40 = .ok (.if_icmp .ge 54, 3) := by decide +kernel
theorem dX11_heard_43 : decode cX11_heard 43 = .ok (.sipush 240, 3) := by decide +kernel
theorem dX11_heard_46 : decode cX11_heard 46 = .ok (.iload_n 1, 1) := by decide +kernel
theorem dX11_heard_47 : decode cX11_heard 47 = .ok (.imul, 1) := by decide +kernel
theorem dX11_heard_48 : decode cX11_heard 48 = .ok (.iconst 4, 1) := by decide +kernel
theorem dX11_heard_49 : decode cX11_heard 49 = .ok (.iload 6, 2) := by decide +kernel
theorem dX11_heard_51 : decode cX11_heard 51 = .ok (.imul, 1) := by decide +kernel
theorem dX11_heard_52 : decode cX11_heard 52 = .ok (.iadd, 1) := by decide +kernel
theorem dX11_heard_53 : decode cX11_heard 53 = .ok (.istore 7, 2) := by decide +kernel
theorem dX11_heard_55 : decode cX11_heard 55 = .ok (.iload 5, 2) := by decide +kernel
theorem dX11_heard_57 : decode cX11_heard 57 = .ok (.aload_n 0, 1) := by decide +kernel
theorem dX11_heard_58 : decode cX11_heard 58 = .ok (.getfield 108, 3) := by decide +kernel
theorem dX11_heard_61 : decode cX11_heard 61 = .ok (.iload 7, 2) := by decide +kernel
theorem dX11_heard_63 : decode cX11_heard 63 = .ok (.iaload, 1) := by decide +kernel
theorem dX11_heard_64 : decode cX11_heard 64 = .ok (.iload_n 2, 1) := by decide +kernel
theorem dX11_heard_65 : decode cX11_heard 65 = .ok (.iload_n 3, 1) := by decide +kernel
theorem dX11_heard_66 : decode cX11_heard 66 = .ok (.invokestatic 145, 3) := by decide +kernel
theorem dX11_heard_69 : decode cX11_heard 69 = .ok (.ifCond .eq 15, 3) := by decide +kernel
theorem dX11_heard_72 : decode cX11_heard 72 = .ok (.aload_n 0, 1) := by decide +kernel
theorem dX11_heard_73 : decode cX11_heard 73 = .ok (.getfield 108, 3) := by decide +kernel
theorem dX11_heard_76 : decode cX11_heard 76 = .ok (.iload 7, 2) := by decide +kernel
theorem dX11_heard_78 : decode cX11_heard 78 = .ok (.iconst 2, 1) := by decide +kernel
theorem dX11_heard_79 : decode cX11_heard 79 = .ok (.iadd, 1) := by decide +kernel
theorem dX11_heard_80 : decode cX11_heard 80 = .ok (.iaload, 1) := by decide +kernel
theorem dX11_heard_81 : decode cX11_heard 81 = .ok (.goto 4, 3) := by decide +kernel
theorem dX11_heard_84 : decode cX11_heard 84 = .ok (.iconst 0, 1) := by decide +kernel
theorem dX11_heard_85 : decode cX11_heard 85 = .ok (.iadd, 1) := by decide +kernel
theorem dX11_heard_86 : decode cX11_heard 86 = .ok (.istore 5, 2) := by decide +kernel
theorem dX11_heard_88 : decode cX11_heard 88 = .ok (.iinc 6 1, 3) := by decide +kernel
theorem dX11_heard_91 : decode cX11_heard 91 = .ok (.goto (-59), 3) := by decide +kernel
theorem dX11_heard_94 : decode cX11_heard 94 = .ok (.iload 5, 2) := by decide +kernel
theorem dX11_heard_96 : decode cX11_heard 96 = .ok (.ireturn, 1) := by decide +kernel
theorem dX11_askedTwo_0 : decode cX11_askedTwo 0 = .ok (.iload_n 1, 1) := by decide +kernel
theorem dX11_askedTwo_1 : decode cX11_askedTwo 1 = .ok (.invokestatic 193, 3) := by decide +kernel
theorem dX11_askedTwo_4 : decode cX11_askedTwo 4 = .ok (.ifCond .eq 10, 3) := by decide +kernel
theorem dX11_askedTwo_7 : decode cX11_askedTwo 7 = .ok (.iload_n 2, 1) := by decide +kernel
theorem dX11_askedTwo_8 : decode cX11_askedTwo 8 = .ok (.invokestatic 193, 3) := by decide +kernel
theorem dX11_askedTwo_11 : decode cX11_askedTwo 11 = .ok (.ifCond .ne 7, 3) := by decide +kernel
theorem dX11_askedTwo_14 : decode cX11_askedTwo 14 = .ok (.iconst (-1), 1) := by decide +kernel
theorem dX11_askedTwo_15 : decode cX11_askedTwo 15 = .ok (.goto 30, 3) := by decide +kernel
theorem dX11_askedTwo_18 : decode cX11_askedTwo 18 = .ok (.aload_n 0, 1) := by decide +kernel
theorem dX11_askedTwo_19 : decode cX11_askedTwo 19 = .ok (.getfield 72, 3) := by decide +kernel
theorem dX11_askedTwo_22 : decode cX11_askedTwo 22 = .ok (.iload_n 1, 1) := by decide +kernel
theorem dX11_askedTwo_23 : decode cX11_askedTwo 23 = .ok (.baload, 1) := by decide +kernel
theorem dX11_askedTwo_24 : decode cX11_askedTwo 24 = .ok (.ifCond .eq 16, 3) := by decide +kernel
theorem dX11_askedTwo_27 : decode cX11_askedTwo 27 = .ok (.aload_n 0, 1) := by decide +kernel
theorem dX11_askedTwo_28 : decode cX11_askedTwo 28 = .ok (.getfield 72, 3) := by decide +kernel
theorem dX11_askedTwo_31 : decode cX11_askedTwo 31 = .ok (.iload_n 2, 1) := by decide +kernel
theorem dX11_askedTwo_32 : decode cX11_askedTwo 32 = .ok (.baload, 1) := by decide +kernel
theorem dX11_askedTwo_33 : decode cX11_askedTwo 33 = .ok (.ifCond .eq 7, 3) := by decide +kernel
theorem dX11_askedTwo_36 : decode cX11_askedTwo 36 = .ok (.iconst 0, 1) := by decide +kernel
theorem dX11_askedTwo_37 : decode cX11_askedTwo 37 = .ok (.goto 8, 3) := by decide +kernel
theorem dX11_askedTwo_40 : decode cX11_askedTwo 40 = .ok (.aload_n 0, 1) := by decide +kernel
theorem dX11_askedTwo_41 : decode cX11_askedTwo 41 = .ok (.iconst 1, 1) := by decide +kernel
theorem dX11_askedTwo_42 : decode cX11_askedTwo 42 = .ok (.invokevirtual 153, 3) := by decide +kernel
theorem dX11_askedTwo_45 : decode cX11_askedTwo 45 = .ok (.ireturn, 1) := by decide +kernel
theorem dX11_ahead_0 : decode cX11_ahead 0 = .ok (.aload_n 0, 1) := by decide +kernel
theorem dX11_ahead_1 : decode cX11_ahead 1 = .ok (.iload_n 1, 1) := by decide +kernel
theorem dX11_ahead_2 : decode cX11_ahead 2 = .ok (.iload_n 2, 1) := by decide +kernel
theorem dX11_ahead_3 : decode cX11_ahead 3 = .ok (.invokevirtual 256, 3) := by decide +kernel
theorem dX11_ahead_6 : decode cX11_ahead 6 = .ok (.istore_n 3, 1) := by decide +kernel
theorem dX11_ahead_7 : decode cX11_ahead 7 = .ok (.iload_n 3, 1) := by decide +kernel
theorem dX11_ahead_8 : decode cX11_ahead 8 = .ok (.ifCond .ge 5, 3) := by decide +kernel
theorem dX11_ahead_11 : decode cX11_ahead 11 = .ok (.iload_n 3, 1) := by decide +kernel
theorem dX11_ahead_12 : decode cX11_ahead 12 = .ok (.ireturn, 1) := by decide +kernel
theorem dX11_ahead_13 : decode cX11_ahead 13 = .ok (.aload_n 0, 1) := by decide +kernel
theorem dX11_ahead_14 : decode cX11_ahead 14 = .ok (.getfield 75, 3) := by decide +kernel
theorem dX11_ahead_17 : decode cX11_ahead 17 = .ok (.iload_n 1, 1) := by decide +kernel
theorem dX11_ahead_18 : decode cX11_ahead 18 = .ok (.iaload, 1) := by decide +kernel
theorem dX11_ahead_19 : decode cX11_ahead 19 = .ok (.sipush 1440, 3) := by decide +kernel
theorem dX11_ahead_22 : decode cX11_ahead 22 = .ok (.iadd, 1) := by decide +kernel
theorem dX11_ahead_23 : decode cX11_ahead 23 = .ok (.aload_n 0, 1) := by decide +kernel
theorem dX11_ahead_24 : decode cX11_ahead 24 = .ok (.getfield 75, 3) := by decide +kernel
theorem dX11_ahead_27 : decode cX11_ahead 27 = .ok (.iload_n 2, 1) := by decide +kernel
theorem dX11_ahead_28 : decode cX11_ahead 28 = .ok (.iaload, 1) := by decide +kernel
theorem dX11_ahead_29 : decode cX11_ahead 29 = .ok (.isub, 1) := by decide +kernel
theorem dX11_ahead_30 : decode cX11_ahead 30 = .ok (.sipush 1440, 3) := by decide +kernel
theorem dX11_ahead_33 : decode cX11_ahead 33 = .ok (.irem, 1) := by decide +kernel
theorem dX11_ahead_34 : decode cX11_ahead 34 = .ok (.istore 4, 2) := by decide +kernel
theorem dX11_ahead_36 : decode cX11_ahead 36 = .ok (.iload 4, 2) := by decide +kernel
theorem dX11_ahead_38 : decode cX11_ahead 38 = .ok (.sipush 720, 3) := by decide +kernel
theorem dX11_ahead_41 : decode cX11_ahead 41 = .ok (.if_icmp .le 12, 3) := by decide +kernel
theorem dX11_ahead_44 : decode cX11_ahead 44 = .ok (.iload 4, 2) := by decide +kernel
theorem dX11_ahead_46 : decode cX11_ahead 46 = .ok (.sipush 1440, 3) := by decide +kernel
theorem dX11_ahead_49 : decode cX11_ahead 49 = .ok (.isub, 1) := by decide +kernel
theorem dX11_ahead_50 : decode cX11_ahead 50 = .ok (.goto 5, 3) := by decide +kernel
theorem dX11_ahead_53 : decode cX11_ahead 53 = .ok (.iload 4, 2) := by decide +kernel
theorem dX11_ahead_55 : decode cX11_ahead 55 = .ok (.ireturn, 1) := by decide +kernel
theorem dX11_meet_0 : decode cX11_meet 0 = .ok (.aload_n 0, 1) := by decide +kernel
theorem dX11_meet_1 : decode cX11_meet 1 = .ok (.iload_n 1, 1) := by decide +kernel
theorem dX11_meet_2 : decode cX11_meet 2 = .ok (.iload_n 2, 1) := by decide +kernel
theorem dX11_meet_3 : decode cX11_meet 3 = .ok (.invokevirtual 256, 3) := by decide +kernel
theorem dX11_meet_6 : decode cX11_meet 6 = .ok (.istore_n 3, 1) := by decide +kernel
theorem dX11_meet_7 : decode cX11_meet 7 = .ok (.iload_n 3, 1) := by decide +kernel
theorem dX11_meet_8 : decode cX11_meet 8 = .ok (.ifCond .ge 5, 3) := by decide +kernel
theorem dX11_meet_11 : decode cX11_meet 11 = .ok (.iload_n 3, 1) := by decide +kernel
theorem dX11_meet_12 : decode cX11_meet 12 = .ok (.ireturn, 1) := by decide +kernel
theorem dX11_meet_13 : decode cX11_meet 13 = .ok (.aload_n 0, 1) := by decide +kernel
theorem dX11_meet_14 : decode cX11_meet 14 = .ok (.getfield 87, 3) := by decide +kernel
theorem dX11_meet_17 : decode cX11_meet 17 = .ok (.iload_n 1, 1) := by decide +kernel
theorem dX11_meet_18 : decode cX11_meet 18 = .ok (.baload, 1) := by decide +kernel
theorem dX11_meet_19 : decode cX11_meet 19 = .ok (.ifCond .eq 12, 3) := by decide +kernel
theorem dX11_meet_22 : decode cX11_meet 22 = .ok (.aload_n 0, 1) := by decide +kernel
theorem dX11_meet_23 : decode cX11_meet 23 = .ok (.getfield 87, 3) := by decide +kernel
theorem dX11_meet_26 : decode cX11_meet 26 = .ok (.iload_n 2, 1) := by decide +kernel
theorem dX11_meet_27 : decode cX11_meet 27 = .ok (.baload, 1) := by decide +kernel
theorem dX11_meet_28 : decode cX11_meet 28 = .ok (.ifCond .ne 6, 3) := by decide +kernel
theorem dX11_meet_31 : decode cX11_meet 31 = .ok (.bipush (-4), 2) := by decide +kernel
theorem dX11_meet_33 : decode cX11_meet 33 = .ok (.ireturn, 1) := by decide +kernel
theorem dX11_meet_34 : decode cX11_meet 34 = .ok (.ldc2_w 259, 3) := by decide +kernel
theorem dX11_meet_37 : decode cX11_meet 37 = .ok (.lstore 4, 2) := by decide +kernel
theorem dX11_meet_39 : decode cX11_meet 39 = .ok (.aload_n 0, 1) := by decide +kernel
theorem dX11_meet_40 : decode cX11_meet 40 = .ok (.getfield 75, 3) := by decide +kernel
theorem dX11_meet_43 : decode cX11_meet 43 = .ok (.iload_n 1, 1) := by decide +kernel
theorem dX11_meet_44 : decode cX11_meet 44 = .ok (.iaload, 1) := by decide +kernel
theorem dX11_meet_45 : decode cX11_meet 45 = .ok (.aload_n 0, 1) := by decide +kernel
theorem dX11_meet_46 : decode cX11_meet 46 = .ok (.getfield 75, 3) := by decide +kernel
theorem dX11_meet_49 : decode cX11_meet 49 = .ok (.iload_n 2, 1) := by decide +kernel
theorem dX11_meet_50 : decode cX11_meet 50 = .ok (.iaload, 1) := by decide +kernel
theorem dX11_meet_51 : decode cX11_meet 51 = .ok (.isub, 1) := by decide +kernel
theorem dX11_meet_52 : decode cX11_meet 52 = .ok (.i2l, 1) := by decide +kernel
theorem dX11_meet_53 : decode cX11_meet 53 = .ok (.ldc2_w 261, 3) := by decide +kernel
theorem dX11_meet_56 : decode cX11_meet 56 = .ok (.lmul, 1) := by decide +kernel
theorem dX11_meet_57 : decode cX11_meet 57 = .ok (.aload_n 0, 1) := by decide +kernel
theorem dX11_meet_58 : decode cX11_meet 58 = .ok (.getfield 84, 3) := by decide +kernel
theorem dX11_meet_61 : decode cX11_meet 61 = .ok (.iload_n 1, 1) := by decide +kernel
theorem dX11_meet_62 : decode cX11_meet 62 = .ok (.iaload, 1) := by decide +kernel
theorem dX11_meet_63 : decode cX11_meet 63 = .ok (.i2l, 1) := by decide +kernel
theorem dX11_meet_64 : decode cX11_meet 64 = .ok (.ladd, 1) := by decide +kernel
theorem dX11_meet_65 : decode cX11_meet 65 = .ok (.aload_n 0, 1) := by decide +kernel
theorem dX11_meet_66 : decode cX11_meet 66 = .ok (.getfield 84, 3) := by decide +kernel
theorem dX11_meet_69 : decode cX11_meet 69 = .ok (.iload_n 2, 1) := by decide +kernel
theorem dX11_meet_70 : decode cX11_meet 70 = .ok (.iaload, 1) := by decide +kernel
theorem dX11_meet_71 : decode cX11_meet 71 = .ok (.i2l, 1) := by decide +kernel
theorem dX11_meet_72 : decode cX11_meet 72 = .ok (.lsub, 1) := by decide +kernel
theorem dX11_meet_73 : decode cX11_meet 73 = .ok (.lstore 6, 2) := by decide +kernel
theorem dX11_meet_75 : decode cX11_meet 75 = .ok (.lload 6, 2) := by decide +kernel
theorem dX11_meet_77 : decode cX11_meet 77 = .ok (.lload 4, 2) := by decide +kernel
theorem dX11_meet_79 : decode cX11_meet 79 = .ok (.lrem, 1) := by decide +kernel
theorem dX11_meet_80 : decode cX11_meet 80 = .ok (.lload 4, 2) := by decide +kernel
theorem dX11_meet_82 : decode cX11_meet 82 = .ok (.ladd, 1) := by decide +kernel
theorem dX11_meet_83 : decode cX11_meet 83 = .ok (.lload 4, 2) := by decide +kernel
theorem dX11_meet_85 : decode cX11_meet 85 = .ok (.lrem, 1) := by decide +kernel
theorem dX11_meet_86 : decode cX11_meet 86 = .ok (.lstore 6, 2) := by decide +kernel
theorem dX11_meet_88 : decode cX11_meet 88 = .ok (.aload_n 0, 1) := by decide +kernel
theorem dX11_meet_89 : decode cX11_meet 89 = .ok (.getfield 78, 3) := by decide +kernel
theorem dX11_meet_92 : decode cX11_meet 92 = .ok (.iload_n 1, 1) := by decide +kernel
theorem dX11_meet_93 : decode cX11_meet 93 = .ok (.iaload, 1) := by decide +kernel
theorem dX11_meet_94 : decode cX11_meet 94 = .ok (.aload_n 0, 1) := by decide +kernel
theorem dX11_meet_95 : decode cX11_meet 95 = .ok (.getfield 78, 3) := by decide +kernel
theorem dX11_meet_98 : decode cX11_meet 98 = .ok (.iload_n 2, 1) := by decide +kernel
theorem dX11_meet_99 : decode cX11_meet 99 = .ok (.iaload, 1) := by decide +kernel
theorem dX11_meet_100 : decode cX11_meet 100 = .ok (.isub, 1) := by decide +kernel
theorem dX11_meet_101 : decode cX11_meet 101 = .ok (.i2l, 1) := by decide +kernel
theorem dX11_meet_102 : decode cX11_meet 102 = .ok (.lstore 8, 2) := by decide +kernel
theorem dX11_meet_104 : decode cX11_meet 104 = .ok (.lload 6, 2) := by decide +kernel
theorem dX11_meet_106 : decode cX11_meet 106 = .ok (.lconst 0, 1) := by decide +kernel
theorem dX11_meet_107 : decode cX11_meet 107 = .ok (.lcmp, 1) := by decide +kernel
theorem dX11_meet_108 : decode cX11_meet 108 = .ok (.ifCond .eq 10, 3) := by decide +kernel
theorem dX11_meet_111 : decode cX11_meet 111 = .ok (.lload 8, 2) := by decide +kernel
theorem dX11_meet_113 : decode cX11_meet 113 = .ok (.lconst 0, 1) := by decide +kernel
theorem dX11_meet_114 : decode cX11_meet 114 = .ok (.lcmp, 1) := by decide +kernel
theorem dX11_meet_115 : decode cX11_meet 115 = .ok (.ifCond .ne 17, 3) := by decide +kernel
theorem dX11_meet_118 : decode cX11_meet 118 = .ok (.lload 6, 2) := by decide +kernel
theorem dX11_meet_120 : decode cX11_meet 120 = .ok (.lconst 0, 1) := by decide +kernel
theorem dX11_meet_121 : decode cX11_meet 121 = .ok (.lcmp, 1) := by decide +kernel
theorem dX11_meet_122 : decode cX11_meet 122 = .ok (.ifCond .ne 7, 3) := by decide +kernel
theorem dX11_meet_125 : decode cX11_meet 125 = .ok (.iconst 0, 1) := by decide +kernel
theorem dX11_meet_126 : decode cX11_meet 126 = .ok (.goto 5, 3) := by decide +kernel
theorem dX11_meet_129 : decode cX11_meet 129 = .ok (.bipush (-9), 2) := by decide +kernel
theorem dX11_meet_131 : decode cX11_meet 131 = .ok (.ireturn, 1) := by decide +kernel
theorem dX11_meet_132 : decode cX11_meet 132 = .ok (.lload 8, 2) := by decide +kernel
theorem dX11_meet_134 : decode cX11_meet 134 = .ok (.lconst 0, 1) := by decide +kernel
theorem dX11_meet_135 : decode cX11_meet 135 = .ok (.lcmp, 1) := by decide +kernel
theorem dX11_meet_136 : decode cX11_meet 136 = .ok (.ifCond .le 11, 3) := by decide +kernel
theorem dX11_meet_139 : decode cX11_meet 139 = .ok (.lload 4, 2) := by decide +kernel
theorem dX11_meet_141 : decode cX11_meet 141 = .ok (.lload 6, 2) := by decide +kernel
theorem dX11_meet_143 : decode cX11_meet 143 = .ok (.lsub, 1) := by decide +kernel
theorem dX11_meet_144 : decode cX11_meet 144 = .ok (.goto 5, 3) := by decide +kernel
theorem dX11_meet_147 : decode cX11_meet 147 = .ok (.lload 6, 2) := by decide +kernel
theorem dX11_meet_149 : decode cX11_meet 149 = .ok (.lstore 10, 2) := by decide +kernel
theorem dX11_meet_151 : decode cX11_meet 151 = .ok (.lload 8, 2) := by decide +kernel
theorem dX11_meet_153 : decode cX11_meet 153 = .ok (.lconst 0, 1) := by decide +kernel
theorem dX11_meet_154 : decode cX11_meet 154 = .ok (.lcmp, 1) := by decide +kernel
theorem dX11_meet_155 : decode cX11_meet 155 = .ok (.ifCond .le 8, 3) := by decide +kernel
theorem dX11_meet_158 : decode cX11_meet 158 = .ok (.lload 8, 2) := by decide +kernel
theorem dX11_meet_160 : decode cX11_meet 160 = .ok (.goto 6, 3) := by decide +kernel
theorem dX11_meet_163 : decode cX11_meet 163 = .ok (.lload 8, 2) := by decide +kernel
theorem dX11_meet_165 : decode cX11_meet 165 = .ok (.lneg, 1) := by decide +kernel
theorem dX11_meet_166 : decode cX11_meet 166 = .ok (.lstore 12, 2) := by decide +kernel
theorem dX11_meet_168 : decode cX11_meet 168 = .ok (.lload 10, 2) := by decide +kernel
theorem dX11_meet_170 : decode cX11_meet 170 = .ok (.lload 12, 2) := by decide +kernel
theorem dX11_meet_172 : decode cX11_meet 172 = .ok (.ladd, 1) := by decide +kernel
theorem dX11_meet_173 : decode cX11_meet 173 = .ok (.lconst 1, 1) := by decide +kernel
theorem dX11_meet_174 : decode cX11_meet 174 = .ok (.lsub, 1) := by decide +kernel
theorem dX11_meet_175 : decode cX11_meet 175 = .ok (.lload 12, 2) := by decide +kernel
theorem dX11_meet_177 : decode cX11_meet 177 = .ok (.ldiv, 1) := by decide +kernel
theorem dX11_meet_178 : decode cX11_meet 178 = .ok (.l2i, 1) := by decide +kernel
theorem dX11_meet_179 : decode cX11_meet 179 = .ok (.ireturn, 1) := by decide +kernel
theorem dX11_nextHour_0 : decode cX11_nextHour 0 = .ok (.aload_n 0, 1) := by decide +kernel
theorem dX11_nextHour_1 : decode cX11_nextHour 1 = .ok (.getfield 75, 3) := by decide +kernel
theorem dX11_nextHour_4 : decode cX11_nextHour 4 = .ok (.iload_n 1, 1) := by decide +kernel
theorem dX11_nextHour_5 : decode cX11_nextHour 5 = .ok (.iaload, 1) := by decide +kernel
theorem dX11_nextHour_6 : decode cX11_nextHour 6 = .ok (.bipush 60, 2) := by decide +kernel
theorem dX11_nextHour_8 : decode cX11_nextHour 8 = .ok (.iadd, 1) := by decide +kernel
theorem dX11_nextHour_9 : decode cX11_nextHour 9 = .ok (.sipush 1440, 3) := by decide +kernel
theorem dX11_nextHour_12 : decode cX11_nextHour 12 = .ok (.irem, 1) := by decide +kernel
theorem dX11_nextHour_13 : decode cX11_nextHour 13 = .ok (.invokestatic 209, 3) := by decide +kernel
theorem dX11_nextHour_16 : decode cX11_nextHour 16 = .ok (.ireturn, 1) := by decide +kernel
theorem dX11_rightNotch_0 : decode cX11_rightNotch 0 = .ok (.aload_n 0, 1) := by decide +kernel
theorem dX11_rightNotch_1 : decode cX11_rightNotch 1 = .ok (.getfield 99, 3) := by decide +kernel
theorem dX11_rightNotch_4 : decode cX11_rightNotch 4 = .ok (.iload_n 1, 1) := by decide +kernel
theorem dX11_rightNotch_5 : decode cX11_rightNotch 5 = .ok (.iload_n 2, 1) := by decide +kernel
theorem dX11_rightNotch_6 : decode cX11_rightNotch 6 = .ok (.invokestatic 200, 3) := by decide +kernel
theorem dX11_rightNotch_9 : decode cX11_rightNotch 9 = .ok (.iaload, 1) := by decide +kernel
theorem dX11_rightNotch_10 : decode cX11_rightNotch 10 = .ok (.istore_n 3, 1) := by decide +kernel
theorem dX11_rightNotch_11 : decode cX11_rightNotch 11 = .ok (.iload_n 2, 1) := by decide +kernel
theorem dX11_rightNotch_12 : decode cX11_rightNotch 12 = .ok (.ifCond .eq 25, 3) := by decide +kernel
theorem dX11_rightNotch_15 : decode cX11_rightNotch 15 = .ok (.aload_n 0, 1) := by decide +kernel
theorem dX11_rightNotch_16 : decode cX11_rightNotch 16 = .ok (.getfield 75, 3) := by decide +kernel
theorem dX11_rightNotch_19 : decode cX11_rightNotch 19 = .ok (.iload_n 1, 1) := by decide +kernel
theorem dX11_rightNotch_20 : decode cX11_rightNotch 20 = .ok (.iaload, 1) := by decide +kernel
theorem dX11_rightNotch_21 : decode cX11_rightNotch 21 = .ok (.bipush 60, 2) := by decide +kernel
theorem dX11_rightNotch_23 : decode cX11_rightNotch 23 = .ok (.irem, 1) := by decide +kernel
theorem dX11_rightNotch_24 : decode cX11_rightNotch 24 = .ok (.bipush 15, 2) := by decide +kernel
theorem dX11_rightNotch_26 : decode cX11_rightNotch 26 = .ok (.idiv, 1) := by decide +kernel
theorem dX11_rightNotch_27 : decode cX11_rightNotch 27 = .ok (.aload_n 0, 1) := by decide +kernel
theorem dX11_rightNotch_28 : decode cX11_rightNotch 28 = .ok (.getfield 29, 3) := by decide +kernel
theorem dX11_rightNotch_31 : decode cX11_rightNotch 31 = .ok (.iload_n 3, 1) := by decide +kernel
theorem dX11_rightNotch_32 : decode cX11_rightNotch 32 = .ok (.iaload, 1) := by decide +kernel
theorem dX11_rightNotch_33 : decode cX11_rightNotch 33 = .ok (.irem, 1) := by decide +kernel
theorem dX11_rightNotch_34 : decode cX11_rightNotch 34 = .ok (.goto 17, 3) := by decide +kernel
theorem dX11_rightNotch_37 : decode cX11_rightNotch 37 = .ok (.aload_n 0, 1) := by decide +kernel
theorem dX11_rightNotch_38 : decode cX11_rightNotch 38 = .ok (.iload_n 1, 1) := by decide +kernel
theorem dX11_rightNotch_39 : decode cX11_rightNotch 39 = .ok (.invokevirtual 263, 3) := by decide +kernel
theorem dX11_rightNotch_42 : decode cX11_rightNotch 42 = .ok (.iconst 1, 1) := by decide +kernel
theorem dX11_rightNotch_43 : decode cX11_rightNotch 43 = .ok (.isub, 1) := by decide +kernel
theorem dX11_rightNotch_44 : decode cX11_rightNotch 44 = .ok (.aload_n 0, 1) := by decide +kernel
theorem dX11_rightNotch_45 : decode cX11_rightNotch 45 = .ok (.getfield 29, 3) := by decide +kernel
theorem dX11_rightNotch_48 : decode cX11_rightNotch 48 = .ok (.iload_n 3, 1) := by decide +kernel
theorem dX11_rightNotch_49 : decode cX11_rightNotch 49 = .ok (.iaload, 1) := by decide +kernel
theorem dX11_rightNotch_50 : decode cX11_rightNotch 50 = .ok (.irem, 1) := by decide +kernel
theorem dX11_rightNotch_51 : decode cX11_rightNotch 51 = .ok (.ireturn, 1) := by decide +kernel
theorem dX11_askedPlate_0 : decode cX11_askedPlate 0 = .ok (.aload_n 0, 1) := by decide +kernel
theorem dX11_askedPlate_1 : decode cX11_askedPlate 1 = .ok (.iload_n 1, 1) := by decide +kernel
theorem dX11_askedPlate_2 : decode cX11_askedPlate 2 = .ok (.iload_n 2, 1) := by decide +kernel
theorem dX11_askedPlate_3 : decode cX11_askedPlate 3 = .ok (.invokevirtual 206, 3) := by decide +kernel
theorem dX11_askedPlate_6 : decode cX11_askedPlate 6 = .ok (.istore_n 3, 1) := by decide +kernel
theorem dX11_askedPlate_7 : decode cX11_askedPlate 7 = .ok (.iload_n 3, 1) := by decide +kernel
theorem dX11_askedPlate_8 : decode cX11_askedPlate 8 = .ok (.ifCond .ge 7, 3) := by decide +kernel
theorem dX11_askedPlate_11 : decode cX11_askedPlate 11 = .ok (.iload_n 3, 1) := by decide +kernel
theorem dX11_askedPlate_12 : decode cX11_askedPlate 12 = .ok (.goto 29, 3) := by decide +kernel
theorem dX11_askedPlate_15 : decode cX11_askedPlate 15 = .ok (.aload_n 0, 1) := by decide +kernel
theorem dX11_askedPlate_16 : decode cX11_askedPlate 16 = .ok (.aload_n 0, 1) := by decide +kernel
theorem dX11_askedPlate_17 : decode cX11_askedPlate 17 = .ok (.getfield 99, 3) := by decide +kernel
theorem dX11_askedPlate_20 : decode cX11_askedPlate 20 = .ok (.iload_n 1, 1) := by decide +kernel
theorem dX11_askedPlate_21 : decode cX11_askedPlate 21 = .ok (.iload_n 2, 1) := by decide +kernel
theorem dX11_askedPlate_22 : decode cX11_askedPlate 22 = .ok (.invokestatic 200, 3) := by decide +kernel
theorem dX11_askedPlate_25 : decode cX11_askedPlate 25 = .ok (.iaload, 1) := by decide +kernel
theorem dX11_askedPlate_26 : decode cX11_askedPlate 26 = .ok (.invokevirtual 180, 3) := by decide +kernel
theorem dX11_askedPlate_29 : decode cX11_askedPlate 29 = .ok (.ifCond .eq 7, 3) := by decide +kernel
theorem dX11_askedPlate_32 : decode cX11_askedPlate 32 = .ok (.iconst 0, 1) := by decide +kernel
theorem dX11_askedPlate_33 : decode cX11_askedPlate 33 = .ok (.goto 8, 3) := by decide +kernel
theorem dX11_askedPlate_36 : decode cX11_askedPlate 36 = .ok (.aload_n 0, 1) := by decide +kernel
theorem dX11_askedPlate_37 : decode cX11_askedPlate 37 = .ok (.iconst 3, 1) := by decide +kernel
theorem dX11_askedPlate_38 : decode cX11_askedPlate 38 = .ok (.invokevirtual 153, 3) := by decide +kernel
theorem dX11_askedPlate_41 : decode cX11_askedPlate 41 = .ok (.ireturn, 1) := by decide +kernel
theorem dX11_right_0 : decode cX11_right 0 = .ok (.aload_n 0, 1) := by decide +kernel
theorem dX11_right_1 : decode cX11_right 1 = .ok (.iload_n 1, 1) := by decide +kernel
theorem dX11_right_2 : decode cX11_right 2 = .ok (.iload_n 2, 1) := by decide +kernel
theorem dX11_right_3 : decode cX11_right 3 = .ok (.invokevirtual 266, 3) := by decide +kernel
theorem dX11_right_6 : decode cX11_right 6 = .ok (.istore_n 3, 1) := by decide +kernel
theorem dX11_right_7 : decode cX11_right 7 = .ok (.iload_n 3, 1) := by decide +kernel
theorem dX11_right_8 : decode cX11_right 8 = .ok (.ifCond .ge 7, 3) := by decide +kernel
theorem dX11_right_11 : decode cX11_right 11 = .ok (.iload_n 3, 1) := by decide +kernel
theorem dX11_right_12 : decode cX11_right 12 = .ok (.goto 32, 3) := by decide +kernel
theorem dX11_right_15 : decode cX11_right 15 = .ok (.aload_n 0, 1) := by decide +kernel
theorem dX11_right_16 : decode cX11_right 16 = .ok (.getfield 35, 3) := by decide +kernel
theorem dX11_right_19 : decode cX11_right 19 = .ok (.aload_n 0, 1) := by decide +kernel
theorem dX11_right_20 : decode cX11_right 20 = .ok (.getfield 99, 3) := by decide +kernel
theorem dX11_right_23 : decode cX11_right 23 = .ok (.iload_n 1, 1) := by decide +kernel
theorem dX11_right_24 : decode cX11_right 24 = .ok (.iload_n 2, 1) := by decide +kernel
theorem dX11_right_25 : decode cX11_right 25 = .ok (.invokestatic 200, 3) := by decide +kernel
theorem dX11_right_28 : decode cX11_right 28 = .ok (.iaload, 1) := by decide +kernel
theorem dX11_right_29 : decode cX11_right 29 = .ok (.iaload, 1) := by decide +kernel
theorem dX11_right_30 : decode cX11_right 30 = .ok (.aload_n 0, 1) := by decide +kernel
theorem dX11_right_31 : decode cX11_right 31 = .ok (.iload_n 1, 1) := by decide +kernel
theorem dX11_right_32 : decode cX11_right 32 = .ok (.iload_n 2, 1) := by decide +kernel
theorem dX11_right_33 : decode cX11_right 33 = .ok (.invokevirtual 269, 3) := by decide +kernel
theorem dX11_right_36 : decode cX11_right 36 = .ok (.if_icmp .ne 7, 3) := by decide +kernel
theorem dX11_right_39 : decode cX11_right 39 = .ok (.iconst 1, 1) := by decide +kernel
theorem dX11_right_40 : decode cX11_right 40 = .ok (.goto 4, 3) := by decide +kernel
theorem dX11_right_43 : decode cX11_right 43 = .ok (.iconst 0, 1) := by decide +kernel
theorem dX11_right_44 : decode cX11_right 44 = .ok (.ireturn, 1) := by decide +kernel
theorem dX11_off_0 : decode cX11_off 0 = .ok (.aload_n 0, 1) := by decide +kernel
theorem dX11_off_1 : decode cX11_off 1 = .ok (.iload_n 1, 1) := by decide +kernel
theorem dX11_off_2 : decode cX11_off 2 = .ok (.iload_n 2, 1) := by decide +kernel
theorem dX11_off_3 : decode cX11_off 3 = .ok (.invokevirtual 266, 3) := by decide +kernel
theorem dX11_off_6 : decode cX11_off 6 = .ok (.istore_n 3, 1) := by decide +kernel
theorem dX11_off_7 : decode cX11_off 7 = .ok (.iload_n 3, 1) := by decide +kernel
theorem dX11_off_8 : decode cX11_off 8 = .ok (.ifCond .ge 5, 3) := by decide +kernel
theorem dX11_off_11 : decode cX11_off 11 = .ok (.iload_n 3, 1) := by decide +kernel
theorem dX11_off_12 : decode cX11_off 12 = .ok (.ireturn, 1) := by decide +kernel
theorem dX11_off_13 : decode cX11_off 13 = .ok (.aload_n 0, 1) := by decide +kernel
theorem dX11_off_14 : decode cX11_off 14 = .ok (.getfield 99, 3) := by decide +kernel
theorem dX11_off_17 : decode cX11_off 17 = .ok (.iload_n 1, 1) := by decide +kernel
theorem dX11_off_18 : decode cX11_off 18 = .ok (.iload_n 2, 1) := by decide +kernel
theorem dX11_off_19 : decode cX11_off 19 = .ok (.invokestatic 200, 3) := by decide +kernel
theorem dX11_off_22 : decode cX11_off 22 = .ok (.iaload, 1) := by decide +kernel
theorem dX11_off_23 : decode cX11_off 23 = .ok (.istore 4, 2) := by decide +kernel
theorem dX11_off_25 : decode cX11_off 25 = .ok (.aload_n 0, 1) := by decide +kernel
theorem dX11_off_26 : decode cX11_off 26 = .ok (.getfield 35, 3) := by decide +kernel
theorem dX11_off_29 : decode cX11_off 29 = .ok (.iload 4, 2) := by decide +kernel
theorem dX11_off_31 : decode cX11_off 31 = .ok (.iaload, 1) := by decide +kernel
theorem dX11_off_32 : decode cX11_off 32 = .ok (.aload_n 0, 1) := by decide +kernel
theorem dX11_off_33 : decode cX11_off 33 = .ok (.getfield 29, 3) := by decide +kernel
theorem dX11_off_36 : decode cX11_off 36 = .ok (.iload 4, 2) := by decide +kernel
theorem dX11_off_38 : decode cX11_off 38 = .ok (.iaload, 1) := by decide +kernel
theorem dX11_off_39 : decode cX11_off 39 = .ok (.iadd, 1) := by decide +kernel
theorem dX11_off_40 : decode cX11_off 40 = .ok (.aload_n 0, 1) := by decide +kernel
theorem dX11_off_41 : decode cX11_off 41 = .ok (.iload_n 1, 1) := by decide +kernel
theorem dX11_off_42 : decode cX11_off 42 = .ok (.iload_n 2, 1) := by decide +kernel
theorem dX11_off_43 : decode cX11_off 43 = .ok (.invokevirtual 269, 3) := by decide +kernel
theorem dX11_off_46 : decode cX11_off 46 = .ok (.isub, 1) := by decide +kernel
theorem dX11_off_47 : decode cX11_off 47 = .ok (.aload_n 0, 1) := by decide +kernel
theorem dX11_off_48 : decode cX11_off 48 = .ok (.getfield 29, 3) := by decide +kernel
theorem dX11_off_51 : decode cX11_off 51 = .ok (.iload 4, 2) := by decide +kernel
theorem dX11_off_53 : decode cX11_off 53 = .ok (.iaload, 1) := by decide +kernel
theorem dX11_off_54 : decode cX11_off 54 = .ok (.irem, 1) := by decide +kernel
theorem dX11_off_55 : decode cX11_off 55 = .ok (.ireturn, 1) := by decide +kernel
theorem dX11_after_0 : decode cX11_after 0 = .ok (.iload_n 0, 1) := by decide +kernel
theorem dX11_after_1 : decode cX11_after 1 = .ok (.bipush 12, 2) := by decide +kernel
theorem dX11_after_3 : decode cX11_after 3 = .ok (.idiv, 1) := by decide +kernel
theorem dX11_after_4 : decode cX11_after 4 = .ok (.istore_n 2, 1) := by decide +kernel
theorem dX11_after_5 : decode cX11_after 5 = .ok (.iload_n 0, 1) := by decide +kernel
theorem dX11_after_6 : decode cX11_after 6 = .ok (.bipush 12, 2) := by decide +kernel
theorem dX11_after_8 : decode cX11_after 8 = .ok (.irem, 1) := by decide +kernel
theorem dX11_after_9 : decode cX11_after 9 = .ok (.istore_n 3, 1) := by decide +kernel
theorem dX11_after_10 : decode cX11_after 10 = .ok (.iload_n 1, 1) := by decide +kernel
theorem dX11_after_11 : decode cX11_after 11 = .ok (.ifCond .ne 17, 3) := by decide +kernel
theorem dX11_after_14 : decode cX11_after 14 = .ok (.bipush 12, 2) := by decide +kernel
theorem dX11_after_16 : decode cX11_after 16 = .ok (.iload_n 2, 1) := by decide +kernel
theorem dX11_after_17 : decode cX11_after 17 = .ok (.iconst 1, 1) := by decide +kernel
theorem dX11_after_18 : decode cX11_after 18 = .ok (.iadd, 1) := by decide +kernel
theorem dX11_after_19 : decode cX11_after 19 = .ok (.bipush 12, 2) := by decide +kernel
theorem dX11_after_21 : decode cX11_after 21 = .ok (.irem, 1) := by decide +kernel
theorem dX11_after_22 : decode cX11_after 22 = .ok (.imul, 1) := by decide +kernel
theorem dX11_after_23 : decode cX11_after 23 = .ok (.iload_n 3, 1) := by decide +kernel
theorem dX11_after_24 : decode cX11_after 24 = .ok (.iadd, 1) := by decide +kernel
theorem dX11_after_25 : decode cX11_after 25 = .ok (.goto 39, 3) := by decide +kernel
theorem dX11_after_28 : decode cX11_after 28 = .ok (.iload_n 1, 1) := by decide +kernel
theorem dX11_after_29 : decode cX11_after 29 = .ok (.iconst 1, 1) := by decide +kernel
theorem dX11_after_30 : decode cX11_after 30 = .ok (.if_icmp .ne 22, 3) := by decide +kernel
theorem dX11_after_33 : decode cX11_after 33 = .ok (.bipush 12, 2) := by decide +kernel
theorem dX11_after_35 : decode cX11_after 35 = .ok (.iload_n 2, 1) := by decide +kernel
theorem dX11_after_36 : decode cX11_after 36 = .ok (.iconst 1, 1) := by decide +kernel
theorem dX11_after_37 : decode cX11_after 37 = .ok (.iadd, 1) := by decide +kernel
theorem dX11_after_38 : decode cX11_after 38 = .ok (.bipush 12, 2) := by decide +kernel
theorem dX11_after_40 : decode cX11_after 40 = .ok (.irem, 1) := by decide +kernel
theorem dX11_after_41 : decode cX11_after 41 = .ok (.imul, 1) := by decide +kernel
theorem dX11_after_42 : decode cX11_after 42 = .ok (.iload_n 3, 1) := by decide +kernel
theorem dX11_after_43 : decode cX11_after 43 = .ok (.iconst 1, 1) := by decide +kernel
theorem dX11_after_44 : decode cX11_after 44 = .ok (.iadd, 1) := by decide +kernel
theorem dX11_after_45 : decode cX11_after 45 = .ok (.bipush 12, 2) := by decide +kernel
theorem dX11_after_47 : decode cX11_after 47 = .ok (.irem, 1) := by decide +kernel
theorem dX11_after_48 : decode cX11_after 48 = .ok (.iadd, 1) := by decide +kernel
theorem dX11_after_49 : decode cX11_after 49 = .ok (.goto 15, 3) := by decide +kernel
theorem dX11_after_52 : decode cX11_after 52 = .ok (.bipush 12, 2) := by decide +kernel
theorem dX11_after_54 : decode cX11_after 54 = .ok (.iload_n 2, 1) := by decide +kernel
theorem dX11_after_55 : decode cX11_after 55 = .ok (.imul, 1) := by decide +kernel
theorem dX11_after_56 : decode cX11_after 56 = .ok (.iload_n 3, 1) := by decide +kernel
theorem dX11_after_57 : decode cX11_after 57 = .ok (.bipush 11, 2) := by decide +kernel
theorem dX11_after_59 : decode cX11_after 59 = .ok (.iadd, 1) := by decide +kernel
theorem dX11_after_60 : decode cX11_after 60 = .ok (.bipush 12, 2) := by decide +kernel
theorem dX11_after_62 : decode cX11_after 62 = .ok (.irem, 1) := by decide +kernel
theorem dX11_after_63 : decode cX11_after 63 = .ok (.iadd, 1) := by decide +kernel
theorem dX11_after_64 : decode cX11_after 64 = .ok (.ireturn, 1) := by decide +kernel
theorem dX11_costOf_0 : decode cX11_costOf 0 = .ok (.sipush 1000, 3) := by decide +kernel
theorem dX11_costOf_3 : decode cX11_costOf 3 = .ok (.iload_n 3, 1) := by decide +kernel
theorem dX11_costOf_4 : decode cX11_costOf 4 = .ok (.iconst 2, 1) := by decide +kernel
theorem dX11_costOf_5 : decode cX11_costOf 5 = .ok (.if_icmp .ne 7, 3) := by decide +kernel
theorem dX11_costOf_8 : decode cX11_costOf 8 = .ok (.iconst 0, 1) := by decide +kernel
theorem dX11_costOf_9 : decode cX11_costOf 9 = .ok (.goto 17, 3) := by decide +kernel
theorem dX11_costOf_12 : decode cX11_costOf 12 = .ok (.aload_n 0, 1) := by decide +kernel
theorem dX11_costOf_13 : decode cX11_costOf 13 = .ok (.getfield 32, 3) := by decide +kernel
theorem dX11_costOf_16 : decode cX11_costOf 16 = .ok (.bipush 24, 2) := by decide +kernel
theorem dX11_costOf_18 : decode cX11_costOf 18 = .ok (.iload_n 1, 1) := by decide +kernel
theorem dX11_costOf_19 : decode cX11_costOf 19 = .ok (.imul, 1) := by decide +kernel
theorem dX11_costOf_20 : decode cX11_costOf 20 = .ok (.iload_n 2, 1) := by decide +kernel
theorem dX11_costOf_21 : decode cX11_costOf 21 = .ok (.bipush 12, 2) := by decide +kernel
theorem dX11_costOf_23 : decode cX11_costOf 23 = .ok (.idiv, 1) := by decide +kernel
theorem dX11_costOf_24 : decode cX11_costOf 24 = .ok (.iadd, 1) := by decide +kernel
theorem dX11_costOf_25 : decode cX11_costOf 25 = .ok (.iaload, 1) := by decide +kernel
theorem dX11_costOf_26 : decode cX11_costOf 26 = .ok (.imul, 1) := by decide +kernel
theorem dX11_costOf_27 : decode cX11_costOf 27 = .ok (.iconst 1, 1) := by decide +kernel
theorem dX11_costOf_28 : decode cX11_costOf 28 = .ok (.iadd, 1) := by decide +kernel
theorem dX11_costOf_29 : decode cX11_costOf 29 = .ok (.ireturn, 1) := by decide +kernel
theorem dX11_putRight_0 : decode cX11_putRight 0 = .ok (.iload_n 2, 1) := by decide +kernel
theorem dX11_putRight_1 : decode cX11_putRight 1 = .ok (.iconst 1, 1) := by decide +kernel
theorem dX11_putRight_2 : decode cX11_putRight 2 = .ok (.bipush 12, 2) := by decide +kernel
theorem dX11_putRight_4 : decode cX11_putRight 4 = .ok (.invokestatic 145, 3) := by decide +kernel
theorem dX11_putRight_7 : decode cX11_putRight 7 = .ok (.ifCond .ne 5, 3) := by decide +kernel
theorem dX11_putRight_10 : decode cX11_putRight 10 = .ok (.iconst (-1), 1) := by decide +kernel
theorem dX11_putRight_11 : decode cX11_putRight 11 = .ok (.ireturn, 1) := by decide +kernel
theorem dX11_putRight_12 : decode cX11_putRight 12 = .ok (.aload_n 0, 1) := by decide +kernel
