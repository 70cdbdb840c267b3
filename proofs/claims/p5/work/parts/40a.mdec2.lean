theorem qd_M_dropRows_77 : decode qb_M_dropRows 77 = .ok (.iload_n 2, 1) := by decide +kernel
theorem qd_M_dropRows_78 : decode qb_M_dropRows 78 = .ok (.imul, 1) := by decide +kernel
theorem qd_M_dropRows_79 : decode qb_M_dropRows 79 = .ok (.iload 4, 2) := by decide +kernel
theorem qd_M_dropRows_81 : decode qb_M_dropRows 81 = .ok (.iadd, 1) := by decide +kernel
theorem qd_M_dropRows_82 : decode qb_M_dropRows 82 = .ok (.iaload, 1) := by decide +kernel
theorem qd_M_dropRows_83 : decode qb_M_dropRows 83 = .ok (.iastore, 1) := by decide +kernel
theorem qd_M_dropRows_84 : decode qb_M_dropRows 84 = .ok (.aload_n 0, 1) := by decide +kernel
theorem qd_M_dropRows_85 : decode qb_M_dropRows 85 = .ok (.getfield 23, 3) := by decide +kernel
theorem qd_M_dropRows_88 : decode qb_M_dropRows 88 = .ok (.bipush 6, 2) := by decide +kernel
theorem qd_M_dropRows_90 : decode qb_M_dropRows 90 = .ok (.iload_n 1, 1) := by decide +kernel
theorem qd_M_dropRows_91 : decode qb_M_dropRows 91 = .ok (.imul, 1) := by decide +kernel
theorem qd_M_dropRows_92 : decode qb_M_dropRows 92 = .ok (.iload 4, 2) := by decide +kernel
theorem qd_M_dropRows_94 : decode qb_M_dropRows 94 = .ok (.iadd, 1) := by decide +kernel
theorem qd_M_dropRows_95 : decode qb_M_dropRows 95 = .ok (.aload_n 0, 1) := by decide +kernel
theorem qd_M_dropRows_96 : decode qb_M_dropRows 96 = .ok (.getfield 23, 3) := by decide +kernel
theorem qd_M_dropRows_99 : decode qb_M_dropRows 99 = .ok (.bipush 6, 2) := by decide +kernel
theorem qd_M_dropRows_101 : decode qb_M_dropRows 101 = .ok (.iload_n 2, 1) := by decide +kernel
theorem qd_M_dropRows_102 : decode qb_M_dropRows 102 = .ok (.imul, 1) := by decide +kernel
theorem qd_M_dropRows_103 : decode qb_M_dropRows 103 = .ok (.iload 4, 2) := by decide +kernel
theorem qd_M_dropRows_105 : decode qb_M_dropRows 105 = .ok (.iadd, 1) := by decide +kernel
theorem qd_M_dropRows_106 : decode qb_M_dropRows 106 = .ok (.iaload, 1) := by decide +kernel
theorem qd_M_dropRows_107 : decode qb_M_dropRows 107 = .ok (.iastore, 1) := by decide +kernel
theorem qd_M_dropRows_108 : decode qb_M_dropRows 108 = .ok (.iinc 4 (1), 3) := by decide +kernel
theorem qd_M_dropRows_111 : decode qb_M_dropRows 111 = .ok (.goto (-58), 3) := by decide +kernel
theorem qd_M_dropRows_114 : decode qb_M_dropRows 114 = .ok (.iload_n 3, 1) := by decide +kernel
theorem qd_M_dropRows_115 : decode qb_M_dropRows 115 = .ok (.ifCond .eq 7, 3) := by decide +kernel
theorem qd_M_dropRows_118 : decode qb_M_dropRows 118 = .ok (.iload_n 1, 1) := by decide +kernel
theorem qd_M_dropRows_119 : decode qb_M_dropRows 119 = .ok (.goto (6), 3) := by decide +kernel
theorem qd_M_dropRows_122 : decode qb_M_dropRows 122 = .ok (.iload_n 1, 1) := by decide +kernel
theorem qd_M_dropRows_123 : decode qb_M_dropRows 123 = .ok (.iconst 1, 1) := by decide +kernel
theorem qd_M_dropRows_124 : decode qb_M_dropRows 124 = .ok (.iadd, 1) := by decide +kernel
theorem qd_M_dropRows_125 : decode qb_M_dropRows 125 = .ok (.istore_n 1, 1) := by decide +kernel
theorem qd_M_dropRows_126 : decode qb_M_dropRows 126 = .ok (.iinc 2 (1), 3) := by decide +kernel
theorem qd_M_dropRows_129 : decode qb_M_dropRows 129 = .ok (.goto (-125), 3) := by decide +kernel
theorem qd_M_dropRows_132 : decode qb_M_dropRows 132 = .ok (.aload_n 0, 1) := by decide +kernel
theorem qd_M_dropRows_133 : decode qb_M_dropRows 133 = .ok (.aload_n 0, 1) := by decide +kernel
theorem qd_M_dropRows_134 : decode qb_M_dropRows 134 = .ok (.getfield 151, 3) := by decide +kernel
theorem qd_M_dropRows_137 : decode qb_M_dropRows 137 = .ok (.aload_n 0, 1) := by decide +kernel
theorem qd_M_dropRows_138 : decode qb_M_dropRows 138 = .ok (.getfield 98, 3) := by decide +kernel
theorem qd_M_dropRows_141 : decode qb_M_dropRows 141 = .ok (.iadd, 1) := by decide +kernel
theorem qd_M_dropRows_142 : decode qb_M_dropRows 142 = .ok (.iload_n 1, 1) := by decide +kernel
theorem qd_M_dropRows_143 : decode qb_M_dropRows 143 = .ok (.isub, 1) := by decide +kernel
theorem qd_M_dropRows_144 : decode qb_M_dropRows 144 = .ok (.putfield 151, 3) := by decide +kernel
theorem qd_M_dropRows_147 : decode qb_M_dropRows 147 = .ok (.aload_n 0, 1) := by decide +kernel
theorem qd_M_dropRows_148 : decode qb_M_dropRows 148 = .ok (.iload_n 1, 1) := by decide +kernel
theorem qd_M_dropRows_149 : decode qb_M_dropRows 149 = .ok (.putfield 98, 3) := by decide +kernel
theorem qd_M_dropRows_152 : decode qb_M_dropRows 152 = .ok (.return_, 1) := by decide +kernel
theorem qd_M_serves_0 : decode qb_M_serves 0 = .ok (.aload_n 0, 1) := by decide +kernel
theorem qd_M_serves_1 : decode qb_M_serves 1 = .ok (.iload_n 1, 1) := by decide +kernel
theorem qd_M_serves_2 : decode qb_M_serves 2 = .ok (.iload_n 3, 1) := by decide +kernel
theorem qd_M_serves_3 : decode qb_M_serves 3 = .ok (.invokevirtual 73, 3) := by decide +kernel
theorem qd_M_serves_6 : decode qb_M_serves 6 = .ok (.ifCond .eq 16, 3) := by decide +kernel
theorem qd_M_serves_9 : decode qb_M_serves 9 = .ok (.aload_n 0, 1) := by decide +kernel
theorem qd_M_serves_10 : decode qb_M_serves 10 = .ok (.iload_n 2, 1) := by decide +kernel
theorem qd_M_serves_11 : decode qb_M_serves 11 = .ok (.iload_n 3, 1) := by decide +kernel
theorem qd_M_serves_12 : decode qb_M_serves 12 = .ok (.invokevirtual 73, 3) := by decide +kernel
theorem qd_M_serves_15 : decode qb_M_serves 15 = .ok (.ifCond .ne 7, 3) := by decide +kernel
theorem qd_M_serves_18 : decode qb_M_serves 18 = .ok (.iconst 1, 1) := by decide +kernel
theorem qd_M_serves_19 : decode qb_M_serves 19 = .ok (.goto (4), 3) := by decide +kernel
theorem qd_M_serves_22 : decode qb_M_serves 22 = .ok (.iconst 0, 1) := by decide +kernel
theorem qd_M_serves_23 : decode qb_M_serves 23 = .ok (.ireturn, 1) := by decide +kernel
theorem qd_M_isNeeded_0 : decode qb_M_isNeeded 0 = .ok (.ldc 154, 2) := by decide +kernel
theorem qd_M_isNeeded_2 : decode qb_M_isNeeded 2 = .ok (.istore_n 2, 1) := by decide +kernel
theorem qd_M_isNeeded_3 : decode qb_M_isNeeded 3 = .ok (.iconst 0, 1) := by decide +kernel
theorem qd_M_isNeeded_4 : decode qb_M_isNeeded 4 = .ok (.istore_n 3, 1) := by decide +kernel
theorem qd_M_isNeeded_5 : decode qb_M_isNeeded 5 = .ok (.iload_n 3, 1) := by decide +kernel
theorem qd_M_isNeeded_6 : decode qb_M_isNeeded 6 = .ok (.aload_n 0, 1) := by decide +kernel
theorem qd_M_isNeeded_7 : decode qb_M_isNeeded 7 = .ok (.getfield 66, 3) := by decide +kernel
theorem qd_M_isNeeded_10 : decode qb_M_isNeeded 10 = .ok (.if_icmp .ge 75, 3) := by decide +kernel
theorem qd_M_isNeeded_13 : decode qb_M_isNeeded 13 = .ok (.aload_n 0, 1) := by decide +kernel
theorem qd_M_isNeeded_14 : decode qb_M_isNeeded 14 = .ok (.getfield 17, 3) := by decide +kernel
theorem qd_M_isNeeded_17 : decode qb_M_isNeeded 17 = .ok (.iconst 4, 1) := by decide +kernel
theorem qd_M_isNeeded_18 : decode qb_M_isNeeded 18 = .ok (.iload_n 3, 1) := by decide +kernel
theorem qd_M_isNeeded_19 : decode qb_M_isNeeded 19 = .ok (.imul, 1) := by decide +kernel
theorem qd_M_isNeeded_20 : decode qb_M_isNeeded 20 = .ok (.iconst 2, 1) := by decide +kernel
theorem qd_M_isNeeded_21 : decode qb_M_isNeeded 21 = .ok (.iadd, 1) := by decide +kernel
theorem qd_M_isNeeded_22 : decode qb_M_isNeeded 22 = .ok (.iaload, 1) := by decide +kernel
theorem qd_M_isNeeded_23 : decode qb_M_isNeeded 23 = .ok (.istore 4, 2) := by decide +kernel
theorem qd_M_isNeeded_25 : decode qb_M_isNeeded 25 = .ok (.aload_n 0, 1) := by decide +kernel
theorem qd_M_isNeeded_26 : decode qb_M_isNeeded 26 = .ok (.iload_n 3, 1) := by decide +kernel
theorem qd_M_isNeeded_27 : decode qb_M_isNeeded 27 = .ok (.aload_n 0, 1) := by decide +kernel
theorem qd_M_isNeeded_28 : decode qb_M_isNeeded 28 = .ok (.getfield 17, 3) := by decide +kernel
theorem qd_M_isNeeded_31 : decode qb_M_isNeeded 31 = .ok (.iconst 4, 1) := by decide +kernel
theorem qd_M_isNeeded_32 : decode qb_M_isNeeded 32 = .ok (.iload_n 1, 1) := by decide +kernel
theorem qd_M_isNeeded_33 : decode qb_M_isNeeded 33 = .ok (.imul, 1) := by decide +kernel
theorem qd_M_isNeeded_34 : decode qb_M_isNeeded 34 = .ok (.iaload, 1) := by decide +kernel
theorem qd_M_isNeeded_35 : decode qb_M_isNeeded 35 = .ok (.aload_n 0, 1) := by decide +kernel
theorem qd_M_isNeeded_36 : decode qb_M_isNeeded 36 = .ok (.getfield 17, 3) := by decide +kernel
theorem qd_M_isNeeded_39 : decode qb_M_isNeeded 39 = .ok (.iconst 4, 1) := by decide +kernel
theorem qd_M_isNeeded_40 : decode qb_M_isNeeded 40 = .ok (.iload_n 1, 1) := by decide +kernel
theorem qd_M_isNeeded_41 : decode qb_M_isNeeded 41 = .ok (.imul, 1) := by decide +kernel
theorem qd_M_isNeeded_42 : decode qb_M_isNeeded 42 = .ok (.iconst 1, 1) := by decide +kernel
theorem qd_M_isNeeded_43 : decode qb_M_isNeeded 43 = .ok (.iadd, 1) := by decide +kernel
theorem qd_M_isNeeded_44 : decode qb_M_isNeeded 44 = .ok (.iaload, 1) := by decide +kernel
theorem qd_M_isNeeded_45 : decode qb_M_isNeeded 45 = .ok (.invokevirtual 69, 3) := by decide +kernel
theorem qd_M_isNeeded_48 : decode qb_M_isNeeded 48 = .ok (.ifCond .eq 29, 3) := by decide +kernel
theorem qd_M_isNeeded_51 : decode qb_M_isNeeded 51 = .ok (.iload 4, 2) := by decide +kernel
theorem qd_M_isNeeded_53 : decode qb_M_isNeeded 53 = .ok (.aload_n 0, 1) := by decide +kernel
theorem qd_M_isNeeded_54 : decode qb_M_isNeeded 54 = .ok (.getfield 17, 3) := by decide +kernel
theorem qd_M_isNeeded_57 : decode qb_M_isNeeded 57 = .ok (.iconst 4, 1) := by decide +kernel
theorem qd_M_isNeeded_58 : decode qb_M_isNeeded 58 = .ok (.iload_n 1, 1) := by decide +kernel
theorem qd_M_isNeeded_59 : decode qb_M_isNeeded 59 = .ok (.imul, 1) := by decide +kernel
theorem qd_M_isNeeded_60 : decode qb_M_isNeeded 60 = .ok (.iconst 2, 1) := by decide +kernel
theorem qd_M_isNeeded_61 : decode qb_M_isNeeded 61 = .ok (.iadd, 1) := by decide +kernel
theorem qd_M_isNeeded_62 : decode qb_M_isNeeded 62 = .ok (.iaload, 1) := by decide +kernel
theorem qd_M_isNeeded_63 : decode qb_M_isNeeded 63 = .ok (.if_icmp .le 14, 3) := by decide +kernel
theorem qd_M_isNeeded_66 : decode qb_M_isNeeded 66 = .ok (.iload 4, 2) := by decide +kernel
theorem qd_M_isNeeded_68 : decode qb_M_isNeeded 68 = .ok (.iload_n 2, 1) := by decide +kernel
theorem qd_M_isNeeded_69 : decode qb_M_isNeeded 69 = .ok (.if_icmp .ge 8, 3) := by decide +kernel
theorem qd_M_isNeeded_72 : decode qb_M_isNeeded 72 = .ok (.iload 4, 2) := by decide +kernel
theorem qd_M_isNeeded_74 : decode qb_M_isNeeded 74 = .ok (.goto (4), 3) := by decide +kernel
theorem qd_M_isNeeded_77 : decode qb_M_isNeeded 77 = .ok (.iload_n 2, 1) := by decide +kernel
theorem qd_M_isNeeded_78 : decode qb_M_isNeeded 78 = .ok (.istore_n 2, 1) := by decide +kernel
theorem qd_M_isNeeded_79 : decode qb_M_isNeeded 79 = .ok (.iinc 3 (1), 3) := by decide +kernel
theorem qd_M_isNeeded_82 : decode qb_M_isNeeded 82 = .ok (.goto (-77), 3) := by decide +kernel
theorem qd_M_isNeeded_85 : decode qb_M_isNeeded 85 = .ok (.iload_n 2, 1) := by decide +kernel
theorem qd_M_isNeeded_86 : decode qb_M_isNeeded 86 = .ok (.ldc 155, 2) := by decide +kernel
theorem qd_M_isNeeded_88 : decode qb_M_isNeeded 88 = .ok (.if_icmp .le 5, 3) := by decide +kernel
theorem qd_M_isNeeded_91 : decode qb_M_isNeeded 91 = .ok (.iconst 1, 1) := by decide +kernel
theorem qd_M_isNeeded_92 : decode qb_M_isNeeded 92 = .ok (.ireturn, 1) := by decide +kernel
theorem qd_M_isNeeded_93 : decode qb_M_isNeeded 93 = .ok (.aload_n 0, 1) := by decide +kernel
theorem qd_M_isNeeded_94 : decode qb_M_isNeeded 94 = .ok (.getfield 57, 3) := by decide +kernel
theorem qd_M_isNeeded_97 : decode qb_M_isNeeded 97 = .ok (.ifCond .ne 9, 3) := by decide +kernel
theorem qd_M_isNeeded_100 : decode qb_M_isNeeded 100 = .ok (.iload_n 2, 1) := by decide +kernel
theorem qd_M_isNeeded_101 : decode qb_M_isNeeded 101 = .ok (.iconst 1, 1) := by decide +kernel
theorem qd_M_isNeeded_102 : decode qb_M_isNeeded 102 = .ok (.isub, 1) := by decide +kernel
theorem qd_M_isNeeded_103 : decode qb_M_isNeeded 103 = .ok (.goto (4), 3) := by decide +kernel
theorem qd_M_isNeeded_106 : decode qb_M_isNeeded 106 = .ok (.iload_n 2, 1) := by decide +kernel
theorem qd_M_isNeeded_107 : decode qb_M_isNeeded 107 = .ok (.istore_n 3, 1) := by decide +kernel
theorem qd_M_isNeeded_108 : decode qb_M_isNeeded 108 = .ok (.iload_n 3, 1) := by decide +kernel
theorem qd_M_isNeeded_109 : decode qb_M_isNeeded 109 = .ok (.aload_n 0, 1) := by decide +kernel
theorem qd_M_isNeeded_110 : decode qb_M_isNeeded 110 = .ok (.invokevirtual 122, 3) := by decide +kernel
theorem qd_M_isNeeded_113 : decode qb_M_isNeeded 113 = .ok (.if_icmp .le 7, 3) := by decide +kernel
theorem qd_M_isNeeded_116 : decode qb_M_isNeeded 116 = .ok (.iconst 1, 1) := by decide +kernel
theorem qd_M_isNeeded_117 : decode qb_M_isNeeded 117 = .ok (.goto (4), 3) := by decide +kernel
theorem qd_M_isNeeded_120 : decode qb_M_isNeeded 120 = .ok (.iconst 0, 1) := by decide +kernel
theorem qd_M_isNeeded_121 : decode qb_M_isNeeded 121 = .ok (.istore 4, 2) := by decide +kernel
theorem qd_M_isNeeded_123 : decode qb_M_isNeeded 123 = .ok (.iconst 0, 1) := by decide +kernel
theorem qd_M_isNeeded_124 : decode qb_M_isNeeded 124 = .ok (.istore 5, 2) := by decide +kernel
theorem qd_M_isNeeded_126 : decode qb_M_isNeeded 126 = .ok (.iload 5, 2) := by decide +kernel
theorem qd_M_isNeeded_128 : decode qb_M_isNeeded 128 = .ok (.aload_n 0, 1) := by decide +kernel
theorem qd_M_isNeeded_129 : decode qb_M_isNeeded 129 = .ok (.getfield 98, 3) := by decide +kernel
theorem qd_M_isNeeded_132 : decode qb_M_isNeeded 132 = .ok (.if_icmp .ge 104, 3) := by decide +kernel
theorem qd_M_isNeeded_135 : decode qb_M_isNeeded 135 = .ok (.aload_n 0, 1) := by decide +kernel
theorem qd_M_isNeeded_136 : decode qb_M_isNeeded 136 = .ok (.getfield 20, 3) := by decide +kernel
theorem qd_M_isNeeded_139 : decode qb_M_isNeeded 139 = .ok (.bipush 6, 2) := by decide +kernel
theorem qd_M_isNeeded_141 : decode qb_M_isNeeded 141 = .ok (.iload 5, 2) := by decide +kernel
theorem qd_M_isNeeded_143 : decode qb_M_isNeeded 143 = .ok (.imul, 1) := by decide +kernel
theorem qd_M_isNeeded_144 : decode qb_M_isNeeded 144 = .ok (.iconst 4, 1) := by decide +kernel
theorem qd_M_isNeeded_145 : decode qb_M_isNeeded 145 = .ok (.iadd, 1) := by decide +kernel
theorem qd_M_isNeeded_146 : decode qb_M_isNeeded 146 = .ok (.iaload, 1) := by decide +kernel
theorem qd_M_isNeeded_147 : decode qb_M_isNeeded 147 = .ok (.iconst 1, 1) := by decide +kernel
theorem qd_M_isNeeded_148 : decode qb_M_isNeeded 148 = .ok (.if_icmp .ne 32, 3) := by decide +kernel
theorem qd_M_isNeeded_151 : decode qb_M_isNeeded 151 = .ok (.aload_n 0, 1) := by decide +kernel
theorem qd_M_isNeeded_152 : decode qb_M_isNeeded 152 = .ok (.getfield 20, 3) := by decide +kernel
theorem qd_M_isNeeded_155 : decode qb_M_isNeeded 155 = .ok (.bipush 6, 2) := by decide +kernel
theorem qd_M_isNeeded_157 : decode qb_M_isNeeded 157 = .ok (.iload 5, 2) := by decide +kernel
theorem qd_M_isNeeded_159 : decode qb_M_isNeeded 159 = .ok (.imul, 1) := by decide +kernel
theorem qd_M_isNeeded_160 : decode qb_M_isNeeded 160 = .ok (.iconst 1, 1) := by decide +kernel
theorem qd_M_isNeeded_161 : decode qb_M_isNeeded 161 = .ok (.iadd, 1) := by decide +kernel
theorem qd_M_isNeeded_162 : decode qb_M_isNeeded 162 = .ok (.iaload, 1) := by decide +kernel
theorem qd_M_isNeeded_163 : decode qb_M_isNeeded 163 = .ok (.aload_n 0, 1) := by decide +kernel
theorem qd_M_isNeeded_164 : decode qb_M_isNeeded 164 = .ok (.getfield 17, 3) := by decide +kernel
theorem qd_M_isNeeded_167 : decode qb_M_isNeeded 167 = .ok (.iconst 4, 1) := by decide +kernel
theorem qd_M_isNeeded_168 : decode qb_M_isNeeded 168 = .ok (.iload_n 1, 1) := by decide +kernel
theorem qd_M_isNeeded_169 : decode qb_M_isNeeded 169 = .ok (.imul, 1) := by decide +kernel
theorem qd_M_isNeeded_170 : decode qb_M_isNeeded 170 = .ok (.iconst 1, 1) := by decide +kernel
theorem qd_M_isNeeded_171 : decode qb_M_isNeeded 171 = .ok (.iadd, 1) := by decide +kernel
theorem qd_M_isNeeded_172 : decode qb_M_isNeeded 172 = .ok (.iaload, 1) := by decide +kernel
theorem qd_M_isNeeded_173 : decode qb_M_isNeeded 173 = .ok (.if_icmp .ne 7, 3) := by decide +kernel
theorem qd_M_isNeeded_176 : decode qb_M_isNeeded 176 = .ok (.iconst 1, 1) := by decide +kernel
theorem qd_M_isNeeded_177 : decode qb_M_isNeeded 177 = .ok (.goto (4), 3) := by decide +kernel
theorem qd_M_isNeeded_180 : decode qb_M_isNeeded 180 = .ok (.iconst 0, 1) := by decide +kernel
theorem qd_M_isNeeded_181 : decode qb_M_isNeeded 181 = .ok (.istore 6, 2) := by decide +kernel
theorem qd_M_isNeeded_183 : decode qb_M_isNeeded 183 = .ok (.iload 4, 2) := by decide +kernel
theorem qd_M_isNeeded_185 : decode qb_M_isNeeded 185 = .ok (.ifCond .ne 38, 3) := by decide +kernel
theorem qd_M_isNeeded_188 : decode qb_M_isNeeded 188 = .ok (.iload 6, 2) := by decide +kernel
theorem qd_M_isNeeded_190 : decode qb_M_isNeeded 190 = .ok (.ifCond .eq 37, 3) := by decide +kernel
theorem qd_M_isNeeded_193 : decode qb_M_isNeeded 193 = .ok (.aload_n 0, 1) := by decide +kernel
theorem qd_M_isNeeded_194 : decode qb_M_isNeeded 194 = .ok (.aload_n 0, 1) := by decide +kernel
theorem qd_M_isNeeded_195 : decode qb_M_isNeeded 195 = .ok (.getfield 17, 3) := by decide +kernel
theorem qd_M_isNeeded_198 : decode qb_M_isNeeded 198 = .ok (.iconst 4, 1) := by decide +kernel
theorem qd_M_isNeeded_199 : decode qb_M_isNeeded 199 = .ok (.iload_n 1, 1) := by decide +kernel
theorem qd_M_isNeeded_200 : decode qb_M_isNeeded 200 = .ok (.imul, 1) := by decide +kernel
theorem qd_M_isNeeded_201 : decode qb_M_isNeeded 201 = .ok (.iconst 2, 1) := by decide +kernel
theorem qd_M_isNeeded_202 : decode qb_M_isNeeded 202 = .ok (.iadd, 1) := by decide +kernel
theorem qd_M_isNeeded_203 : decode qb_M_isNeeded 203 = .ok (.iaload, 1) := by decide +kernel
theorem qd_M_isNeeded_204 : decode qb_M_isNeeded 204 = .ok (.iload_n 2, 1) := by decide +kernel
theorem qd_M_isNeeded_205 : decode qb_M_isNeeded 205 = .ok (.aload_n 0, 1) := by decide +kernel
theorem qd_M_isNeeded_206 : decode qb_M_isNeeded 206 = .ok (.getfield 20, 3) := by decide +kernel
theorem qd_M_isNeeded_209 : decode qb_M_isNeeded 209 = .ok (.bipush 6, 2) := by decide +kernel
theorem qd_M_isNeeded_211 : decode qb_M_isNeeded 211 = .ok (.iload 5, 2) := by decide +kernel
theorem qd_M_isNeeded_213 : decode qb_M_isNeeded 213 = .ok (.imul, 1) := by decide +kernel
theorem qd_M_isNeeded_214 : decode qb_M_isNeeded 214 = .ok (.iconst 2, 1) := by decide +kernel
theorem qd_M_isNeeded_215 : decode qb_M_isNeeded 215 = .ok (.iadd, 1) := by decide +kernel
theorem qd_M_isNeeded_216 : decode qb_M_isNeeded 216 = .ok (.iaload, 1) := by decide +kernel
theorem qd_M_isNeeded_217 : decode qb_M_isNeeded 217 = .ok (.invokevirtual 156, 3) := by decide +kernel
theorem qd_M_isNeeded_220 : decode qb_M_isNeeded 220 = .ok (.ifCond .eq 7, 3) := by decide +kernel
theorem qd_M_isNeeded_223 : decode qb_M_isNeeded 223 = .ok (.iconst 1, 1) := by decide +kernel
theorem qd_M_isNeeded_224 : decode qb_M_isNeeded 224 = .ok (.goto (4), 3) := by decide +kernel
theorem qd_M_isNeeded_227 : decode qb_M_isNeeded 227 = .ok (.iconst 0, 1) := by decide +kernel
theorem qd_M_isNeeded_228 : decode qb_M_isNeeded 228 = .ok (.istore 4, 2) := by decide +kernel
theorem qd_M_isNeeded_230 : decode qb_M_isNeeded 230 = .ok (.iinc 5 (1), 3) := by decide +kernel
theorem qd_M_isNeeded_233 : decode qb_M_isNeeded 233 = .ok (.goto (-107), 3) := by decide +kernel
theorem qd_M_isNeeded_236 : decode qb_M_isNeeded 236 = .ok (.iload 4, 2) := by decide +kernel
theorem qd_M_isNeeded_238 : decode qb_M_isNeeded 238 = .ok (.ireturn, 1) := by decide +kernel
theorem qd_M_dropVersions_0 : decode qb_M_dropVersions 0 = .ok (.iconst 0, 1) := by decide +kernel
theorem qd_M_dropVersions_1 : decode qb_M_dropVersions 1 = .ok (.istore_n 1, 1) := by decide +kernel
theorem qd_M_dropVersions_2 : decode qb_M_dropVersions 2 = .ok (.iload_n 1, 1) := by decide +kernel
theorem qd_M_dropVersions_3 : decode qb_M_dropVersions 3 = .ok (.aload_n 0, 1) := by decide +kernel
theorem qd_M_dropVersions_4 : decode qb_M_dropVersions 4 = .ok (.getfield 66, 3) := by decide +kernel
theorem qd_M_dropVersions_7 : decode qb_M_dropVersions 7 = .ok (.if_icmp .ge 28, 3) := by decide +kernel
theorem qd_M_dropVersions_10 : decode qb_M_dropVersions 10 = .ok (.aload_n 0, 1) := by decide +kernel
theorem qd_M_dropVersions_11 : decode qb_M_dropVersions 11 = .ok (.getfield 32, 3) := by decide +kernel
theorem qd_M_dropVersions_14 : decode qb_M_dropVersions 14 = .ok (.iload_n 1, 1) := by decide +kernel
theorem qd_M_dropVersions_15 : decode qb_M_dropVersions 15 = .ok (.aload_n 0, 1) := by decide +kernel
theorem qd_M_dropVersions_16 : decode qb_M_dropVersions 16 = .ok (.iload_n 1, 1) := by decide +kernel
theorem qd_M_dropVersions_17 : decode qb_M_dropVersions 17 = .ok (.invokevirtual 159, 3) := by decide +kernel
theorem qd_M_dropVersions_20 : decode qb_M_dropVersions 20 = .ok (.ifCond .ne 7, 3) := by decide +kernel
theorem qd_M_dropVersions_23 : decode qb_M_dropVersions 23 = .ok (.iconst 1, 1) := by decide +kernel
theorem qd_M_dropVersions_24 : decode qb_M_dropVersions 24 = .ok (.goto (4), 3) := by decide +kernel
theorem qd_M_dropVersions_27 : decode qb_M_dropVersions 27 = .ok (.iconst 0, 1) := by decide +kernel
theorem qd_M_dropVersions_28 : decode qb_M_dropVersions 28 = .ok (.bastore, 1) := by decide +kernel
theorem qd_M_dropVersions_29 : decode qb_M_dropVersions 29 = .ok (.iinc 1 (1), 3) := by decide +kernel
theorem qd_M_dropVersions_32 : decode qb_M_dropVersions 32 = .ok (.goto (-30), 3) := by decide +kernel
theorem qd_M_dropVersions_35 : decode qb_M_dropVersions 35 = .ok (.iconst 0, 1) := by decide +kernel
theorem qd_M_dropVersions_36 : decode qb_M_dropVersions 36 = .ok (.istore_n 1, 1) := by decide +kernel
theorem qd_M_dropVersions_37 : decode qb_M_dropVersions 37 = .ok (.iconst 0, 1) := by decide +kernel
theorem qd_M_dropVersions_38 : decode qb_M_dropVersions 38 = .ok (.istore_n 2, 1) := by decide +kernel
theorem qd_M_dropVersions_39 : decode qb_M_dropVersions 39 = .ok (.iload_n 2, 1) := by decide +kernel
theorem qd_M_dropVersions_40 : decode qb_M_dropVersions 40 = .ok (.aload_n 0, 1) := by decide +kernel
theorem qd_M_dropVersions_41 : decode qb_M_dropVersions 41 = .ok (.getfield 66, 3) := by decide +kernel
theorem qd_M_dropVersions_44 : decode qb_M_dropVersions 44 = .ok (.if_icmp .ge 59, 3) := by decide +kernel
theorem qd_M_dropVersions_47 : decode qb_M_dropVersions 47 = .ok (.iconst 0, 1) := by decide +kernel
theorem qd_M_dropVersions_48 : decode qb_M_dropVersions 48 = .ok (.istore_n 3, 1) := by decide +kernel
theorem qd_M_dropVersions_49 : decode qb_M_dropVersions 49 = .ok (.iload_n 3, 1) := by decide +kernel
theorem qd_M_dropVersions_50 : decode qb_M_dropVersions 50 = .ok (.iconst 4, 1) := by decide +kernel
theorem qd_M_dropVersions_51 : decode qb_M_dropVersions 51 = .ok (.if_icmp .ge 29, 3) := by decide +kernel
theorem qd_M_dropVersions_54 : decode qb_M_dropVersions 54 = .ok (.aload_n 0, 1) := by decide +kernel
theorem qd_M_dropVersions_55 : decode qb_M_dropVersions 55 = .ok (.getfield 17, 3) := by decide +kernel
theorem qd_M_dropVersions_58 : decode qb_M_dropVersions 58 = .ok (.iconst 4, 1) := by decide +kernel
theorem qd_M_dropVersions_59 : decode qb_M_dropVersions 59 = .ok (.iload_n 1, 1) := by decide +kernel
theorem qd_M_dropVersions_60 : decode qb_M_dropVersions 60 = .ok (.imul, 1) := by decide +kernel
theorem qd_M_dropVersions_61 : decode qb_M_dropVersions 61 = .ok (.iload_n 3, 1) := by decide +kernel
theorem qd_M_dropVersions_62 : decode qb_M_dropVersions 62 = .ok (.iadd, 1) := by decide +kernel
theorem qd_M_dropVersions_63 : decode qb_M_dropVersions 63 = .ok (.aload_n 0, 1) := by decide +kernel
theorem qd_M_dropVersions_64 : decode qb_M_dropVersions 64 = .ok (.getfield 17, 3) := by decide +kernel
theorem qd_M_dropVersions_67 : decode qb_M_dropVersions 67 = .ok (.iconst 4, 1) := by decide +kernel
theorem qd_M_dropVersions_68 : decode qb_M_dropVersions 68 = .ok (.iload_n 2, 1) := by decide +kernel
theorem qd_M_dropVersions_69 : decode qb_M_dropVersions 69 = .ok (.imul, 1) := by decide +kernel
theorem qd_M_dropVersions_70 : decode qb_M_dropVersions 70 = .ok (.iload_n 3, 1) := by decide +kernel
theorem qd_M_dropVersions_71 : decode qb_M_dropVersions 71 = .ok (.iadd, 1) := by decide +kernel
theorem qd_M_dropVersions_72 : decode qb_M_dropVersions 72 = .ok (.iaload, 1) := by decide +kernel
theorem qd_M_dropVersions_73 : decode qb_M_dropVersions 73 = .ok (.iastore, 1) := by decide +kernel
theorem qd_M_dropVersions_74 : decode qb_M_dropVersions 74 = .ok (.iinc 3 (1), 3) := by decide +kernel
theorem qd_M_dropVersions_77 : decode qb_M_dropVersions 77 = .ok (.goto (-28), 3) := by decide +kernel
theorem qd_M_dropVersions_80 : decode qb_M_dropVersions 80 = .ok (.aload_n 0, 1) := by decide +kernel
theorem qd_M_dropVersions_81 : decode qb_M_dropVersions 81 = .ok (.getfield 32, 3) := by decide +kernel
theorem qd_M_dropVersions_84 : decode qb_M_dropVersions 84 = .ok (.iload_n 2, 1) := by decide +kernel
theorem qd_M_dropVersions_85 : decode qb_M_dropVersions 85 = .ok (.baload, 1) := by decide +kernel
theorem qd_M_dropVersions_86 : decode qb_M_dropVersions 86 = .ok (.ifCond .eq 7, 3) := by decide +kernel
theorem qd_M_dropVersions_89 : decode qb_M_dropVersions 89 = .ok (.iload_n 1, 1) := by decide +kernel
theorem qd_M_dropVersions_90 : decode qb_M_dropVersions 90 = .ok (.goto (6), 3) := by decide +kernel
theorem qd_M_dropVersions_93 : decode qb_M_dropVersions 93 = .ok (.iload_n 1, 1) := by decide +kernel
theorem qd_M_dropVersions_94 : decode qb_M_dropVersions 94 = .ok (.iconst 1, 1) := by decide +kernel
theorem qd_M_dropVersions_95 : decode qb_M_dropVersions 95 = .ok (.iadd, 1) := by decide +kernel
theorem qd_M_dropVersions_96 : decode qb_M_dropVersions 96 = .ok (.istore_n 1, 1) := by decide +kernel
theorem qd_M_dropVersions_97 : decode qb_M_dropVersions 97 = .ok (.iinc 2 (1), 3) := by decide +kernel
theorem qd_M_dropVersions_100 : decode qb_M_dropVersions 100 = .ok (.goto (-61), 3) := by decide +kernel
theorem qd_M_dropVersions_103 : decode qb_M_dropVersions 103 = .ok (.aload_n 0, 1) := by decide +kernel
theorem qd_M_dropVersions_104 : decode qb_M_dropVersions 104 = .ok (.aload_n 0, 1) := by decide +kernel
theorem qd_M_dropVersions_105 : decode qb_M_dropVersions 105 = .ok (.getfield 162, 3) := by decide +kernel
theorem qd_M_dropVersions_108 : decode qb_M_dropVersions 108 = .ok (.aload_n 0, 1) := by decide +kernel
theorem qd_M_dropVersions_109 : decode qb_M_dropVersions 109 = .ok (.getfield 66, 3) := by decide +kernel
theorem qd_M_dropVersions_112 : decode qb_M_dropVersions 112 = .ok (.iadd, 1) := by decide +kernel
theorem qd_M_dropVersions_113 : decode qb_M_dropVersions 113 = .ok (.iload_n 1, 1) := by decide +kernel
theorem qd_M_dropVersions_114 : decode qb_M_dropVersions 114 = .ok (.isub, 1) := by decide +kernel
theorem qd_M_dropVersions_115 : decode qb_M_dropVersions 115 = .ok (.putfield 162, 3) := by decide +kernel
theorem qd_M_dropVersions_118 : decode qb_M_dropVersions 118 = .ok (.aload_n 0, 1) := by decide +kernel
theorem qd_M_dropVersions_119 : decode qb_M_dropVersions 119 = .ok (.iload_n 1, 1) := by decide +kernel
theorem qd_M_dropVersions_120 : decode qb_M_dropVersions 120 = .ok (.putfield 66, 3) := by decide +kernel
theorem qd_M_dropVersions_123 : decode qb_M_dropVersions 123 = .ok (.return_, 1) := by decide +kernel
theorem qd_M_out_0 : decode qb_M_out 0 = .ok (.aload_n 0, 1) := by decide +kernel
theorem qd_M_out_1 : decode qb_M_out 1 = .ok (.iconst 0, 1) := by decide +kernel
theorem qd_M_out_2 : decode qb_M_out 2 = .ok (.putfield 1, 3) := by decide +kernel
theorem qd_M_out_5 : decode qb_M_out 5 = .ok (.iload_n 1, 1) := by decide +kernel
theorem qd_M_out_6 : decode qb_M_out 6 = .ok (.iconst (-1), 1) := by decide +kernel
theorem qd_M_out_7 : decode qb_M_out 7 = .ok (.if_icmp .ne 8, 3) := by decide +kernel
theorem qd_M_out_10 : decode qb_M_out 10 = .ok (.aload_n 0, 1) := by decide +kernel
theorem qd_M_out_11 : decode qb_M_out 11 = .ok (.getfield 81, 3) := by decide +kernel
theorem qd_M_out_14 : decode qb_M_out 14 = .ok (.ireturn, 1) := by decide +kernel
theorem qd_M_out_15 : decode qb_M_out 15 = .ok (.iload_n 1, 1) := by decide +kernel
theorem qd_M_out_16 : decode qb_M_out 16 = .ok (.i2l, 1) := by decide +kernel
theorem qd_M_out_17 : decode qb_M_out 17 = .ok (.lconst 0, 1) := by decide +kernel
theorem qd_M_out_18 : decode qb_M_out 18 = .ok (.aload_n 0, 1) := by decide +kernel
theorem qd_M_out_19 : decode qb_M_out 19 = .ok (.getfield 81, 3) := by decide +kernel
theorem qd_M_out_22 : decode qb_M_out 22 = .ok (.iconst 1, 1) := by decide +kernel
theorem qd_M_out_23 : decode qb_M_out 23 = .ok (.isub, 1) := by decide +kernel
theorem qd_M_out_24 : decode qb_M_out 24 = .ok (.i2l, 1) := by decide +kernel
theorem qd_M_out_25 : decode qb_M_out 25 = .ok (.invokestatic 51, 3) := by decide +kernel
theorem qd_M_out_28 : decode qb_M_out 28 = .ok (.ifCond .eq 35, 3) := by decide +kernel
theorem qd_M_out_31 : decode qb_M_out 31 = .ok (.iload_n 2, 1) := by decide +kernel
theorem qd_M_out_32 : decode qb_M_out 32 = .ok (.i2l, 1) := by decide +kernel
theorem qd_M_out_33 : decode qb_M_out 33 = .ok (.lconst 0, 1) := by decide +kernel
theorem qd_M_out_34 : decode qb_M_out 34 = .ok (.iconst 4, 1) := by decide +kernel
theorem qd_M_out_35 : decode qb_M_out 35 = .ok (.iconst 2, 1) := by decide +kernel
theorem qd_M_out_36 : decode qb_M_out 36 = .ok (.aload_n 0, 1) := by decide +kernel
theorem qd_M_out_37 : decode qb_M_out 37 = .ok (.getfield 42, 3) := by decide +kernel
theorem qd_M_out_40 : decode qb_M_out 40 = .ok (.imul, 1) := by decide +kernel
theorem qd_M_out_41 : decode qb_M_out 41 = .ok (.iadd, 1) := by decide +kernel
theorem qd_M_out_42 : decode qb_M_out 42 = .ok (.i2l, 1) := by decide +kernel
theorem qd_M_out_43 : decode qb_M_out 43 = .ok (.invokestatic 51, 3) := by decide +kernel
theorem qd_M_out_46 : decode qb_M_out 46 = .ok (.ifCond .eq 17, 3) := by decide +kernel
theorem qd_M_out_49 : decode qb_M_out 49 = .ok (.aload_n 0, 1) := by decide +kernel
theorem qd_M_out_50 : decode qb_M_out 50 = .ok (.getfield 26, 3) := by decide +kernel
theorem qd_M_out_53 : decode qb_M_out 53 = .ok (.bipush 11, 2) := by decide +kernel
theorem qd_M_out_55 : decode qb_M_out 55 = .ok (.iload_n 1, 1) := by decide +kernel
theorem qd_M_out_56 : decode qb_M_out 56 = .ok (.imul, 1) := by decide +kernel
theorem qd_M_out_57 : decode qb_M_out 57 = .ok (.iload_n 2, 1) := by decide +kernel
theorem qd_M_out_58 : decode qb_M_out 58 = .ok (.iadd, 1) := by decide +kernel
theorem qd_M_out_59 : decode qb_M_out 59 = .ok (.iaload, 1) := by decide +kernel
theorem qd_M_out_60 : decode qb_M_out 60 = .ok (.goto (4), 3) := by decide +kernel
theorem qd_M_out_63 : decode qb_M_out 63 = .ok (.iconst (-1), 1) := by decide +kernel
theorem qd_M_out_64 : decode qb_M_out 64 = .ok (.ireturn, 1) := by decide +kernel
theorem qd_M_asOf_0 : decode qb_M_asOf 0 = .ok (.aload_n 0, 1) := by decide +kernel
theorem qd_M_asOf_1 : decode qb_M_asOf 1 = .ok (.iconst 0, 1) := by decide +kernel
theorem qd_M_asOf_2 : decode qb_M_asOf 2 = .ok (.putfield 1, 3) := by decide +kernel
theorem qd_M_asOf_5 : decode qb_M_asOf 5 = .ok (.iload_n 1, 1) := by decide +kernel
theorem qd_M_asOf_6 : decode qb_M_asOf 6 = .ok (.i2l, 1) := by decide +kernel
theorem qd_M_asOf_7 : decode qb_M_asOf 7 = .ok (.lconst 0, 1) := by decide +kernel
theorem qd_M_asOf_8 : decode qb_M_asOf 8 = .ok (.aload_n 0, 1) := by decide +kernel
theorem qd_M_asOf_9 : decode qb_M_asOf 9 = .ok (.getfield 42, 3) := by decide +kernel
theorem qd_M_asOf_12 : decode qb_M_asOf 12 = .ok (.iconst 1, 1) := by decide +kernel
theorem qd_M_asOf_13 : decode qb_M_asOf 13 = .ok (.isub, 1) := by decide +kernel
theorem qd_M_asOf_14 : decode qb_M_asOf 14 = .ok (.i2l, 1) := by decide +kernel
theorem qd_M_asOf_15 : decode qb_M_asOf 15 = .ok (.invokestatic 51, 3) := by decide +kernel
theorem qd_M_asOf_18 : decode qb_M_asOf 18 = .ok (.ifCond .eq 27, 3) := by decide +kernel
theorem qd_M_asOf_21 : decode qb_M_asOf 21 = .ok (.iload_n 2, 1) := by decide +kernel
theorem qd_M_asOf_22 : decode qb_M_asOf 22 = .ok (.i2l, 1) := by decide +kernel
theorem qd_M_asOf_23 : decode qb_M_asOf 23 = .ok (.lconst 0, 1) := by decide +kernel
theorem qd_M_asOf_24 : decode qb_M_asOf 24 = .ok (.ldc2_w 116, 3) := by decide +kernel
theorem qd_M_asOf_27 : decode qb_M_asOf 27 = .ok (.invokestatic 51, 3) := by decide +kernel
theorem qd_M_asOf_30 : decode qb_M_asOf 30 = .ok (.ifCond .eq 15, 3) := by decide +kernel
theorem qd_M_asOf_33 : decode qb_M_asOf 33 = .ok (.iload_n 3, 1) := by decide +kernel
theorem qd_M_asOf_34 : decode qb_M_asOf 34 = .ok (.i2l, 1) := by decide +kernel
theorem qd_M_asOf_35 : decode qb_M_asOf 35 = .ok (.lconst 1, 1) := by decide +kernel
theorem qd_M_asOf_36 : decode qb_M_asOf 36 = .ok (.ldc2_w 118, 3) := by decide +kernel
theorem qd_M_asOf_39 : decode qb_M_asOf 39 = .ok (.invokestatic 51, 3) := by decide +kernel
theorem qd_M_asOf_42 : decode qb_M_asOf 42 = .ok (.ifCond .ne 5, 3) := by decide +kernel
theorem qd_M_asOf_45 : decode qb_M_asOf 45 = .ok (.iconst (-1), 1) := by decide +kernel
theorem qd_M_asOf_46 : decode qb_M_asOf 46 = .ok (.ireturn, 1) := by decide +kernel
theorem qd_M_asOf_47 : decode qb_M_asOf 47 = .ok (.aload_n 0, 1) := by decide +kernel
theorem qd_M_asOf_48 : decode qb_M_asOf 48 = .ok (.iload_n 1, 1) := by decide +kernel
theorem qd_M_asOf_49 : decode qb_M_asOf 49 = .ok (.iload_n 2, 1) := by decide +kernel
theorem qd_M_asOf_50 : decode qb_M_asOf 50 = .ok (.iload_n 3, 1) := by decide +kernel
theorem qd_M_asOf_51 : decode qb_M_asOf 51 = .ok (.invokevirtual 77, 3) := by decide +kernel
theorem qd_M_asOf_54 : decode qb_M_asOf 54 = .ok (.istore 4, 2) := by decide +kernel
theorem qd_M_asOf_56 : decode qb_M_asOf 56 = .ok (.iload 4, 2) := by decide +kernel
theorem qd_M_asOf_58 : decode qb_M_asOf 58 = .ok (.ifCond .lt 17, 3) := by decide +kernel
theorem qd_M_asOf_61 : decode qb_M_asOf 61 = .ok (.aload_n 0, 1) := by decide +kernel
theorem qd_M_asOf_62 : decode qb_M_asOf 62 = .ok (.getfield 17, 3) := by decide +kernel
theorem qd_M_asOf_65 : decode qb_M_asOf 65 = .ok (.iconst 4, 1) := by decide +kernel
theorem qd_M_asOf_66 : decode qb_M_asOf 66 = .ok (.iload 4, 2) := by decide +kernel
theorem qd_M_asOf_68 : decode qb_M_asOf 68 = .ok (.imul, 1) := by decide +kernel
theorem qd_M_asOf_69 : decode qb_M_asOf 69 = .ok (.iconst 3, 1) := by decide +kernel
theorem qd_M_asOf_70 : decode qb_M_asOf 70 = .ok (.iadd, 1) := by decide +kernel
theorem qd_M_asOf_71 : decode qb_M_asOf 71 = .ok (.iaload, 1) := by decide +kernel
theorem qd_M_asOf_72 : decode qb_M_asOf 72 = .ok (.ifCond .ge 8, 3) := by decide +kernel
theorem qd_M_asOf_75 : decode qb_M_asOf 75 = .ok (.bipush (-2), 2) := by decide +kernel
theorem qd_M_asOf_77 : decode qb_M_asOf 77 = .ok (.goto (14), 3) := by decide +kernel
theorem qd_M_asOf_80 : decode qb_M_asOf 80 = .ok (.aload_n 0, 1) := by decide +kernel
theorem qd_M_asOf_81 : decode qb_M_asOf 81 = .ok (.getfield 17, 3) := by decide +kernel
theorem qd_M_asOf_84 : decode qb_M_asOf 84 = .ok (.iconst 4, 1) := by decide +kernel
theorem qd_M_asOf_85 : decode qb_M_asOf 85 = .ok (.iload 4, 2) := by decide +kernel
theorem qd_M_asOf_87 : decode qb_M_asOf 87 = .ok (.imul, 1) := by decide +kernel
theorem qd_M_asOf_88 : decode qb_M_asOf 88 = .ok (.iconst 3, 1) := by decide +kernel
theorem qd_M_asOf_89 : decode qb_M_asOf 89 = .ok (.iadd, 1) := by decide +kernel
theorem qd_M_asOf_90 : decode qb_M_asOf 90 = .ok (.iaload, 1) := by decide +kernel
theorem qd_M_asOf_91 : decode qb_M_asOf 91 = .ok (.ireturn, 1) := by decide +kernel
theorem qd_M_version_0 : decode qb_M_version 0 = .ok (.aload_n 0, 1) := by decide +kernel
theorem qd_M_version_1 : decode qb_M_version 1 = .ok (.iconst 0, 1) := by decide +kernel
theorem qd_M_version_2 : decode qb_M_version 2 = .ok (.putfield 1, 3) := by decide +kernel
theorem qd_M_version_5 : decode qb_M_version 5 = .ok (.iload_n 1, 1) := by decide +kernel
theorem qd_M_version_6 : decode qb_M_version 6 = .ok (.i2l, 1) := by decide +kernel
theorem qd_M_version_7 : decode qb_M_version 7 = .ok (.lconst 0, 1) := by decide +kernel
theorem qd_M_version_8 : decode qb_M_version 8 = .ok (.aload_n 0, 1) := by decide +kernel
theorem qd_M_version_9 : decode qb_M_version 9 = .ok (.getfield 42, 3) := by decide +kernel
theorem qd_M_version_12 : decode qb_M_version 12 = .ok (.iconst 1, 1) := by decide +kernel
theorem qd_M_version_13 : decode qb_M_version 13 = .ok (.isub, 1) := by decide +kernel
theorem qd_M_version_14 : decode qb_M_version 14 = .ok (.i2l, 1) := by decide +kernel
theorem qd_M_version_15 : decode qb_M_version 15 = .ok (.invokestatic 51, 3) := by decide +kernel
theorem qd_M_version_18 : decode qb_M_version 18 = .ok (.ifCond .eq 44, 3) := by decide +kernel
theorem qd_M_version_21 : decode qb_M_version 21 = .ok (.iload_n 2, 1) := by decide +kernel
theorem qd_M_version_22 : decode qb_M_version 22 = .ok (.i2l, 1) := by decide +kernel
theorem qd_M_version_23 : decode qb_M_version 23 = .ok (.lconst 0, 1) := by decide +kernel
theorem qd_M_version_24 : decode qb_M_version 24 = .ok (.ldc2_w 116, 3) := by decide +kernel
theorem qd_M_version_27 : decode qb_M_version 27 = .ok (.invokestatic 51, 3) := by decide +kernel
theorem qd_M_version_30 : decode qb_M_version 30 = .ok (.ifCond .eq 32, 3) := by decide +kernel
theorem qd_M_version_33 : decode qb_M_version 33 = .ok (.iload 4, 2) := by decide +kernel
theorem qd_M_version_35 : decode qb_M_version 35 = .ok (.i2l, 1) := by decide +kernel
theorem qd_M_version_36 : decode qb_M_version 36 = .ok (.lconst 0, 1) := by decide +kernel
theorem qd_M_version_37 : decode qb_M_version 37 = .ok (.lconst 1, 1) := by decide +kernel
theorem qd_M_version_38 : decode qb_M_version 38 = .ok (.invokestatic 51, 3) := by decide +kernel
theorem qd_M_version_41 : decode qb_M_version 41 = .ok (.ifCond .eq 21, 3) := by decide +kernel
theorem qd_M_version_44 : decode qb_M_version 44 = .ok (.iload_n 3, 1) := by decide +kernel
theorem qd_M_version_45 : decode qb_M_version 45 = .ok (.i2l, 1) := by decide +kernel
theorem qd_M_version_46 : decode qb_M_version 46 = .ok (.lconst 0, 1) := by decide +kernel
theorem qd_M_version_47 : decode qb_M_version 47 = .ok (.aload_n 0, 1) := by decide +kernel
theorem qd_M_version_48 : decode qb_M_version 48 = .ok (.iload_n 1, 1) := by decide +kernel
theorem qd_M_version_49 : decode qb_M_version 49 = .ok (.iload_n 2, 1) := by decide +kernel
theorem qd_M_version_50 : decode qb_M_version 50 = .ok (.invokevirtual 135, 3) := by decide +kernel
theorem qd_M_version_53 : decode qb_M_version 53 = .ok (.iconst 1, 1) := by decide +kernel
theorem qd_M_version_54 : decode qb_M_version 54 = .ok (.isub, 1) := by decide +kernel
theorem qd_M_version_55 : decode qb_M_version 55 = .ok (.i2l, 1) := by decide +kernel
theorem qd_M_version_56 : decode qb_M_version 56 = .ok (.invokestatic 51, 3) := by decide +kernel
theorem qd_M_version_59 : decode qb_M_version 59 = .ok (.ifCond .ne 5, 3) := by decide +kernel
theorem qd_M_version_62 : decode qb_M_version 62 = .ok (.iconst (-1), 1) := by decide +kernel
theorem qd_M_version_63 : decode qb_M_version 63 = .ok (.ireturn, 1) := by decide +kernel
theorem qd_M_version_64 : decode qb_M_version 64 = .ok (.aload_n 0, 1) := by decide +kernel
theorem qd_M_version_65 : decode qb_M_version 65 = .ok (.getfield 17, 3) := by decide +kernel
theorem qd_M_version_68 : decode qb_M_version 68 = .ok (.iconst 4, 1) := by decide +kernel
theorem qd_M_version_69 : decode qb_M_version 69 = .ok (.aload_n 0, 1) := by decide +kernel
theorem qd_M_version_70 : decode qb_M_version 70 = .ok (.iload_n 1, 1) := by decide +kernel
theorem qd_M_version_71 : decode qb_M_version 71 = .ok (.iload_n 2, 1) := by decide +kernel
theorem qd_M_version_72 : decode qb_M_version 72 = .ok (.iload_n 3, 1) := by decide +kernel
theorem qd_M_version_73 : decode qb_M_version 73 = .ok (.invokevirtual 165, 3) := by decide +kernel
theorem qd_M_version_76 : decode qb_M_version 76 = .ok (.imul, 1) := by decide +kernel
theorem qd_M_version_77 : decode qb_M_version 77 = .ok (.iconst 2, 1) := by decide +kernel
theorem qd_M_version_78 : decode qb_M_version 78 = .ok (.iadd, 1) := by decide +kernel
theorem qd_M_version_79 : decode qb_M_version 79 = .ok (.iload 4, 2) := by decide +kernel
theorem qd_M_version_81 : decode qb_M_version 81 = .ok (.iadd, 1) := by decide +kernel
theorem qd_M_version_82 : decode qb_M_version 82 = .ok (.iaload, 1) := by decide +kernel
theorem qd_M_version_83 : decode qb_M_version 83 = .ok (.ireturn, 1) := by decide +kernel
theorem qd_M_there_0 : decode qb_M_there 0 = .ok (.aload_n 0, 1) := by decide +kernel
theorem qd_M_there_1 : decode qb_M_there 1 = .ok (.iconst 0, 1) := by decide +kernel
theorem qd_M_there_2 : decode qb_M_there 2 = .ok (.putfield 1, 3) := by decide +kernel
theorem qd_M_there_5 : decode qb_M_there 5 = .ok (.iload_n 1, 1) := by decide +kernel
theorem qd_M_there_6 : decode qb_M_there 6 = .ok (.i2l, 1) := by decide +kernel
theorem qd_M_there_7 : decode qb_M_there 7 = .ok (.lconst 0, 1) := by decide +kernel
theorem qd_M_there_8 : decode qb_M_there 8 = .ok (.aload_n 0, 1) := by decide +kernel
theorem qd_M_there_9 : decode qb_M_there 9 = .ok (.getfield 98, 3) := by decide +kernel
theorem qd_M_there_12 : decode qb_M_there 12 = .ok (.iconst 1, 1) := by decide +kernel
theorem qd_M_there_13 : decode qb_M_there 13 = .ok (.isub, 1) := by decide +kernel
theorem qd_M_there_14 : decode qb_M_there 14 = .ok (.i2l, 1) := by decide +kernel
theorem qd_M_there_15 : decode qb_M_there 15 = .ok (.invokestatic 51, 3) := by decide +kernel
theorem qd_M_there_18 : decode qb_M_there 18 = .ok (.ifCond .eq 33, 3) := by decide +kernel
theorem qd_M_there_21 : decode qb_M_there 21 = .ok (.iload_n 2, 1) := by decide +kernel
theorem qd_M_there_22 : decode qb_M_there 22 = .ok (.i2l, 1) := by decide +kernel
theorem qd_M_there_23 : decode qb_M_there 23 = .ok (.lconst 0, 1) := by decide +kernel
theorem qd_M_there_24 : decode qb_M_there 24 = .ok (.ldc2_w 168, 3) := by decide +kernel
theorem qd_M_there_27 : decode qb_M_there 27 = .ok (.invokestatic 51, 3) := by decide +kernel
theorem qd_M_there_30 : decode qb_M_there 30 = .ok (.ifCond .eq 21, 3) := by decide +kernel
theorem qd_M_there_33 : decode qb_M_there 33 = .ok (.aload_n 0, 1) := by decide +kernel
theorem qd_M_there_34 : decode qb_M_there 34 = .ok (.getfield 20, 3) := by decide +kernel
theorem qd_M_there_37 : decode qb_M_there 37 = .ok (.bipush 6, 2) := by decide +kernel
theorem qd_M_there_39 : decode qb_M_there 39 = .ok (.aload_n 0, 1) := by decide +kernel
theorem qd_M_there_40 : decode qb_M_there 40 = .ok (.iload_n 1, 1) := by decide +kernel
theorem qd_M_there_41 : decode qb_M_there 41 = .ok (.invokevirtual 101, 3) := by decide +kernel
theorem qd_M_there_44 : decode qb_M_there 44 = .ok (.imul, 1) := by decide +kernel
theorem qd_M_there_45 : decode qb_M_there 45 = .ok (.iload_n 2, 1) := by decide +kernel
theorem qd_M_there_46 : decode qb_M_there 46 = .ok (.iadd, 1) := by decide +kernel
theorem qd_M_there_47 : decode qb_M_there 47 = .ok (.iaload, 1) := by decide +kernel
theorem qd_M_there_48 : decode qb_M_there 48 = .ok (.goto (4), 3) := by decide +kernel
theorem qd_M_there_51 : decode qb_M_there 51 = .ok (.iconst (-1), 1) := by decide +kernel
theorem qd_M_there_52 : decode qb_M_there 52 = .ok (.ireturn, 1) := by decide +kernel
theorem qd_M_count_0 : decode qb_M_count 0 = .ok (.aload_n 0, 1) := by decide +kernel
theorem qd_M_count_1 : decode qb_M_count 1 = .ok (.iconst 0, 1) := by decide +kernel
theorem qd_M_count_2 : decode qb_M_count 2 = .ok (.putfield 1, 3) := by decide +kernel
theorem qd_M_count_5 : decode qb_M_count 5 = .ok (.iconst 0, 1) := by decide +kernel
theorem qd_M_count_6 : decode qb_M_count 6 = .ok (.istore_n 2, 1) := by decide +kernel
theorem qd_M_count_7 : decode qb_M_count 7 = .ok (.iconst 0, 1) := by decide +kernel
theorem qd_M_count_8 : decode qb_M_count 8 = .ok (.istore_n 3, 1) := by decide +kernel
theorem qd_M_count_9 : decode qb_M_count 9 = .ok (.iload_n 3, 1) := by decide +kernel
theorem qd_M_count_10 : decode qb_M_count 10 = .ok (.aload_n 0, 1) := by decide +kernel
theorem qd_M_count_11 : decode qb_M_count 11 = .ok (.getfield 98, 3) := by decide +kernel
theorem qd_M_count_14 : decode qb_M_count 14 = .ok (.if_icmp .ge 23, 3) := by decide +kernel
theorem qd_M_count_17 : decode qb_M_count 17 = .ok (.iload_n 2, 1) := by decide +kernel
theorem qd_M_count_18 : decode qb_M_count 18 = .ok (.aload_n 0, 1) := by decide +kernel
theorem qd_M_count_19 : decode qb_M_count 19 = .ok (.getfield 20, 3) := by decide +kernel
theorem qd_M_count_22 : decode qb_M_count 22 = .ok (.bipush 6, 2) := by decide +kernel
theorem qd_M_count_24 : decode qb_M_count 24 = .ok (.iload_n 3, 1) := by decide +kernel
theorem qd_M_count_25 : decode qb_M_count 25 = .ok (.imul, 1) := by decide +kernel
theorem qd_M_count_26 : decode qb_M_count 26 = .ok (.iconst 4, 1) := by decide +kernel
theorem qd_M_count_27 : decode qb_M_count 27 = .ok (.iadd, 1) := by decide +kernel
theorem qd_M_count_28 : decode qb_M_count 28 = .ok (.iaload, 1) := by decide +kernel
theorem qd_M_count_29 : decode qb_M_count 29 = .ok (.iadd, 1) := by decide +kernel
theorem qd_M_count_30 : decode qb_M_count 30 = .ok (.istore_n 2, 1) := by decide +kernel
theorem qd_M_count_31 : decode qb_M_count 31 = .ok (.iinc 3 (1), 3) := by decide +kernel
theorem qd_M_count_34 : decode qb_M_count 34 = .ok (.goto (-25), 3) := by decide +kernel
theorem qd_M_count_37 : decode qb_M_count 37 = .ok (.iload_n 1, 1) := by decide +kernel
theorem qd_M_count_38 : decode qb_M_count 38 = .ok (.tableswitch 184 0 17 #[86, 91, 96, 101, 103, 108, 113, 118, 123, 128, 133, 138, 138, 138, 164, 169, 174, 179], 86) := by decide +kernel
theorem qd_M_count_124 : decode qb_M_count 124 = .ok (.aload_n 0, 1) := by decide +kernel
theorem qd_M_count_125 : decode qb_M_count 125 = .ok (.getfield 42, 3) := by decide +kernel
theorem qd_M_count_128 : decode qb_M_count 128 = .ok (.ireturn, 1) := by decide +kernel
theorem qd_M_count_129 : decode qb_M_count 129 = .ok (.aload_n 0, 1) := by decide +kernel
theorem qd_M_count_130 : decode qb_M_count 130 = .ok (.getfield 66, 3) := by decide +kernel
theorem qd_M_count_133 : decode qb_M_count 133 = .ok (.ireturn, 1) := by decide +kernel
theorem qd_M_count_134 : decode qb_M_count 134 = .ok (.aload_n 0, 1) := by decide +kernel
theorem qd_M_count_135 : decode qb_M_count 135 = .ok (.getfield 98, 3) := by decide +kernel
theorem qd_M_count_138 : decode qb_M_count 138 = .ok (.ireturn, 1) := by decide +kernel
theorem qd_M_count_139 : decode qb_M_count 139 = .ok (.iload_n 2, 1) := by decide +kernel
theorem qd_M_count_140 : decode qb_M_count 140 = .ok (.ireturn, 1) := by decide +kernel
theorem qd_M_count_141 : decode qb_M_count 141 = .ok (.aload_n 0, 1) := by decide +kernel
theorem qd_M_count_142 : decode qb_M_count 142 = .ok (.getfield 139, 3) := by decide +kernel
theorem qd_M_count_145 : decode qb_M_count 145 = .ok (.ireturn, 1) := by decide +kernel
theorem qd_M_count_146 : decode qb_M_count 146 = .ok (.aload_n 0, 1) := by decide +kernel
theorem qd_M_count_147 : decode qb_M_count 147 = .ok (.getfield 84, 3) := by decide +kernel
theorem qd_M_count_150 : decode qb_M_count 150 = .ok (.ireturn, 1) := by decide +kernel
theorem qd_M_count_151 : decode qb_M_count 151 = .ok (.aload_n 0, 1) := by decide +kernel
theorem qd_M_count_152 : decode qb_M_count 152 = .ok (.getfield 87, 3) := by decide +kernel
theorem qd_M_count_155 : decode qb_M_count 155 = .ok (.ireturn, 1) := by decide +kernel
theorem qd_M_count_156 : decode qb_M_count 156 = .ok (.aload_n 0, 1) := by decide +kernel
theorem qd_M_count_157 : decode qb_M_count 157 = .ok (.getfield 151, 3) := by decide +kernel
theorem qd_M_count_160 : decode qb_M_count 160 = .ok (.ireturn, 1) := by decide +kernel
theorem qd_M_count_161 : decode qb_M_count 161 = .ok (.aload_n 0, 1) := by decide +kernel
theorem qd_M_count_162 : decode qb_M_count 162 = .ok (.getfield 162, 3) := by decide +kernel
theorem qd_M_count_165 : decode qb_M_count 165 = .ok (.ireturn, 1) := by decide +kernel
theorem qd_M_count_166 : decode qb_M_count 166 = .ok (.aload_n 0, 1) := by decide +kernel
theorem qd_M_count_167 : decode qb_M_count 167 = .ok (.getfield 126, 3) := by decide +kernel
theorem qd_M_count_170 : decode qb_M_count 170 = .ok (.ireturn, 1) := by decide +kernel
theorem qd_M_count_171 : decode qb_M_count 171 = .ok (.aload_n 0, 1) := by decide +kernel
theorem qd_M_count_172 : decode qb_M_count 172 = .ok (.getfield 36, 3) := by decide +kernel
theorem qd_M_count_175 : decode qb_M_count 175 = .ok (.ireturn, 1) := by decide +kernel
theorem qd_M_count_176 : decode qb_M_count 176 = .ok (.iload_n 1, 1) := by decide +kernel
theorem qd_M_count_177 : decode qb_M_count 177 = .ok (.bipush 11, 2) := by decide +kernel
theorem qd_M_count_179 : decode qb_M_count 179 = .ok (.isub, 1) := by decide +kernel
theorem qd_M_count_180 : decode qb_M_count 180 = .ok (.aload_n 0, 1) := by decide +kernel
theorem qd_M_count_181 : decode qb_M_count 181 = .ok (.getfield 42, 3) := by decide +kernel
theorem qd_M_count_184 : decode qb_M_count 184 = .ok (.if_icmp .ge 15, 3) := by decide +kernel
theorem qd_M_count_187 : decode qb_M_count 187 = .ok (.aload_n 0, 1) := by decide +kernel
theorem qd_M_count_188 : decode qb_M_count 188 = .ok (.getfield 13, 3) := by decide +kernel
theorem qd_M_count_191 : decode qb_M_count 191 = .ok (.iload_n 1, 1) := by decide +kernel
theorem qd_M_count_192 : decode qb_M_count 192 = .ok (.bipush 11, 2) := by decide +kernel
theorem qd_M_count_194 : decode qb_M_count 194 = .ok (.isub, 1) := by decide +kernel
theorem qd_M_count_195 : decode qb_M_count 195 = .ok (.iaload, 1) := by decide +kernel
theorem qd_M_count_196 : decode qb_M_count 196 = .ok (.goto (5), 3) := by decide +kernel
theorem qd_M_count_199 : decode qb_M_count 199 = .ok (.bipush (-2), 2) := by decide +kernel
theorem qd_M_count_201 : decode qb_M_count 201 = .ok (.ireturn, 1) := by decide +kernel
theorem qd_M_count_202 : decode qb_M_count 202 = .ok (.aload_n 0, 1) := by decide +kernel
theorem qd_M_count_203 : decode qb_M_count 203 = .ok (.getfield 57, 3) := by decide +kernel
theorem qd_M_count_206 : decode qb_M_count 206 = .ok (.ireturn, 1) := by decide +kernel
theorem qd_M_count_207 : decode qb_M_count 207 = .ok (.aload_n 0, 1) := by decide +kernel
theorem qd_M_count_208 : decode qb_M_count 208 = .ok (.getfield 60, 3) := by decide +kernel
theorem qd_M_count_211 : decode qb_M_count 211 = .ok (.ireturn, 1) := by decide +kernel
theorem qd_M_count_212 : decode qb_M_count 212 = .ok (.aload_n 0, 1) := by decide +kernel
theorem qd_M_count_213 : decode qb_M_count 213 = .ok (.getfield 63, 3) := by decide +kernel
theorem qd_M_count_216 : decode qb_M_count 216 = .ok (.ireturn, 1) := by decide +kernel
theorem qd_M_count_217 : decode qb_M_count 217 = .ok (.aload_n 0, 1) := by decide +kernel
theorem qd_M_count_218 : decode qb_M_count 218 = .ok (.getfield 39, 3) := by decide +kernel
theorem qd_M_count_221 : decode qb_M_count 221 = .ok (.ireturn, 1) := by decide +kernel
theorem qd_M_count_222 : decode qb_M_count 222 = .ok (.iconst (-1), 1) := by decide +kernel
theorem qd_M_count_223 : decode qb_M_count 223 = .ok (.ireturn, 1) := by decide +kernel
