theorem dX11_drawn_26 : decode cX11_drawn 26 = .ok (.invokevirtual 225, 3) := by decide +kernel
theorem dX11_drawn_29 : decode cX11_drawn 29 = .ok (.bipush 16, 2) := by decide +kernel
theorem dX11_drawn_31 : decode cX11_drawn 31 = .ok (.iushr, 1) := by decide +kernel
theorem dX11_drawn_32 : decode cX11_drawn 32 = .ok (.iload_n 2, 1) := by decide +kernel
theorem dX11_drawn_33 : decode cX11_drawn 33 = .ok (.ifCond .eq 11, 3) := by decide +kernel
theorem dX11_drawn_36 : decode cX11_drawn 36 = .ok (.aload_n 0, 1) := by decide +kernel
theorem dX11_drawn_37 : decode cX11_drawn 37 = .ok (.iload_n 1, 1) := by decide +kernel
theorem dX11_drawn_38 : decode cX11_drawn 38 = .ok (.invokevirtual 222, 3) := by decide +kernel
theorem dX11_drawn_41 : decode cX11_drawn 41 = .ok (.goto 8, 3) := by decide +kernel
theorem dX11_drawn_44 : decode cX11_drawn 44 = .ok (.aload_n 0, 1) := by decide +kernel
theorem dX11_drawn_45 : decode cX11_drawn 45 = .ok (.iload_n 1, 1) := by decide +kernel
theorem dX11_drawn_46 : decode cX11_drawn 46 = .ok (.invokevirtual 277, 3) := by decide +kernel
theorem dX11_drawn_49 : decode cX11_drawn 49 = .ok (.irem, 1) := by decide +kernel
theorem dX11_drawn_50 : decode cX11_drawn 50 = .ok (.istore_n 3, 1) := by decide +kernel
theorem dX11_drawn_51 : decode cX11_drawn 51 = .ok (.iconst 0, 1) := by decide +kernel
theorem dX11_drawn_52 : decode cX11_drawn 52 = .ok (.istore 4, 2) := by decide +kernel
theorem dX11_drawn_54 : decode cX11_drawn 54 = .ok (.iload_n 3, 1) := by decide +kernel
theorem dX11_drawn_55 : decode cX11_drawn 55 = .ok (.iload_n 2, 1) := by decide +kernel
theorem dX11_drawn_56 : decode cX11_drawn 56 = .ok (.ifCond .eq 17, 3) := by decide +kernel
theorem dX11_drawn_59 : decode cX11_drawn 59 = .ok (.aload_n 0, 1) := by decide +kernel
theorem dX11_drawn_60 : decode cX11_drawn 60 = .ok (.getfield 16, 3) := by decide +kernel
theorem dX11_drawn_63 : decode cX11_drawn 63 = .ok (.iconst 4, 1) := by decide +kernel
theorem dX11_drawn_64 : decode cX11_drawn 64 = .ok (.iload_n 1, 1) := by decide +kernel
theorem dX11_drawn_65 : decode cX11_drawn 65 = .ok (.imul, 1) := by decide +kernel
theorem dX11_drawn_66 : decode cX11_drawn 66 = .ok (.iload 4, 2) := by decide +kernel
theorem dX11_drawn_68 : decode cX11_drawn 68 = .ok (.iadd, 1) := by decide +kernel
theorem dX11_drawn_69 : decode cX11_drawn 69 = .ok (.iaload, 1) := by decide +kernel
theorem dX11_drawn_70 : decode cX11_drawn 70 = .ok (.goto 10, 3) := by decide +kernel
theorem dX11_drawn_73 : decode cX11_drawn 73 = .ok (.aload_n 0, 1) := by decide +kernel
theorem dX11_drawn_74 : decode cX11_drawn 74 = .ok (.iload_n 1, 1) := by decide +kernel
theorem dX11_drawn_75 : decode cX11_drawn 75 = .ok (.iload 4, 2) := by decide +kernel
theorem dX11_drawn_77 : decode cX11_drawn 77 = .ok (.invokevirtual 228, 3) := by decide +kernel
theorem dX11_drawn_80 : decode cX11_drawn 80 = .ok (.if_icmp .lt 37, 3) := by decide +kernel
theorem dX11_drawn_83 : decode cX11_drawn 83 = .ok (.iload_n 3, 1) := by decide +kernel
theorem dX11_drawn_84 : decode cX11_drawn 84 = .ok (.iload_n 2, 1) := by decide +kernel
theorem dX11_drawn_85 : decode cX11_drawn 85 = .ok (.ifCond .eq 17, 3) := by decide +kernel
theorem dX11_drawn_88 : decode cX11_drawn 88 = .ok (.aload_n 0, 1) := by decide +kernel
theorem dX11_drawn_89 : decode cX11_drawn 89 = .ok (.getfield 16, 3) := by decide +kernel
theorem dX11_drawn_92 : decode cX11_drawn 92 = .ok (.iconst 4, 1) := by decide +kernel
theorem dX11_drawn_93 : decode cX11_drawn 93 = .ok (.iload_n 1, 1) := by decide +kernel
theorem dX11_drawn_94 : decode cX11_drawn 94 = .ok (.imul, 1) := by decide +kernel
theorem dX11_drawn_95 : decode cX11_drawn 95 = .ok (.iload 4, 2) := by decide +kernel
theorem dX11_drawn_97 : decode cX11_drawn 97 = .ok (.iadd, 1) := by decide +kernel
theorem dX11_drawn_98 : decode cX11_drawn 98 = .ok (.iaload, 1) := by decide +kernel
theorem dX11_drawn_99 : decode cX11_drawn 99 = .ok (.goto 10, 3) := by decide +kernel
theorem dX11_drawn_102 : decode cX11_drawn 102 = .ok (.aload_n 0, 1) := by decide +kernel
theorem dX11_drawn_103 : decode cX11_drawn 103 = .ok (.iload_n 1, 1) := by decide +kernel
theorem dX11_drawn_104 : decode cX11_drawn 104 = .ok (.iload 4, 2) := by decide +kernel
theorem dX11_drawn_106 : decode cX11_drawn 106 = .ok (.invokevirtual 228, 3) := by decide +kernel
theorem dX11_drawn_109 : decode cX11_drawn 109 = .ok (.isub, 1) := by decide +kernel
theorem dX11_drawn_110 : decode cX11_drawn 110 = .ok (.istore_n 3, 1) := by decide +kernel
theorem dX11_drawn_111 : decode cX11_drawn 111 = .ok (.iinc 4 1, 3) := by decide +kernel
theorem dX11_drawn_114 : decode cX11_drawn 114 = .ok (.goto (-60), 3) := by decide +kernel
theorem dX11_drawn_117 : decode cX11_drawn 117 = .ok (.iload 4, 2) := by decide +kernel
theorem dX11_drawn_119 : decode cX11_drawn 119 = .ok (.ireturn, 1) := by decide +kernel
theorem dX11_morningGoes_0 : decode cX11_morningGoes 0 = .ok (.iconst 0, 1) := by decide +kernel
theorem dX11_morningGoes_1 : decode cX11_morningGoes 1 = .ok (.istore_n 1, 1) := by decide +kernel
theorem dX11_morningGoes_2 : decode cX11_morningGoes 2 = .ok (.iload_n 1, 1) := by decide +kernel
theorem dX11_morningGoes_3 : decode cX11_morningGoes 3 = .ok (.aload_n 0, 1) := by decide +kernel
theorem dX11_morningGoes_4 : decode cX11_morningGoes 4 = .ok (.getfield 87, 3) := by decide +kernel
theorem dX11_morningGoes_7 : decode cX11_morningGoes 7 = .ok (.if_icmp .ge 47, 3) := by decide +kernel
theorem dX11_morningGoes_10 : decode cX11_morningGoes 10 = .ok (.aload_n 0, 1) := by decide +kernel
theorem dX11_morningGoes_11 : decode cX11_morningGoes 11 = .ok (.iload_n 1, 1) := by decide +kernel
theorem dX11_morningGoes_12 : decode cX11_morningGoes 12 = .ok (.invokevirtual 280, 3) := by decide +kernel
theorem dX11_morningGoes_15 : decode cX11_morningGoes 15 = .ok (.aload_n 0, 1) := by decide +kernel
theorem dX11_morningGoes_16 : decode cX11_morningGoes 16 = .ok (.getfield 267, 3) := by decide +kernel
theorem dX11_morningGoes_19 : decode cX11_morningGoes 19 = .ok (.istore_n 2, 1) := by decide +kernel
theorem dX11_morningGoes_20 : decode cX11_morningGoes 20 = .ok (.iconst 0, 1) := by decide +kernel
theorem dX11_morningGoes_21 : decode cX11_morningGoes 21 = .ok (.istore_n 3, 1) := by decide +kernel
theorem dX11_morningGoes_22 : decode cX11_morningGoes 22 = .ok (.iload_n 3, 1) := by decide +kernel
theorem dX11_morningGoes_23 : decode cX11_morningGoes 23 = .ok (.iload_n 2, 1) := by decide +kernel
theorem dX11_morningGoes_24 : decode cX11_morningGoes 24 = .ok (.if_icmp .ge 24, 3) := by decide +kernel
theorem dX11_morningGoes_27 : decode cX11_morningGoes 27 = .ok (.aload_n 0, 1) := by decide +kernel
theorem dX11_morningGoes_28 : decode cX11_morningGoes 28 = .ok (.iload_n 1, 1) := by decide +kernel
theorem dX11_morningGoes_29 : decode cX11_morningGoes 29 = .ok (.aload_n 0, 1) := by decide +kernel
theorem dX11_morningGoes_30 : decode cX11_morningGoes 30 = .ok (.getfield 261, 3) := by decide +kernel
theorem dX11_morningGoes_33 : decode cX11_morningGoes 33 = .ok (.aload_n 0, 1) := by decide +kernel
theorem dX11_morningGoes_34 : decode cX11_morningGoes 34 = .ok (.getfield 264, 3) := by decide +kernel
theorem dX11_morningGoes_37 : decode cX11_morningGoes 37 = .ok (.iload_n 3, 1) := by decide +kernel
theorem dX11_morningGoes_38 : decode cX11_morningGoes 38 = .ok (.iadd, 1) := by decide +kernel
theorem dX11_morningGoes_39 : decode cX11_morningGoes 39 = .ok (.invokevirtual 257, 3) := by decide +kernel
theorem dX11_morningGoes_42 : decode cX11_morningGoes 42 = .ok (.iinc 3 1, 3) := by decide +kernel
theorem dX11_morningGoes_45 : decode cX11_morningGoes 45 = .ok (.goto (-23), 3) := by decide +kernel
theorem dX11_morningGoes_48 : decode cX11_morningGoes 48 = .ok (.iinc 1 1, 3) := by decide +kernel
theorem dX11_morningGoes_51 : decode cX11_morningGoes 51 = .ok (.goto (-49), 3) := by decide +kernel
theorem dX11_morningGoes_54 : decode cX11_morningGoes 54 = .ok (.aload_n 0, 1) := by decide +kernel
theorem dX11_morningGoes_55 : decode cX11_morningGoes 55 = .ok (.iconst 0, 1) := by decide +kernel
theorem dX11_morningGoes_56 : decode cX11_morningGoes 56 = .ok (.invokevirtual 225, 3) := by decide +kernel
theorem dX11_morningGoes_59 : decode cX11_morningGoes 59 = .ok (.istore_n 1, 1) := by decide +kernel
theorem dX11_morningGoes_60 : decode cX11_morningGoes 60 = .ok (.aload_n 0, 1) := by decide +kernel
theorem dX11_morningGoes_61 : decode cX11_morningGoes 61 = .ok (.iload_n 1, 1) := by decide +kernel
theorem dX11_morningGoes_62 : decode cX11_morningGoes 62 = .ok (.iconst 0, 1) := by decide +kernel
theorem dX11_morningGoes_63 : decode cX11_morningGoes 63 = .ok (.invokevirtual 284, 3) := by decide +kernel
theorem dX11_morningGoes_66 : decode cX11_morningGoes 66 = .ok (.istore_n 2, 1) := by decide +kernel
theorem dX11_morningGoes_67 : decode cX11_morningGoes 67 = .ok (.aload_n 0, 1) := by decide +kernel
theorem dX11_morningGoes_68 : decode cX11_morningGoes 68 = .ok (.getfield 7, 3) := by decide +kernel
theorem dX11_morningGoes_71 : decode cX11_morningGoes 71 = .ok (.aload_n 0, 1) := by decide +kernel
theorem dX11_morningGoes_72 : decode cX11_morningGoes 72 = .ok (.getfield 91, 3) := by decide +kernel
theorem dX11_morningGoes_75 : decode cX11_morningGoes 75 = .ok (.bipush 23, 2) := by decide +kernel
theorem dX11_morningGoes_77 : decode cX11_morningGoes 77 = .ok (.iadd, 1) := by decide +kernel
theorem dX11_morningGoes_78 : decode cX11_morningGoes 78 = .ok (.iload_n 1, 1) := by decide +kernel
theorem dX11_morningGoes_79 : decode cX11_morningGoes 79 = .ok (.iadd, 1) := by decide +kernel
theorem dX11_morningGoes_80 : decode cX11_morningGoes 80 = .ok (.iload_n 2, 1) := by decide +kernel
theorem dX11_morningGoes_81 : decode cX11_morningGoes 81 = .ok (.iastore, 1) := by decide +kernel
theorem dX11_morningGoes_82 : decode cX11_morningGoes 82 = .ok (.aload_n 0, 1) := by decide +kernel
theorem dX11_morningGoes_83 : decode cX11_morningGoes 83 = .ok (.iconst 0, 1) := by decide +kernel
theorem dX11_morningGoes_84 : decode cX11_morningGoes 84 = .ok (.putfield 288, 3) := by decide +kernel
theorem dX11_morningGoes_87 : decode cX11_morningGoes 87 = .ok (.iconst 0, 1) := by decide +kernel
theorem dX11_morningGoes_88 : decode cX11_morningGoes 88 = .ok (.istore_n 3, 1) := by decide +kernel
theorem dX11_morningGoes_89 : decode cX11_morningGoes 89 = .ok (.iload_n 3, 1) := by decide +kernel
theorem dX11_morningGoes_90 : decode cX11_morningGoes 90 = .ok (.aload_n 0, 1) := by decide +kernel
theorem dX11_morningGoes_91 : decode cX11_morningGoes 91 = .ok (.iconst 2, 1) := by decide +kernel
theorem dX11_morningGoes_92 : decode cX11_morningGoes 92 = .ok (.invokevirtual 225, 3) := by decide +kernel
theorem dX11_morningGoes_95 : decode cX11_morningGoes 95 = .ok (.if_icmp .ge 96, 3) := by decide +kernel
theorem dX11_morningGoes_98 : decode cX11_morningGoes 98 = .ok (.aload_n 0, 1) := by decide +kernel
theorem dX11_morningGoes_99 : decode cX11_morningGoes 99 = .ok (.iload_n 3, 1) := by decide +kernel
theorem dX11_morningGoes_100 : decode cX11_morningGoes 100 = .ok (.iconst 1, 1) := by decide +kernel
theorem dX11_morningGoes_101 : decode cX11_morningGoes 101 = .ok (.invokevirtual 232, 3) := by decide +kernel
theorem dX11_morningGoes_104 : decode cX11_morningGoes 104 = .ok (.iload_n 1, 1) := by decide +kernel
theorem dX11_morningGoes_105 : decode cX11_morningGoes 105 = .ok (.if_icmp .ne 80, 3) := by decide +kernel
theorem dX11_morningGoes_108 : decode cX11_morningGoes 108 = .ok (.aload_n 0, 1) := by decide +kernel
theorem dX11_morningGoes_109 : decode cX11_morningGoes 109 = .ok (.iload_n 3, 1) := by decide +kernel
theorem dX11_morningGoes_110 : decode cX11_morningGoes 110 = .ok (.iconst 0, 1) := by decide +kernel
theorem dX11_morningGoes_111 : decode cX11_morningGoes 111 = .ok (.invokevirtual 232, 3) := by decide +kernel
theorem dX11_morningGoes_114 : decode cX11_morningGoes 114 = .ok (.istore 4, 2) := by decide +kernel
theorem dX11_morningGoes_116 : decode cX11_morningGoes 116 = .ok (.aload_n 0, 1) := by decide +kernel
theorem dX11_morningGoes_117 : decode cX11_morningGoes 117 = .ok (.getfield 7, 3) := by decide +kernel
theorem dX11_morningGoes_120 : decode cX11_morningGoes 120 = .ok (.aload_n 0, 1) := by decide +kernel
theorem dX11_morningGoes_121 : decode cX11_morningGoes 121 = .ok (.getfield 91, 3) := by decide +kernel
theorem dX11_morningGoes_124 : decode cX11_morningGoes 124 = .ok (.bipush 43, 2) := by decide +kernel
theorem dX11_morningGoes_126 : decode cX11_morningGoes 126 = .ok (.iadd, 1) := by decide +kernel
theorem dX11_morningGoes_127 : decode cX11_morningGoes 127 = .ok (.iload 4, 2) := by decide +kernel
theorem dX11_morningGoes_129 : decode cX11_morningGoes 129 = .ok (.iadd, 1) := by decide +kernel
theorem dX11_morningGoes_130 : decode cX11_morningGoes 130 = .ok (.dup2, 1) := by decide +kernel
theorem dX11_morningGoes_131 : decode cX11_morningGoes 131 = .ok (.iaload, 1) := by decide +kernel
theorem dX11_morningGoes_132 : decode cX11_morningGoes 132 = .ok (.aload_n 0, 1) := by decide +kernel
theorem dX11_morningGoes_133 : decode cX11_morningGoes 133 = .ok (.iload_n 3, 1) := by decide +kernel
theorem dX11_morningGoes_134 : decode cX11_morningGoes 134 = .ok (.iconst 2, 1) := by decide +kernel
theorem dX11_morningGoes_135 : decode cX11_morningGoes 135 = .ok (.invokevirtual 232, 3) := by decide +kernel
theorem dX11_morningGoes_138 : decode cX11_morningGoes 138 = .ok (.iload_n 2, 1) := by decide +kernel
theorem dX11_morningGoes_139 : decode cX11_morningGoes 139 = .ok (.if_icmp .ne 11, 3) := by decide +kernel
theorem dX11_morningGoes_142 : decode cX11_morningGoes 142 = .ok (.aload_n 0, 1) := by decide +kernel
theorem dX11_morningGoes_143 : decode cX11_morningGoes 143 = .ok (.iload_n 1, 1) := by decide +kernel
theorem dX11_morningGoes_144 : decode cX11_morningGoes 144 = .ok (.invokevirtual 238, 3) := by decide +kernel
theorem dX11_morningGoes_147 : decode cX11_morningGoes 147 = .ok (.goto 11, 3) := by decide +kernel
theorem dX11_morningGoes_150 : decode cX11_morningGoes 150 = .ok (.iconst 0, 1) := by decide +kernel
theorem dX11_morningGoes_151 : decode cX11_morningGoes 151 = .ok (.aload_n 0, 1) := by decide +kernel
theorem dX11_morningGoes_152 : decode cX11_morningGoes 152 = .ok (.getfield 22, 3) := by decide +kernel
theorem dX11_morningGoes_155 : decode cX11_morningGoes 155 = .ok (.iconst 1, 1) := by decide +kernel
theorem dX11_morningGoes_156 : decode cX11_morningGoes 156 = .ok (.iaload, 1) := by decide +kernel
theorem dX11_morningGoes_157 : decode cX11_morningGoes 157 = .ok (.isub, 1) := by decide +kernel
theorem dX11_morningGoes_158 : decode cX11_morningGoes 158 = .ok (.iadd, 1) := by decide +kernel
theorem dX11_morningGoes_159 : decode cX11_morningGoes 159 = .ok (.iastore, 1) := by decide +kernel
theorem dX11_morningGoes_160 : decode cX11_morningGoes 160 = .ok (.aload_n 0, 1) := by decide +kernel
theorem dX11_morningGoes_161 : decode cX11_morningGoes 161 = .ok (.aload_n 0, 1) := by decide +kernel
theorem dX11_morningGoes_162 : decode cX11_morningGoes 162 = .ok (.iload_n 3, 1) := by decide +kernel
theorem dX11_morningGoes_163 : decode cX11_morningGoes 163 = .ok (.iconst 2, 1) := by decide +kernel
theorem dX11_morningGoes_164 : decode cX11_morningGoes 164 = .ok (.invokevirtual 232, 3) := by decide +kernel
theorem dX11_morningGoes_167 : decode cX11_morningGoes 167 = .ok (.iload_n 2, 1) := by decide +kernel
theorem dX11_morningGoes_168 : decode cX11_morningGoes 168 = .ok (.if_icmp .ne 10, 3) := by decide +kernel
theorem dX11_morningGoes_171 : decode cX11_morningGoes 171 = .ok (.iload 4, 2) := by decide +kernel
theorem dX11_morningGoes_173 : decode cX11_morningGoes 173 = .ok (.iconst 1, 1) := by decide +kernel
theorem dX11_morningGoes_174 : decode cX11_morningGoes 174 = .ok (.iadd, 1) := by decide +kernel
theorem dX11_morningGoes_175 : decode cX11_morningGoes 175 = .ok (.goto 7, 3) := by decide +kernel
theorem dX11_morningGoes_178 : decode cX11_morningGoes 178 = .ok (.aload_n 0, 1) := by decide +kernel
theorem dX11_morningGoes_179 : decode cX11_morningGoes 179 = .ok (.getfield 288, 3) := by decide +kernel
theorem dX11_morningGoes_182 : decode cX11_morningGoes 182 = .ok (.putfield 288, 3) := by decide +kernel
theorem dX11_morningGoes_185 : decode cX11_morningGoes 185 = .ok (.iinc 3 1, 3) := by decide +kernel
theorem dX11_morningGoes_188 : decode cX11_morningGoes 188 = .ok (.goto (-99), 3) := by decide +kernel
theorem dX11_morningGoes_191 : decode cX11_morningGoes 191 = .ok (.aload_n 0, 1) := by decide +kernel
theorem dX11_morningGoes_192 : decode cX11_morningGoes 192 = .ok (.getfield 7, 3) := by decide +kernel
theorem dX11_morningGoes_195 : decode cX11_morningGoes 195 = .ok (.aload_n 0, 1) := by decide +kernel
theorem dX11_morningGoes_196 : decode cX11_morningGoes 196 = .ok (.getfield 91, 3) := by decide +kernel
theorem dX11_morningGoes_199 : decode cX11_morningGoes 199 = .ok (.iconst 0, 1) := by decide +kernel
theorem dX11_morningGoes_200 : decode cX11_morningGoes 200 = .ok (.iadd, 1) := by decide +kernel
theorem dX11_morningGoes_201 : decode cX11_morningGoes 201 = .ok (.dup2, 1) := by decide +kernel
theorem dX11_morningGoes_202 : decode cX11_morningGoes 202 = .ok (.iaload, 1) := by decide +kernel
theorem dX11_morningGoes_203 : decode cX11_morningGoes 203 = .ok (.iconst 1, 1) := by decide +kernel
theorem dX11_morningGoes_204 : decode cX11_morningGoes 204 = .ok (.iadd, 1) := by decide +kernel
theorem dX11_morningGoes_205 : decode cX11_morningGoes 205 = .ok (.iastore, 1) := by decide +kernel
theorem dX11_morningGoes_206 : decode cX11_morningGoes 206 = .ok (.aload_n 0, 1) := by decide +kernel
theorem dX11_morningGoes_207 : decode cX11_morningGoes 207 = .ok (.iconst 0, 1) := by decide +kernel
theorem dX11_morningGoes_208 : decode cX11_morningGoes 208 = .ok (.invokevirtual 225, 3) := by decide +kernel
theorem dX11_morningGoes_211 : decode cX11_morningGoes 211 = .ok (.iconst 3, 1) := by decide +kernel
theorem dX11_morningGoes_212 : decode cX11_morningGoes 212 = .ok (.iadd, 1) := by decide +kernel
theorem dX11_morningGoes_213 : decode cX11_morningGoes 213 = .ok (.istore_n 3, 1) := by decide +kernel
theorem dX11_morningGoes_214 : decode cX11_morningGoes 214 = .ok (.iload_n 3, 1) := by decide +kernel
theorem dX11_morningGoes_215 : decode cX11_morningGoes 215 = .ok (.bipush 20, 2) := by decide +kernel
theorem dX11_morningGoes_217 : decode cX11_morningGoes 217 = .ok (.if_icmp .ge 42, 3) := by decide +kernel
theorem dX11_morningGoes_220 : decode cX11_morningGoes 220 = .ok (.aload_n 0, 1) := by decide +kernel
theorem dX11_morningGoes_221 : decode cX11_morningGoes 221 = .ok (.iconst 3, 1) := by decide +kernel
theorem dX11_morningGoes_222 : decode cX11_morningGoes 222 = .ok (.iload_n 3, 1) := by decide +kernel
theorem dX11_morningGoes_223 : decode cX11_morningGoes 223 = .ok (.bipush 20, 2) := by decide +kernel
theorem dX11_morningGoes_225 : decode cX11_morningGoes 225 = .ok (.if_icmp .ge 7, 3) := by decide +kernel
theorem dX11_morningGoes_228 : decode cX11_morningGoes 228 = .ok (.iload_n 3, 1) := by decide +kernel
theorem dX11_morningGoes_229 : decode cX11_morningGoes 229 = .ok (.goto 4, 3) := by decide +kernel
theorem dX11_morningGoes_232 : decode cX11_morningGoes 232 = .ok (.iconst 0, 1) := by decide +kernel
theorem dX11_morningGoes_233 : decode cX11_morningGoes 233 = .ok (.iadd, 1) := by decide +kernel
theorem dX11_morningGoes_234 : decode cX11_morningGoes 234 = .ok (.invokevirtual 225, 3) := by decide +kernel
theorem dX11_morningGoes_237 : decode cX11_morningGoes 237 = .ok (.ifCond .ge 22, 3) := by decide +kernel
theorem dX11_morningGoes_240 : decode cX11_morningGoes 240 = .ok (.aload_n 0, 1) := by decide +kernel
theorem dX11_morningGoes_241 : decode cX11_morningGoes 241 = .ok (.getfield 7, 3) := by decide +kernel
theorem dX11_morningGoes_244 : decode cX11_morningGoes 244 = .ok (.aload_n 0, 1) := by decide +kernel
theorem dX11_morningGoes_245 : decode cX11_morningGoes 245 = .ok (.getfield 91, 3) := by decide +kernel
theorem dX11_morningGoes_248 : decode cX11_morningGoes 248 = .ok (.iconst 3, 1) := by decide +kernel
theorem dX11_morningGoes_249 : decode cX11_morningGoes 249 = .ok (.iadd, 1) := by decide +kernel
theorem dX11_morningGoes_250 : decode cX11_morningGoes 250 = .ok (.iload_n 3, 1) := by decide +kernel
theorem dX11_morningGoes_251 : decode cX11_morningGoes 251 = .ok (.iadd, 1) := by decide +kernel
theorem dX11_morningGoes_252 : decode cX11_morningGoes 252 = .ok (.aload_n 0, 1) := by decide +kernel
theorem dX11_morningGoes_253 : decode cX11_morningGoes 253 = .ok (.iload_n 3, 1) := by decide +kernel
theorem dX11_morningGoes_254 : decode cX11_morningGoes 254 = .ok (.iconst 1, 1) := by decide +kernel
theorem dX11_morningGoes_255 : decode cX11_morningGoes 255 = .ok (.invokevirtual 284, 3) := by decide +kernel
theorem dX11_morningGoes_258 : decode cX11_morningGoes 258 = .ok (.iastore, 1) := by decide +kernel
theorem dX11_morningGoes_259 : decode cX11_morningGoes 259 = .ok (.return_, 1) := by decide +kernel
theorem dX11_morning_0 : decode cX11_morning 0 = .ok (.iload_n 1, 1) := by decide +kernel
theorem dX11_morning_1 : decode cX11_morning 1 = .ok (.iconst 0, 1) := by decide +kernel
theorem dX11_morning_2 : decode cX11_morning 2 = .ok (.bipush 20, 2) := by decide +kernel
theorem dX11_morning_4 : decode cX11_morning 4 = .ok (.invokestatic 83, 3) := by decide +kernel
theorem dX11_morning_7 : decode cX11_morning 7 = .ok (.ifCond .ne 5, 3) := by decide +kernel
theorem dX11_morning_10 : decode cX11_morning 10 = .ok (.iconst (-1), 1) := by decide +kernel
theorem dX11_morning_11 : decode cX11_morning 11 = .ok (.ireturn, 1) := by decide +kernel
theorem dX11_morning_12 : decode cX11_morning 12 = .ok (.iconst 0, 1) := by decide +kernel
theorem dX11_morning_13 : decode cX11_morning 13 = .ok (.istore_n 2, 1) := by decide +kernel
theorem dX11_morning_14 : decode cX11_morning 14 = .ok (.iload_n 2, 1) := by decide +kernel
theorem dX11_morning_15 : decode cX11_morning 15 = .ok (.iload_n 1, 1) := by decide +kernel
theorem dX11_morning_16 : decode cX11_morning 16 = .ok (.if_icmp .ge 24, 3) := by decide +kernel
theorem dX11_morning_19 : decode cX11_morning 19 = .ok (.aload_n 0, 1) := by decide +kernel
theorem dX11_morning_20 : decode cX11_morning 20 = .ok (.getfield 7, 3) := by decide +kernel
theorem dX11_morning_23 : decode cX11_morning 23 = .ok (.iconst 0, 1) := by decide +kernel
theorem dX11_morning_24 : decode cX11_morning 24 = .ok (.iaload, 1) := by decide +kernel
theorem dX11_morning_25 : decode cX11_morning 25 = .ok (.bipush 20, 2) := by decide +kernel
theorem dX11_morning_27 : decode cX11_morning 27 = .ok (.if_icmp .ge 13, 3) := by decide +kernel
theorem dX11_morning_30 : decode cX11_morning 30 = .ok (.aload_n 0, 1) := by decide +kernel
theorem dX11_morning_31 : decode cX11_morning 31 = .ok (.invokevirtual 291, 3) := by decide +kernel
theorem dX11_morning_34 : decode cX11_morning 34 = .ok (.iinc 2 1, 3) := by decide +kernel
theorem dX11_morning_37 : decode cX11_morning 37 = .ok (.goto (-23), 3) := by decide +kernel
theorem dX11_morning_40 : decode cX11_morning 40 = .ok (.aload_n 0, 1) := by decide +kernel
theorem dX11_morning_41 : decode cX11_morning 41 = .ok (.getfield 7, 3) := by decide +kernel
theorem dX11_morning_44 : decode cX11_morning 44 = .ok (.iconst 0, 1) := by decide +kernel
theorem dX11_morning_45 : decode cX11_morning 45 = .ok (.iaload, 1) := by decide +kernel
theorem dX11_morning_46 : decode cX11_morning 46 = .ok (.ireturn, 1) := by decide +kernel
theorem dX11_now_0 : decode cX11_now 0 = .ok (.aload_n 0, 1) := by decide +kernel
theorem dX11_now_1 : decode cX11_now 1 = .ok (.getfield 7, 3) := by decide +kernel
theorem dX11_now_4 : decode cX11_now 4 = .ok (.iconst 0, 1) := by decide +kernel
theorem dX11_now_5 : decode cX11_now 5 = .ok (.iaload, 1) := by decide +kernel
theorem dX11_now_6 : decode cX11_now 6 = .ok (.ireturn, 1) := by decide +kernel
theorem dX11_owner_0 : decode cX11_owner 0 = .ok (.iload_n 1, 1) := by decide +kernel
theorem dX11_owner_1 : decode cX11_owner 1 = .ok (.invokestatic 216, 3) := by decide +kernel
theorem dX11_owner_4 : decode cX11_owner 4 = .ok (.ifCond .ne 5, 3) := by decide +kernel
theorem dX11_owner_7 : decode cX11_owner 7 = .ok (.iconst (-1), 1) := by decide +kernel
theorem dX11_owner_8 : decode cX11_owner 8 = .ok (.ireturn, 1) := by decide +kernel
theorem dX11_owner_9 : decode cX11_owner 9 = .ok (.bipush (-3), 2) := by decide +kernel
theorem dX11_owner_11 : decode cX11_owner 11 = .ok (.istore_n 2, 1) := by decide +kernel
theorem dX11_owner_12 : decode cX11_owner 12 = .ok (.iconst 0, 1) := by decide +kernel
theorem dX11_owner_13 : decode cX11_owner 13 = .ok (.istore_n 3, 1) := by decide +kernel
theorem dX11_owner_14 : decode cX11_owner 14 = .ok (.iload_n 3, 1) := by decide +kernel
theorem dX11_owner_15 : decode cX11_owner 15 = .ok (.aload_n 0, 1) := by decide +kernel
theorem dX11_owner_16 : decode cX11_owner 16 = .ok (.getfield 7, 3) := by decide +kernel
theorem dX11_owner_19 : decode cX11_owner 19 = .ok (.iconst 2, 1) := by decide +kernel
theorem dX11_owner_20 : decode cX11_owner 20 = .ok (.iaload, 1) := by decide +kernel
theorem dX11_owner_21 : decode cX11_owner 21 = .ok (.if_icmp .ge 58, 3) := by decide +kernel
theorem dX11_owner_24 : decode cX11_owner 24 = .ok (.iload_n 1, 1) := by decide +kernel
theorem dX11_owner_25 : decode cX11_owner 25 = .ok (.aload_n 0, 1) := by decide +kernel
theorem dX11_owner_26 : decode cX11_owner 26 = .ok (.getfield 7, 3) := by decide +kernel
theorem dX11_owner_29 : decode cX11_owner 29 = .ok (.iconst 0, 1) := by decide +kernel
theorem dX11_owner_30 : decode cX11_owner 30 = .ok (.iaload, 1) := by decide +kernel
theorem dX11_owner_31 : decode cX11_owner 31 = .ok (.if_icmp .ge 40, 3) := by decide +kernel
theorem dX11_owner_34 : decode cX11_owner 34 = .ok (.aload_n 0, 1) := by decide +kernel
theorem dX11_owner_35 : decode cX11_owner 35 = .ok (.iload_n 3, 1) := by decide +kernel
theorem dX11_owner_36 : decode cX11_owner 36 = .ok (.iconst 1, 1) := by decide +kernel
theorem dX11_owner_37 : decode cX11_owner 37 = .ok (.invokevirtual 232, 3) := by decide +kernel
theorem dX11_owner_40 : decode cX11_owner 40 = .ok (.iload_n 1, 1) := by decide +kernel
theorem dX11_owner_41 : decode cX11_owner 41 = .ok (.if_icmp .ne 30, 3) := by decide +kernel
theorem dX11_owner_44 : decode cX11_owner 44 = .ok (.aload_n 0, 1) := by decide +kernel
theorem dX11_owner_45 : decode cX11_owner 45 = .ok (.iload_n 3, 1) := by decide +kernel
theorem dX11_owner_46 : decode cX11_owner 46 = .ok (.iconst 2, 1) := by decide +kernel
theorem dX11_owner_47 : decode cX11_owner 47 = .ok (.invokevirtual 232, 3) := by decide +kernel
theorem dX11_owner_50 : decode cX11_owner 50 = .ok (.aload_n 0, 1) := by decide +kernel
theorem dX11_owner_51 : decode cX11_owner 51 = .ok (.getfield 7, 3) := by decide +kernel
theorem dX11_owner_54 : decode cX11_owner 54 = .ok (.bipush 23, 2) := by decide +kernel
theorem dX11_owner_56 : decode cX11_owner 56 = .ok (.iload_n 1, 1) := by decide +kernel
theorem dX11_owner_57 : decode cX11_owner 57 = .ok (.iadd, 1) := by decide +kernel
theorem dX11_owner_58 : decode cX11_owner 58 = .ok (.iaload, 1) := by decide +kernel
theorem dX11_owner_59 : decode cX11_owner 59 = .ok (.if_icmp .ne 12, 3) := by decide +kernel
theorem dX11_owner_62 : decode cX11_owner 62 = .ok (.aload_n 0, 1) := by decide +kernel
theorem dX11_owner_63 : decode cX11_owner 63 = .ok (.iload_n 3, 1) := by decide +kernel
theorem dX11_owner_64 : decode cX11_owner 64 = .ok (.iconst 0, 1) := by decide +kernel
theorem dX11_owner_65 : decode cX11_owner 65 = .ok (.invokevirtual 232, 3) := by decide +kernel
theorem dX11_owner_68 : decode cX11_owner 68 = .ok (.goto 4, 3) := by decide +kernel
theorem dX11_owner_71 : decode cX11_owner 71 = .ok (.iload_n 2, 1) := by decide +kernel
theorem dX11_owner_72 : decode cX11_owner 72 = .ok (.istore_n 2, 1) := by decide +kernel
theorem dX11_owner_73 : decode cX11_owner 73 = .ok (.iinc 3 1, 3) := by decide +kernel
theorem dX11_owner_76 : decode cX11_owner 76 = .ok (.goto (-62), 3) := by decide +kernel
theorem dX11_owner_79 : decode cX11_owner 79 = .ok (.iload_n 2, 1) := by decide +kernel
theorem dX11_owner_80 : decode cX11_owner 80 = .ok (.ireturn, 1) := by decide +kernel
theorem dX11_lowest_0 : decode cX11_lowest 0 = .ok (.lload_n 1, 1) := by decide +kernel
theorem dX11_lowest_1 : decode cX11_lowest 1 = .ok (.lconst 0, 1) := by decide +kernel
theorem dX11_lowest_2 : decode cX11_lowest 2 = .ok (.lcmp, 1) := by decide +kernel
theorem dX11_lowest_3 : decode cX11_lowest 3 = .ok (.ifCond .ge 8, 3) := by decide +kernel
theorem dX11_lowest_6 : decode cX11_lowest 6 = .ok (.lload_n 1, 1) := by decide +kernel
theorem dX11_lowest_7 : decode cX11_lowest 7 = .ok (.lneg, 1) := by decide +kernel
theorem dX11_lowest_8 : decode cX11_lowest 8 = .ok (.goto 4, 3) := by decide +kernel
theorem dX11_lowest_11 : decode cX11_lowest 11 = .ok (.lload_n 1, 1) := by decide +kernel
theorem dX11_lowest_12 : decode cX11_lowest 12 = .ok (.lstore 5, 2) := by decide +kernel
theorem dX11_lowest_14 : decode cX11_lowest 14 = .ok (.lload_n 3, 1) := by decide +kernel
theorem dX11_lowest_15 : decode cX11_lowest 15 = .ok (.lstore 7, 2) := by decide +kernel
theorem dX11_lowest_17 : decode cX11_lowest 17 = .ok (.lload 7, 2) := by decide +kernel
theorem dX11_lowest_19 : decode cX11_lowest 19 = .ok (.lconst 0, 1) := by decide +kernel
theorem dX11_lowest_20 : decode cX11_lowest 20 = .ok (.lcmp, 1) := by decide +kernel
theorem dX11_lowest_21 : decode cX11_lowest 21 = .ok (.ifCond .eq 21, 3) := by decide +kernel
theorem dX11_lowest_24 : decode cX11_lowest 24 = .ok (.lload 5, 2) := by decide +kernel
theorem dX11_lowest_26 : decode cX11_lowest 26 = .ok (.lload 7, 2) := by decide +kernel
theorem dX11_lowest_28 : decode cX11_lowest 28 = .ok (.lrem, 1) := by decide +kernel
theorem dX11_lowest_29 : decode cX11_lowest 29 = .ok (.lstore 9, 2) := by decide +kernel
theorem dX11_lowest_31 : decode cX11_lowest 31 = .ok (.lload 7, 2) := by decide +kernel
theorem dX11_lowest_33 : decode cX11_lowest 33 = .ok (.lstore 5, 2) := by decide +kernel
theorem dX11_lowest_35 : decode cX11_lowest 35 = .ok (.lload 9, 2) := by decide +kernel
theorem dX11_lowest_37 : decode cX11_lowest 37 = .ok (.lstore 7, 2) := by decide +kernel
theorem dX11_lowest_39 : decode cX11_lowest 39 = .ok (.goto (-22), 3) := by decide +kernel
theorem dX11_lowest_42 : decode cX11_lowest 42 = .ok (.aload_n 0, 1) := by decide +kernel
theorem dX11_lowest_43 : decode cX11_lowest 43 = .ok (.lload_n 1, 1) := by decide +kernel
theorem dX11_lowest_44 : decode cX11_lowest 44 = .ok (.lload 5, 2) := by decide +kernel
theorem dX11_lowest_46 : decode cX11_lowest 46 = .ok (.ldiv, 1) := by decide +kernel
theorem dX11_lowest_47 : decode cX11_lowest 47 = .ok (.putfield 294, 3) := by decide +kernel
theorem dX11_lowest_50 : decode cX11_lowest 50 = .ok (.aload_n 0, 1) := by decide +kernel
theorem dX11_lowest_51 : decode cX11_lowest 51 = .ok (.lload_n 3, 1) := by decide +kernel
theorem dX11_lowest_52 : decode cX11_lowest 52 = .ok (.lload 5, 2) := by decide +kernel
theorem dX11_lowest_54 : decode cX11_lowest 54 = .ok (.ldiv, 1) := by decide +kernel
theorem dX11_lowest_55 : decode cX11_lowest 55 = .ok (.putfield 297, 3) := by decide +kernel
theorem dX11_lowest_58 : decode cX11_lowest 58 = .ok (.return_, 1) := by decide +kernel
theorem dX11_toldPart_0 : decode cX11_toldPart 0 = .ok (.iload_n 1, 1) := by decide +kernel
theorem dX11_toldPart_1 : decode cX11_toldPart 1 = .ok (.ifCond .ne 10, 3) := by decide +kernel
theorem dX11_toldPart_4 : decode cX11_toldPart 4 = .ok (.aload_n 0, 1) := by decide +kernel
theorem dX11_toldPart_5 : decode cX11_toldPart 5 = .ok (.getfield 294, 3) := by decide +kernel
theorem dX11_toldPart_8 : decode cX11_toldPart 8 = .ok (.goto 7, 3) := by decide +kernel
theorem dX11_toldPart_11 : decode cX11_toldPart 11 = .ok (.aload_n 0, 1) := by decide +kernel
theorem dX11_toldPart_12 : decode cX11_toldPart 12 = .ok (.getfield 297, 3) := by decide +kernel
theorem dX11_toldPart_15 : decode cX11_toldPart 15 = .ok (.lreturn, 1) := by decide +kernel
theorem dX11_isComing_0 : decode cX11_isComing 0 = .ok (.iload_n 1, 1) := by decide +kernel
theorem dX11_isComing_1 : decode cX11_isComing 1 = .ok (.aload_n 0, 1) := by decide +kernel
theorem dX11_isComing_2 : decode cX11_isComing 2 = .ok (.getfield 7, 3) := by decide +kernel
theorem dX11_isComing_5 : decode cX11_isComing 5 = .ok (.iconst 0, 1) := by decide +kernel
theorem dX11_isComing_6 : decode cX11_isComing 6 = .ok (.iaload, 1) := by decide +kernel
theorem dX11_isComing_7 : decode cX11_isComing 7 = .ok (.bipush 19, 2) := by decide +kernel
theorem dX11_isComing_9 : decode cX11_isComing 9 = .ok (.invokestatic 83, 3) := by decide +kernel
theorem dX11_isComing_12 : decode cX11_isComing 12 = .ok (.ireturn, 1) := by decide +kernel
theorem dX11_odds_0 : decode cX11_odds 0 = .ok (.aload_n 0, 1) := by decide +kernel
theorem dX11_odds_1 : decode cX11_odds 1 = .ok (.iload_n 1, 1) := by decide +kernel
theorem dX11_odds_2 : decode cX11_odds 2 = .ok (.invokevirtual 300, 3) := by decide +kernel
theorem dX11_odds_5 : decode cX11_odds 5 = .ok (.ifCond .eq 17, 3) := by decide +kernel
theorem dX11_odds_8 : decode cX11_odds 8 = .ok (.iload_n 2, 1) := by decide +kernel
theorem dX11_odds_9 : decode cX11_odds 9 = .ok (.invokestatic 219, 3) := by decide +kernel
theorem dX11_odds_12 : decode cX11_odds 12 = .ok (.ifCond .eq 10, 3) := by decide +kernel
theorem dX11_odds_15 : decode cX11_odds 15 = .ok (.iload_n 3, 1) := by decide +kernel
theorem dX11_odds_16 : decode cX11_odds 16 = .ok (.invokestatic 303, 3) := by decide +kernel
theorem dX11_odds_19 : decode cX11_odds 19 = .ok (.ifCond .ne 5, 3) := by decide +kernel
theorem dX11_odds_22 : decode cX11_odds 22 = .ok (.iconst (-1), 1) := by decide +kernel
theorem dX11_odds_23 : decode cX11_odds 23 = .ok (.ireturn, 1) := by decide +kernel
theorem dX11_odds_24 : decode cX11_odds 24 = .ok (.aload_n 0, 1) := by decide +kernel
theorem dX11_odds_25 : decode cX11_odds 25 = .ok (.aload_n 0, 1) := by decide +kernel
theorem dX11_odds_26 : decode cX11_odds 26 = .ok (.iload_n 1, 1) := by decide +kernel
theorem dX11_odds_27 : decode cX11_odds 27 = .ok (.iload_n 2, 1) := by decide +kernel
theorem dX11_odds_28 : decode cX11_odds 28 = .ok (.invokevirtual 228, 3) := by decide +kernel
theorem dX11_odds_31 : decode cX11_odds 31 = .ok (.i2l, 1) := by decide +kernel
theorem dX11_odds_32 : decode cX11_odds 32 = .ok (.aload_n 0, 1) := by decide +kernel
theorem dX11_odds_33 : decode cX11_odds 33 = .ok (.iload_n 1, 1) := by decide +kernel
theorem dX11_odds_34 : decode cX11_odds 34 = .ok (.invokevirtual 277, 3) := by decide +kernel
theorem dX11_odds_37 : decode cX11_odds 37 = .ok (.i2l, 1) := by decide +kernel
theorem dX11_odds_38 : decode cX11_odds 38 = .ok (.invokevirtual 306, 3) := by decide +kernel
theorem dX11_odds_41 : decode cX11_odds 41 = .ok (.aload_n 0, 1) := by decide +kernel
theorem dX11_odds_42 : decode cX11_odds 42 = .ok (.iload_n 3, 1) := by decide +kernel
theorem dX11_odds_43 : decode cX11_odds 43 = .ok (.invokevirtual 310, 3) := by decide +kernel
theorem dX11_odds_46 : decode cX11_odds 46 = .ok (.l2i, 1) := by decide +kernel
theorem dX11_odds_47 : decode cX11_odds 47 = .ok (.ireturn, 1) := by decide +kernel
theorem dX11_gainBy_0 : decode cX11_gainBy 0 = .ok (.aload_n 0, 1) := by decide +kernel
theorem dX11_gainBy_1 : decode cX11_gainBy 1 = .ok (.iload_n 1, 1) := by decide +kernel
theorem dX11_gainBy_2 : decode cX11_gainBy 2 = .ok (.invokevirtual 238, 3) := by decide +kernel
theorem dX11_gainBy_5 : decode cX11_gainBy 5 = .ok (.i2l, 1) := by decide +kernel
theorem dX11_gainBy_6 : decode cX11_gainBy 6 = .ok (.iload_n 2, 1) := by decide +kernel
theorem dX11_gainBy_7 : decode cX11_gainBy 7 = .ok (.i2l, 1) := by decide +kernel
theorem dX11_gainBy_8 : decode cX11_gainBy 8 = .ok (.lmul, 1) := by decide +kernel
theorem dX11_gainBy_9 : decode cX11_gainBy 9 = .ok (.aload_n 0, 1) := by decide +kernel
theorem dX11_gainBy_10 : decode cX11_gainBy 10 = .ok (.getfield 22, 3) := by decide +kernel
theorem dX11_gainBy_13 : decode cX11_gainBy 13 = .ok (.iconst 1, 1) := by decide +kernel
theorem dX11_gainBy_14 : decode cX11_gainBy 14 = .ok (.iaload, 1) := by decide +kernel
theorem dX11_gainBy_15 : decode cX11_gainBy 15 = .ok (.i2l, 1) := by decide +kernel
theorem dX11_gainBy_16 : decode cX11_gainBy 16 = .ok (.iload_n 3, 1) := by decide +kernel
theorem dX11_gainBy_17 : decode cX11_gainBy 17 = .ok (.iload_n 2, 1) := by decide +kernel
theorem dX11_gainBy_18 : decode cX11_gainBy 18 = .ok (.isub, 1) := by decide +kernel
theorem dX11_gainBy_19 : decode cX11_gainBy 19 = .ok (.i2l, 1) := by decide +kernel
theorem dX11_gainBy_20 : decode cX11_gainBy 20 = .ok (.lmul, 1) := by decide +kernel
theorem dX11_gainBy_21 : decode cX11_gainBy 21 = .ok (.lsub, 1) := by decide +kernel
theorem dX11_gainBy_22 : decode cX11_gainBy 22 = .ok (.aload_n 0, 1) := by decide +kernel
theorem dX11_gainBy_23 : decode cX11_gainBy 23 = .ok (.getfield 22, 3) := by decide +kernel
theorem dX11_gainBy_26 : decode cX11_gainBy 26 = .ok (.iconst 2, 1) := by decide +kernel
theorem dX11_gainBy_27 : decode cX11_gainBy 27 = .ok (.iaload, 1) := by decide +kernel
theorem dX11_gainBy_28 : decode cX11_gainBy 28 = .ok (.i2l, 1) := by decide +kernel
theorem dX11_gainBy_29 : decode cX11_gainBy 29 = .ok (.iload_n 3, 1) := by decide +kernel
theorem dX11_gainBy_30 : decode cX11_gainBy 30 = .ok (.i2l, 1) := by decide +kernel
theorem dX11_gainBy_31 : decode cX11_gainBy 31 = .ok (.lmul, 1) := by decide +kernel
theorem dX11_gainBy_32 : decode cX11_gainBy 32 = .ok (.lsub, 1) := by decide +kernel
theorem dX11_gainBy_33 : decode cX11_gainBy 33 = .ok (.lreturn, 1) := by decide +kernel
theorem dX11_gain_0 : decode cX11_gain 0 = .ok (.aload_n 0, 1) := by decide +kernel
theorem dX11_gain_1 : decode cX11_gain 1 = .ok (.iload_n 1, 1) := by decide +kernel
theorem dX11_gain_2 : decode cX11_gain 2 = .ok (.invokevirtual 300, 3) := by decide +kernel
theorem dX11_gain_5 : decode cX11_gain 5 = .ok (.ifCond .eq 52, 3) := by decide +kernel
theorem dX11_gain_8 : decode cX11_gain 8 = .ok (.iload_n 2, 1) := by decide +kernel
theorem dX11_gain_9 : decode cX11_gain 9 = .ok (.invokestatic 219, 3) := by decide +kernel
theorem dX11_gain_12 : decode cX11_gain 12 = .ok (.ifCond .eq 45, 3) := by decide +kernel
theorem dX11_gain_15 : decode cX11_gain 15 = .ok (.iload_n 3, 1) := by decide +kernel
theorem dX11_gain_16 : decode cX11_gain 16 = .ok (.invokestatic 303, 3) := by decide +kernel
theorem dX11_gain_19 : decode cX11_gain 19 = .ok (.ifCond .eq 38, 3) := by decide +kernel
theorem dX11_gain_22 : decode cX11_gain 22 = .ok (.aload_n 0, 1) := by decide +kernel
theorem dX11_gain_23 : decode cX11_gain 23 = .ok (.iload_n 1, 1) := by decide +kernel
theorem dX11_gain_24 : decode cX11_gain 24 = .ok (.invokestatic 216, 3) := by decide +kernel
theorem dX11_gain_27 : decode cX11_gain 27 = .ok (.ifCond .eq 7, 3) := by decide +kernel
theorem dX11_gain_30 : decode cX11_gain 30 = .ok (.iload_n 1, 1) := by decide +kernel
theorem dX11_gain_31 : decode cX11_gain 31 = .ok (.goto 4, 3) := by decide +kernel
theorem dX11_gain_34 : decode cX11_gain 34 = .ok (.iconst 0, 1) := by decide +kernel
theorem dX11_gain_35 : decode cX11_gain 35 = .ok (.invokevirtual 244, 3) := by decide +kernel
theorem dX11_gain_38 : decode cX11_gain 38 = .ok (.iload_n 2, 1) := by decide +kernel
theorem dX11_gain_39 : decode cX11_gain 39 = .ok (.invokestatic 219, 3) := by decide +kernel
theorem dX11_gain_42 : decode cX11_gain 42 = .ok (.ifCond .eq 7, 3) := by decide +kernel
theorem dX11_gain_45 : decode cX11_gain 45 = .ok (.iload_n 2, 1) := by decide +kernel
theorem dX11_gain_46 : decode cX11_gain 46 = .ok (.goto 4, 3) := by decide +kernel
theorem dX11_gain_49 : decode cX11_gain 49 = .ok (.iconst 0, 1) := by decide +kernel
theorem dX11_gain_50 : decode cX11_gain 50 = .ok (.ishr, 1) := by decide +kernel
theorem dX11_gain_51 : decode cX11_gain 51 = .ok (.iconst 1, 1) := by decide +kernel
theorem dX11_gain_52 : decode cX11_gain 52 = .ok (.iand, 1) := by decide +kernel
theorem dX11_gain_53 : decode cX11_gain 53 = .ok (.iconst 1, 1) := by decide +kernel
theorem dX11_gain_54 : decode cX11_gain 54 = .ok (.if_icmp .ne 7, 3) := by decide +kernel
theorem dX11_gain_57 : decode cX11_gain 57 = .ok (.ldc2_w 314, 3) := by decide +kernel
theorem dX11_gain_60 : decode cX11_gain 60 = .ok (.lreturn, 1) := by decide +kernel
theorem dX11_gain_61 : decode cX11_gain 61 = .ok (.aload_n 0, 1) := by decide +kernel
theorem dX11_gain_62 : decode cX11_gain 62 = .ok (.aload_n 0, 1) := by decide +kernel
theorem dX11_gain_63 : decode cX11_gain 63 = .ok (.iload_n 1, 1) := by decide +kernel
theorem dX11_gain_64 : decode cX11_gain 64 = .ok (.aload_n 0, 1) := by decide +kernel
theorem dX11_gain_65 : decode cX11_gain 65 = .ok (.iload_n 1, 1) := by decide +kernel
theorem dX11_gain_66 : decode cX11_gain 66 = .ok (.iload_n 2, 1) := by decide +kernel
theorem dX11_gain_67 : decode cX11_gain 67 = .ok (.invokevirtual 228, 3) := by decide +kernel
theorem dX11_gain_70 : decode cX11_gain 70 = .ok (.aload_n 0, 1) := by decide +kernel
theorem dX11_gain_71 : decode cX11_gain 71 = .ok (.iload_n 1, 1) := by decide +kernel
theorem dX11_gain_72 : decode cX11_gain 72 = .ok (.invokevirtual 277, 3) := by decide +kernel
theorem dX11_gain_75 : decode cX11_gain 75 = .ok (.invokevirtual 316, 3) := by decide +kernel
theorem dX11_gain_78 : decode cX11_gain 78 = .ok (.aload_n 0, 1) := by decide +kernel
theorem dX11_gain_79 : decode cX11_gain 79 = .ok (.iload_n 1, 1) := by decide +kernel
theorem dX11_gain_80 : decode cX11_gain 80 = .ok (.invokevirtual 277, 3) := by decide +kernel
theorem dX11_gain_83 : decode cX11_gain 83 = .ok (.i2l, 1) := by decide +kernel
theorem dX11_gain_84 : decode cX11_gain 84 = .ok (.invokevirtual 306, 3) := by decide +kernel
theorem dX11_gain_87 : decode cX11_gain 87 = .ok (.aload_n 0, 1) := by decide +kernel
theorem dX11_gain_88 : decode cX11_gain 88 = .ok (.iload_n 3, 1) := by decide +kernel
theorem dX11_gain_89 : decode cX11_gain 89 = .ok (.invokevirtual 310, 3) := by decide +kernel
theorem dX11_gain_92 : decode cX11_gain 92 = .ok (.lreturn, 1) := by decide +kernel
theorem dX11_bestBy_0 : decode cX11_bestBy 0 = .ok (.aload_n 0, 1) := by decide +kernel
theorem dX11_bestBy_1 : decode cX11_bestBy 1 = .ok (.iload_n 1, 1) := by decide +kernel
theorem dX11_bestBy_2 : decode cX11_bestBy 2 = .ok (.invokevirtual 222, 3) := by decide +kernel
theorem dX11_bestBy_5 : decode cX11_bestBy 5 = .ok (.aload_n 0, 1) := by decide +kernel
theorem dX11_bestBy_6 : decode cX11_bestBy 6 = .ok (.getfield 22, 3) := by decide +kernel
theorem dX11_bestBy_9 : decode cX11_bestBy 9 = .ok (.iconst 3, 1) := by decide +kernel
theorem dX11_bestBy_10 : decode cX11_bestBy 10 = .ok (.iaload, 1) := by decide +kernel
theorem dX11_bestBy_11 : decode cX11_bestBy 11 = .ok (.iadd, 1) := by decide +kernel
theorem dX11_bestBy_12 : decode cX11_bestBy 12 = .ok (.istore_n 3, 1) := by decide +kernel
theorem dX11_bestBy_13 : decode cX11_bestBy 13 = .ok (.lconst 0, 1) := by decide +kernel
theorem dX11_bestBy_14 : decode cX11_bestBy 14 = .ok (.lstore 4, 2) := by decide +kernel
theorem dX11_bestBy_16 : decode cX11_bestBy 16 = .ok (.iconst 0, 1) := by decide +kernel
theorem dX11_bestBy_17 : decode cX11_bestBy 17 = .ok (.istore 6, 2) := by decide +kernel
theorem dX11_bestBy_19 : decode cX11_bestBy 19 = .ok (.iload 6, 2) := by decide +kernel
theorem dX11_bestBy_21 : decode cX11_bestBy 21 = .ok (.iconst 4, 1) := by decide +kernel
theorem dX11_bestBy_22 : decode cX11_bestBy 22 = .ok (.if_icmp .ge 75, 3) := by decide +kernel
theorem dX11_bestBy_25 : decode cX11_bestBy 25 = .ok (.aload_n 0, 1) := by decide +kernel
theorem dX11_bestBy_26 : decode cX11_bestBy 26 = .ok (.iload_n 1, 1) := by decide +kernel
theorem dX11_bestBy_27 : decode cX11_bestBy 27 = .ok (.aload_n 0, 1) := by decide +kernel
theorem dX11_bestBy_28 : decode cX11_bestBy 28 = .ok (.getfield 16, 3) := by decide +kernel
theorem dX11_bestBy_31 : decode cX11_bestBy 31 = .ok (.iconst 4, 1) := by decide +kernel
theorem dX11_bestBy_32 : decode cX11_bestBy 32 = .ok (.iload_n 1, 1) := by decide +kernel
theorem dX11_bestBy_33 : decode cX11_bestBy 33 = .ok (.imul, 1) := by decide +kernel
theorem dX11_bestBy_34 : decode cX11_bestBy 34 = .ok (.iload 6, 2) := by decide +kernel
theorem dX11_bestBy_36 : decode cX11_bestBy 36 = .ok (.iadd, 1) := by decide +kernel
theorem dX11_bestBy_37 : decode cX11_bestBy 37 = .ok (.iaload, 1) := by decide +kernel
theorem dX11_bestBy_38 : decode cX11_bestBy 38 = .ok (.iload 6, 2) := by decide +kernel
theorem dX11_bestBy_40 : decode cX11_bestBy 40 = .ok (.iload_n 2, 1) := by decide +kernel
theorem dX11_bestBy_41 : decode cX11_bestBy 41 = .ok (.if_icmp .ne 12, 3) := by decide +kernel
theorem dX11_bestBy_44 : decode cX11_bestBy 44 = .ok (.aload_n 0, 1) := by decide +kernel
theorem dX11_bestBy_45 : decode cX11_bestBy 45 = .ok (.getfield 22, 3) := by decide +kernel
theorem dX11_bestBy_48 : decode cX11_bestBy 48 = .ok (.iconst 3, 1) := by decide +kernel
theorem dX11_bestBy_49 : decode cX11_bestBy 49 = .ok (.iaload, 1) := by decide +kernel
theorem dX11_bestBy_50 : decode cX11_bestBy 50 = .ok (.goto 4, 3) := by decide +kernel
theorem dX11_bestBy_53 : decode cX11_bestBy 53 = .ok (.iconst 0, 1) := by decide +kernel
theorem dX11_bestBy_54 : decode cX11_bestBy 54 = .ok (.iadd, 1) := by decide +kernel
theorem dX11_bestBy_55 : decode cX11_bestBy 55 = .ok (.iload_n 3, 1) := by decide +kernel
theorem dX11_bestBy_56 : decode cX11_bestBy 56 = .ok (.invokevirtual 316, 3) := by decide +kernel
theorem dX11_bestBy_59 : decode cX11_bestBy 59 = .ok (.lstore 7, 2) := by decide +kernel
theorem dX11_bestBy_61 : decode cX11_bestBy 61 = .ok (.aload_n 0, 1) := by decide +kernel
theorem dX11_bestBy_62 : decode cX11_bestBy 62 = .ok (.iload_n 1, 1) := by decide +kernel
theorem dX11_bestBy_63 : decode cX11_bestBy 63 = .ok (.invokevirtual 244, 3) := by decide +kernel
theorem dX11_bestBy_66 : decode cX11_bestBy 66 = .ok (.iload 6, 2) := by decide +kernel
theorem dX11_bestBy_68 : decode cX11_bestBy 68 = .ok (.ishr, 1) := by decide +kernel
theorem dX11_bestBy_69 : decode cX11_bestBy 69 = .ok (.iconst 1, 1) := by decide +kernel
theorem dX11_bestBy_70 : decode cX11_bestBy 70 = .ok (.iand, 1) := by decide +kernel
theorem dX11_bestBy_71 : decode cX11_bestBy 71 = .ok (.ifCond .ne 16, 3) := by decide +kernel
theorem dX11_bestBy_74 : decode cX11_bestBy 74 = .ok (.lload 7, 2) := by decide +kernel
theorem dX11_bestBy_76 : decode cX11_bestBy 76 = .ok (.lload 4, 2) := by decide +kernel
theorem dX11_bestBy_78 : decode cX11_bestBy 78 = .ok (.lcmp, 1) := by decide +kernel
theorem dX11_bestBy_79 : decode cX11_bestBy 79 = .ok (.ifCond .le 8, 3) := by decide +kernel
theorem dX11_bestBy_82 : decode cX11_bestBy 82 = .ok (.lload 7, 2) := by decide +kernel
theorem dX11_bestBy_84 : decode cX11_bestBy 84 = .ok (.goto 5, 3) := by decide +kernel
theorem dX11_bestBy_87 : decode cX11_bestBy 87 = .ok (.lload 4, 2) := by decide +kernel
theorem dX11_bestBy_89 : decode cX11_bestBy 89 = .ok (.lstore 4, 2) := by decide +kernel
theorem dX11_bestBy_91 : decode cX11_bestBy 91 = .ok (.iinc 6 1, 3) := by decide +kernel
theorem dX11_bestBy_94 : decode cX11_bestBy 94 = .ok (.goto (-75), 3) := by decide +kernel
theorem dX11_bestBy_97 : decode cX11_bestBy 97 = .ok (.lload 4, 2) := by decide +kernel
theorem dX11_bestBy_99 : decode cX11_bestBy 99 = .ok (.lreturn, 1) := by decide +kernel
theorem dX11_waited_0 : decode cX11_waited 0 = .ok (.iload_n 1, 1) := by decide +kernel
theorem dX11_waited_1 : decode cX11_waited 1 = .ok (.invokestatic 216, 3) := by decide +kernel
theorem dX11_waited_4 : decode cX11_waited 4 = .ok (.ifCond .eq 44, 3) := by decide +kernel
theorem dX11_waited_7 : decode cX11_waited 7 = .ok (.iload_n 1, 1) := by decide +kernel
theorem dX11_waited_8 : decode cX11_waited 8 = .ok (.aload_n 0, 1) := by decide +kernel
theorem dX11_waited_9 : decode cX11_waited 9 = .ok (.getfield 7, 3) := by decide +kernel
theorem dX11_waited_12 : decode cX11_waited 12 = .ok (.iconst 0, 1) := by decide +kernel
theorem dX11_waited_13 : decode cX11_waited 13 = .ok (.iaload, 1) := by decide +kernel
theorem dX11_waited_14 : decode cX11_waited 14 = .ok (.iconst 3, 1) := by decide +kernel
theorem dX11_waited_15 : decode cX11_waited 15 = .ok (.iadd, 1) := by decide +kernel
theorem dX11_waited_16 : decode cX11_waited 16 = .ok (.if_icmp .le 32, 3) := by decide +kernel
theorem dX11_waited_19 : decode cX11_waited 19 = .ok (.aload_n 0, 1) := by decide +kernel
theorem dX11_waited_20 : decode cX11_waited 20 = .ok (.getfield 7, 3) := by decide +kernel
theorem dX11_waited_23 : decode cX11_waited 23 = .ok (.iconst 3, 1) := by decide +kernel
theorem dX11_waited_24 : decode cX11_waited 24 = .ok (.iload_n 1, 1) := by decide +kernel
theorem dX11_waited_25 : decode cX11_waited 25 = .ok (.invokestatic 216, 3) := by decide +kernel
theorem dX11_waited_28 : decode cX11_waited 28 = .ok (.ifCond .eq 7, 3) := by decide +kernel
theorem dX11_waited_31 : decode cX11_waited 31 = .ok (.iload_n 1, 1) := by decide +kernel
theorem dX11_waited_32 : decode cX11_waited 32 = .ok (.goto 4, 3) := by decide +kernel
theorem dX11_waited_35 : decode cX11_waited 35 = .ok (.iconst 0, 1) := by decide +kernel
theorem dX11_waited_36 : decode cX11_waited 36 = .ok (.iadd, 1) := by decide +kernel
theorem dX11_waited_37 : decode cX11_waited 37 = .ok (.iaload, 1) := by decide +kernel
theorem dX11_waited_38 : decode cX11_waited 38 = .ok (.ifCond .ge 10, 3) := by decide +kernel
theorem dX11_waited_41 : decode cX11_waited 41 = .ok (.iload_n 2, 1) := by decide +kernel
theorem dX11_waited_42 : decode cX11_waited 42 = .ok (.invokestatic 303, 3) := by decide +kernel
theorem dX11_waited_45 : decode cX11_waited 45 = .ok (.ifCond .ne 7, 3) := by decide +kernel
theorem dX11_waited_48 : decode cX11_waited 48 = .ok (.ldc2_w 314, 3) := by decide +kernel
theorem dX11_waited_51 : decode cX11_waited 51 = .ok (.lreturn, 1) := by decide +kernel
theorem dX11_waited_52 : decode cX11_waited 52 = .ok (.lconst 0, 1) := by decide +kernel
theorem dX11_waited_53 : decode cX11_waited 53 = .ok (.lstore_n 3, 1) := by decide +kernel
theorem dX11_waited_54 : decode cX11_waited 54 = .ok (.iconst 0, 1) := by decide +kernel
theorem dX11_waited_55 : decode cX11_waited 55 = .ok (.istore 5, 2) := by decide +kernel
theorem dX11_waited_57 : decode cX11_waited 57 = .ok (.iload 5, 2) := by decide +kernel
theorem dX11_waited_59 : decode cX11_waited 59 = .ok (.iconst 4, 1) := by decide +kernel
theorem dX11_waited_60 : decode cX11_waited 60 = .ok (.if_icmp .ge 32, 3) := by decide +kernel
theorem dX11_waited_63 : decode cX11_waited 63 = .ok (.lload_n 3, 1) := by decide +kernel
theorem dX11_waited_64 : decode cX11_waited 64 = .ok (.aload_n 0, 1) := by decide +kernel
theorem dX11_waited_65 : decode cX11_waited 65 = .ok (.getfield 16, 3) := by decide +kernel
theorem dX11_waited_68 : decode cX11_waited 68 = .ok (.iconst 4, 1) := by decide +kernel
theorem dX11_waited_69 : decode cX11_waited 69 = .ok (.iload_n 1, 1) := by decide +kernel
theorem dX11_waited_70 : decode cX11_waited 70 = .ok (.imul, 1) := by decide +kernel
theorem dX11_waited_71 : decode cX11_waited 71 = .ok (.iload 5, 2) := by decide +kernel
theorem dX11_waited_73 : decode cX11_waited 73 = .ok (.iadd, 1) := by decide +kernel
theorem dX11_waited_74 : decode cX11_waited 74 = .ok (.iaload, 1) := by decide +kernel
theorem dX11_waited_75 : decode cX11_waited 75 = .ok (.i2l, 1) := by decide +kernel
theorem dX11_waited_76 : decode cX11_waited 76 = .ok (.aload_n 0, 1) := by decide +kernel
theorem dX11_waited_77 : decode cX11_waited 77 = .ok (.iload_n 1, 1) := by decide +kernel
theorem dX11_waited_78 : decode cX11_waited 78 = .ok (.iload 5, 2) := by decide +kernel
theorem dX11_waited_80 : decode cX11_waited 80 = .ok (.invokevirtual 320, 3) := by decide +kernel
theorem dX11_waited_83 : decode cX11_waited 83 = .ok (.lmul, 1) := by decide +kernel
theorem dX11_waited_84 : decode cX11_waited 84 = .ok (.ladd, 1) := by decide +kernel
theorem dX11_waited_85 : decode cX11_waited 85 = .ok (.lstore_n 3, 1) := by decide +kernel
theorem dX11_waited_86 : decode cX11_waited 86 = .ok (.iinc 5 1, 3) := by decide +kernel
theorem dX11_waited_89 : decode cX11_waited 89 = .ok (.goto (-32), 3) := by decide +kernel
theorem dX11_waited_92 : decode cX11_waited 92 = .ok (.aload_n 0, 1) := by decide +kernel
theorem dX11_waited_93 : decode cX11_waited 93 = .ok (.lload_n 3, 1) := by decide +kernel
theorem dX11_waited_94 : decode cX11_waited 94 = .ok (.aload_n 0, 1) := by decide +kernel
theorem dX11_waited_95 : decode cX11_waited 95 = .ok (.iload_n 1, 1) := by decide +kernel
theorem dX11_waited_96 : decode cX11_waited 96 = .ok (.invokevirtual 222, 3) := by decide +kernel
theorem dX11_waited_99 : decode cX11_waited 99 = .ok (.i2l, 1) := by decide +kernel
theorem dX11_waited_100 : decode cX11_waited 100 = .ok (.aload_n 0, 1) := by decide +kernel
theorem dX11_waited_101 : decode cX11_waited 101 = .ok (.iload_n 1, 1) := by decide +kernel
theorem dX11_waited_102 : decode cX11_waited 102 = .ok (.invokevirtual 222, 3) := by decide +kernel
theorem dX11_waited_105 : decode cX11_waited 105 = .ok (.aload_n 0, 1) := by decide +kernel
theorem dX11_waited_106 : decode cX11_waited 106 = .ok (.getfield 22, 3) := by decide +kernel
theorem dX11_waited_109 : decode cX11_waited 109 = .ok (.iconst 3, 1) := by decide +kernel
theorem dX11_waited_110 : decode cX11_waited 110 = .ok (.iaload, 1) := by decide +kernel
theorem dX11_waited_111 : decode cX11_waited 111 = .ok (.iadd, 1) := by decide +kernel
theorem dX11_waited_112 : decode cX11_waited 112 = .ok (.i2l, 1) := by decide +kernel
theorem dX11_waited_113 : decode cX11_waited 113 = .ok (.lmul, 1) := by decide +kernel
theorem dX11_waited_114 : decode cX11_waited 114 = .ok (.invokevirtual 306, 3) := by decide +kernel
theorem dX11_waited_117 : decode cX11_waited 117 = .ok (.aload_n 0, 1) := by decide +kernel
theorem dX11_waited_118 : decode cX11_waited 118 = .ok (.iload_n 2, 1) := by decide +kernel
theorem dX11_waited_119 : decode cX11_waited 119 = .ok (.invokevirtual 310, 3) := by decide +kernel
theorem dX11_waited_122 : decode cX11_waited 122 = .ok (.lreturn, 1) := by decide +kernel
theorem dX11_best_0 : decode cX11_best 0 = .ok (.iload_n 1, 1) := by decide +kernel
theorem dX11_best_1 : decode cX11_best 1 = .ok (.invokestatic 303, 3) := by decide +kernel
theorem dX11_best_4 : decode cX11_best 4 = .ok (.ifCond .ne 5, 3) := by decide +kernel
theorem dX11_best_7 : decode cX11_best 7 = .ok (.iconst (-1), 1) := by decide +kernel
theorem dX11_best_8 : decode cX11_best 8 = .ok (.ireturn, 1) := by decide +kernel
theorem dX11_best_9 : decode cX11_best 9 = .ok (.bipush (-3), 2) := by decide +kernel
theorem dX11_best_11 : decode cX11_best 11 = .ok (.istore_n 2, 1) := by decide +kernel
theorem dX11_best_12 : decode cX11_best 12 = .ok (.lconst 0, 1) := by decide +kernel
theorem dX11_best_13 : decode cX11_best 13 = .ok (.lstore_n 3, 1) := by decide +kernel
theorem dX11_best_14 : decode cX11_best 14 = .ok (.iconst 1, 1) := by decide +kernel
theorem dX11_best_15 : decode cX11_best 15 = .ok (.istore 5, 2) := by decide +kernel
theorem dX11_best_17 : decode cX11_best 17 = .ok (.aload_n 0, 1) := by decide +kernel
theorem dX11_best_18 : decode cX11_best 18 = .ok (.getfield 7, 3) := by decide +kernel
theorem dX11_best_21 : decode cX11_best 21 = .ok (.iconst 0, 1) := by decide +kernel
theorem dX11_best_22 : decode cX11_best 22 = .ok (.iaload, 1) := by decide +kernel
theorem dX11_best_23 : decode cX11_best 23 = .ok (.istore 6, 2) := by decide +kernel
theorem dX11_best_25 : decode cX11_best 25 = .ok (.iload 6, 2) := by decide +kernel
theorem dX11_best_27 : decode cX11_best 27 = .ok (.bipush 20, 2) := by decide +kernel
theorem dX11_best_29 : decode cX11_best 29 = .ok (.if_icmp .ge 98, 3) := by decide +kernel
theorem dX11_best_32 : decode cX11_best 32 = .ok (.aload_n 0, 1) := by decide +kernel
theorem dX11_best_33 : decode cX11_best 33 = .ok (.iload 6, 2) := by decide +kernel
theorem dX11_best_35 : decode cX11_best 35 = .ok (.invokevirtual 277, 3) := by decide +kernel
theorem dX11_best_38 : decode cX11_best 38 = .ok (.istore 7, 2) := by decide +kernel
theorem dX11_best_40 : decode cX11_best 40 = .ok (.iconst 0, 1) := by decide +kernel
theorem dX11_best_41 : decode cX11_best 41 = .ok (.istore 8, 2) := by decide +kernel
theorem dX11_best_43 : decode cX11_best 43 = .ok (.iload 8, 2) := by decide +kernel
theorem dX11_best_45 : decode cX11_best 45 = .ok (.iconst 4, 1) := by decide +kernel
theorem dX11_best_46 : decode cX11_best 46 = .ok (.if_icmp .ge 75, 3) := by decide +kernel
theorem dX11_best_49 : decode cX11_best 49 = .ok (.aload_n 0, 1) := by decide +kernel
theorem dX11_best_50 : decode cX11_best 50 = .ok (.iload 6, 2) := by decide +kernel
theorem dX11_best_52 : decode cX11_best 52 = .ok (.invokevirtual 244, 3) := by decide +kernel
theorem dX11_best_55 : decode cX11_best 55 = .ok (.iload 8, 2) := by decide +kernel
theorem dX11_best_57 : decode cX11_best 57 = .ok (.ishr, 1) := by decide +kernel
theorem dX11_best_58 : decode cX11_best 58 = .ok (.iconst 1, 1) := by decide +kernel
theorem dX11_best_59 : decode cX11_best 59 = .ok (.iand, 1) := by decide +kernel
theorem dX11_best_60 : decode cX11_best 60 = .ok (.ifCond .ne 55, 3) := by decide +kernel
theorem dX11_best_63 : decode cX11_best 63 = .ok (.aload_n 0, 1) := by decide +kernel
theorem dX11_best_64 : decode cX11_best 64 = .ok (.iload 6, 2) := by decide +kernel
theorem dX11_best_66 : decode cX11_best 66 = .ok (.aload_n 0, 1) := by decide +kernel
theorem dX11_best_67 : decode cX11_best 67 = .ok (.iload 6, 2) := by decide +kernel
theorem dX11_best_69 : decode cX11_best 69 = .ok (.iload 8, 2) := by decide +kernel
theorem dX11_best_71 : decode cX11_best 71 = .ok (.invokevirtual 228, 3) := by decide +kernel
theorem dX11_best_74 : decode cX11_best 74 = .ok (.iload 7, 2) := by decide +kernel
theorem dX11_best_76 : decode cX11_best 76 = .ok (.invokevirtual 316, 3) := by decide +kernel
theorem dX11_best_79 : decode cX11_best 79 = .ok (.lstore 9, 2) := by decide +kernel
theorem dX11_best_81 : decode cX11_best 81 = .ok (.iload_n 2, 1) := by decide +kernel
theorem dX11_best_82 : decode cX11_best 82 = .ok (.ifCond .lt 18, 3) := by decide +kernel
theorem dX11_best_85 : decode cX11_best 85 = .ok (.lload 9, 2) := by decide +kernel
theorem dX11_best_87 : decode cX11_best 87 = .ok (.iload 5, 2) := by decide +kernel
theorem dX11_best_89 : decode cX11_best 89 = .ok (.i2l, 1) := by decide +kernel
theorem dX11_best_90 : decode cX11_best 90 = .ok (.lmul, 1) := by decide +kernel
theorem dX11_best_91 : decode cX11_best 91 = .ok (.lload_n 3, 1) := by decide +kernel
theorem dX11_best_92 : decode cX11_best 92 = .ok (.iload 7, 2) := by decide +kernel
theorem dX11_best_94 : decode cX11_best 94 = .ok (.i2l, 1) := by decide +kernel
theorem dX11_best_95 : decode cX11_best 95 = .ok (.lmul, 1) := by decide +kernel
theorem dX11_best_96 : decode cX11_best 96 = .ok (.lcmp, 1) := by decide +kernel
theorem dX11_best_97 : decode cX11_best 97 = .ok (.ifCond .le 18, 3) := by decide +kernel
theorem dX11_best_100 : decode cX11_best 100 = .ok (.iconst 4, 1) := by decide +kernel
theorem dX11_best_101 : decode cX11_best 101 = .ok (.iload 6, 2) := by decide +kernel
theorem dX11_best_103 : decode cX11_best 103 = .ok (.imul, 1) := by decide +kernel
theorem dX11_best_104 : decode cX11_best 104 = .ok (.iload 8, 2) := by decide +kernel
theorem dX11_best_106 : decode cX11_best 106 = .ok (.iadd, 1) := by decide +kernel
theorem dX11_best_107 : decode cX11_best 107 = .ok (.istore_n 2, 1) := by decide +kernel
theorem dX11_best_108 : decode cX11_best 108 = .ok (.lload 9, 2) := by decide +kernel
theorem dX11_best_110 : decode cX11_best 110 = .ok (.lstore_n 3, 1) := by decide +kernel
theorem dX11_best_111 : decode cX11_best 111 = .ok (.iload 7, 2) := by decide +kernel
theorem dX11_best_113 : decode cX11_best 113 = .ok (.istore 5, 2) := by decide +kernel
theorem dX11_best_115 : decode cX11_best 115 = .ok (.iinc 8 1, 3) := by decide +kernel
theorem dX11_best_118 : decode cX11_best 118 = .ok (.goto (-75), 3) := by decide +kernel
theorem dX11_best_121 : decode cX11_best 121 = .ok (.iinc 6 1, 3) := by decide +kernel
theorem dX11_best_124 : decode cX11_best 124 = .ok (.goto (-99), 3) := by decide +kernel
theorem dX11_best_127 : decode cX11_best 127 = .ok (.iload_n 2, 1) := by decide +kernel
theorem dX11_best_128 : decode cX11_best 128 = .ok (.ifCond .ge 8, 3) := by decide +kernel
theorem dX11_best_131 : decode cX11_best 131 = .ok (.bipush (-3), 2) := by decide +kernel
theorem dX11_best_133 : decode cX11_best 133 = .ok (.goto 16, 3) := by decide +kernel
theorem dX11_best_136 : decode cX11_best 136 = .ok (.iload_n 1, 1) := by decide +kernel
theorem dX11_best_137 : decode cX11_best 137 = .ok (.ifCond .ne 9, 3) := by decide +kernel
theorem dX11_best_140 : decode cX11_best 140 = .ok (.iload_n 2, 1) := by decide +kernel
theorem dX11_best_141 : decode cX11_best 141 = .ok (.iconst 4, 1) := by decide +kernel
theorem dX11_best_142 : decode cX11_best 142 = .ok (.idiv, 1) := by decide +kernel
theorem dX11_best_143 : decode cX11_best 143 = .ok (.goto 6, 3) := by decide +kernel
theorem dX11_best_146 : decode cX11_best 146 = .ok (.iload_n 2, 1) := by decide +kernel
theorem dX11_best_147 : decode cX11_best 147 = .ok (.iconst 4, 1) := by decide +kernel
theorem dX11_best_148 : decode cX11_best 148 = .ok (.irem, 1) := by decide +kernel
theorem dX11_best_149 : decode cX11_best 149 = .ok (.ireturn, 1) := by decide +kernel
theorem dX11_whole_0 : decode cX11_whole 0 = .ok (.aload_n 0, 1) := by decide +kernel
theorem dX11_whole_1 : decode cX11_whole 1 = .ok (.iload_n 1, 1) := by decide +kernel
theorem dX11_whole_2 : decode cX11_whole 2 = .ok (.invokevirtual 300, 3) := by decide +kernel
theorem dX11_whole_5 : decode cX11_whole 5 = .ok (.ifCond .eq 10, 3) := by decide +kernel
theorem dX11_whole_8 : decode cX11_whole 8 = .ok (.iload_n 2, 1) := by decide +kernel
theorem dX11_whole_9 : decode cX11_whole 9 = .ok (.invokestatic 303, 3) := by decide +kernel
theorem dX11_whole_12 : decode cX11_whole 12 = .ok (.ifCond .ne 7, 3) := by decide +kernel
theorem dX11_whole_15 : decode cX11_whole 15 = .ok (.ldc2_w 314, 3) := by decide +kernel
theorem dX11_whole_18 : decode cX11_whole 18 = .ok (.lreturn, 1) := by decide +kernel
theorem dX11_whole_19 : decode cX11_whole 19 = .ok (.lconst 0, 1) := by decide +kernel
theorem dX11_whole_20 : decode cX11_whole 20 = .ok (.lstore_n 3, 1) := by decide +kernel
theorem dX11_whole_21 : decode cX11_whole 21 = .ok (.iconst 0, 1) := by decide +kernel
theorem dX11_whole_22 : decode cX11_whole 22 = .ok (.istore 5, 2) := by decide +kernel
theorem dX11_whole_24 : decode cX11_whole 24 = .ok (.iload 5, 2) := by decide +kernel
theorem dX11_whole_26 : decode cX11_whole 26 = .ok (.iconst 4, 1) := by decide +kernel
theorem dX11_whole_27 : decode cX11_whole 27 = .ok (.if_icmp .ge 46, 3) := by decide +kernel
theorem dX11_whole_30 : decode cX11_whole 30 = .ok (.lload_n 3, 1) := by decide +kernel
theorem dX11_whole_31 : decode cX11_whole 31 = .ok (.aload_n 0, 1) := by decide +kernel
theorem dX11_whole_32 : decode cX11_whole 32 = .ok (.iload_n 1, 1) := by decide +kernel
theorem dX11_whole_33 : decode cX11_whole 33 = .ok (.invokevirtual 244, 3) := by decide +kernel
theorem dX11_whole_36 : decode cX11_whole 36 = .ok (.iload 5, 2) := by decide +kernel
theorem dX11_whole_38 : decode cX11_whole 38 = .ok (.ishr, 1) := by decide +kernel
theorem dX11_whole_39 : decode cX11_whole 39 = .ok (.iconst 1, 1) := by decide +kernel
theorem dX11_whole_40 : decode cX11_whole 40 = .ok (.iand, 1) := by decide +kernel
theorem dX11_whole_41 : decode cX11_whole 41 = .ok (.ifCond .ne 23, 3) := by decide +kernel
theorem dX11_whole_44 : decode cX11_whole 44 = .ok (.aload_n 0, 1) := by decide +kernel
theorem dX11_whole_45 : decode cX11_whole 45 = .ok (.iload_n 1, 1) := by decide +kernel
theorem dX11_whole_46 : decode cX11_whole 46 = .ok (.aload_n 0, 1) := by decide +kernel
theorem dX11_whole_47 : decode cX11_whole 47 = .ok (.iload_n 1, 1) := by decide +kernel
theorem dX11_whole_48 : decode cX11_whole 48 = .ok (.iload 5, 2) := by decide +kernel
theorem dX11_whole_50 : decode cX11_whole 50 = .ok (.invokevirtual 228, 3) := by decide +kernel
theorem dX11_whole_53 : decode cX11_whole 53 = .ok (.aload_n 0, 1) := by decide +kernel
theorem dX11_whole_54 : decode cX11_whole 54 = .ok (.iload_n 1, 1) := by decide +kernel
theorem dX11_whole_55 : decode cX11_whole 55 = .ok (.invokevirtual 277, 3) := by decide +kernel
theorem dX11_whole_58 : decode cX11_whole 58 = .ok (.invokevirtual 316, 3) := by decide +kernel
theorem dX11_whole_61 : decode cX11_whole 61 = .ok (.goto 4, 3) := by decide +kernel
theorem dX11_whole_64 : decode cX11_whole 64 = .ok (.lconst 0, 1) := by decide +kernel
theorem dX11_whole_65 : decode cX11_whole 65 = .ok (.ladd, 1) := by decide +kernel
theorem dX11_whole_66 : decode cX11_whole 66 = .ok (.lstore_n 3, 1) := by decide +kernel
theorem dX11_whole_67 : decode cX11_whole 67 = .ok (.iinc 5 1, 3) := by decide +kernel
theorem dX11_whole_70 : decode cX11_whole 70 = .ok (.goto (-46), 3) := by decide +kernel
theorem dX11_whole_73 : decode cX11_whole 73 = .ok (.aload_n 0, 1) := by decide +kernel
theorem dX11_whole_74 : decode cX11_whole 74 = .ok (.lload_n 3, 1) := by decide +kernel
theorem dX11_whole_75 : decode cX11_whole 75 = .ok (.aload_n 0, 1) := by decide +kernel
theorem dX11_whole_76 : decode cX11_whole 76 = .ok (.iload_n 1, 1) := by decide +kernel
theorem dX11_whole_77 : decode cX11_whole 77 = .ok (.invokevirtual 277, 3) := by decide +kernel
theorem dX11_whole_80 : decode cX11_whole 80 = .ok (.i2l, 1) := by decide +kernel
theorem dX11_whole_81 : decode cX11_whole 81 = .ok (.invokevirtual 306, 3) := by decide +kernel
theorem dX11_whole_84 : decode cX11_whole 84 = .ok (.aload_n 0, 1) := by decide +kernel
theorem dX11_whole_85 : decode cX11_whole 85 = .ok (.iload_n 2, 1) := by decide +kernel
theorem dX11_whole_86 : decode cX11_whole 86 = .ok (.invokevirtual 310, 3) := by decide +kernel
theorem dX11_whole_89 : decode cX11_whole 89 = .ok (.lreturn, 1) := by decide +kernel
theorem dX11_owed_0 : decode cX11_owed 0 = .ok (.aload_n 0, 1) := by decide +kernel
theorem dX11_owed_1 : decode cX11_owed 1 = .ok (.iload_n 1, 1) := by decide +kernel
theorem dX11_owed_2 : decode cX11_owed 2 = .ok (.invokevirtual 247, 3) := by decide +kernel
theorem dX11_owed_5 : decode cX11_owed 5 = .ok (.ifCond .ne 7, 3) := by decide +kernel
theorem dX11_owed_8 : decode cX11_owed 8 = .ok (.ldc2_w 314, 3) := by decide +kernel
theorem dX11_owed_11 : decode cX11_owed 11 = .ok (.lreturn, 1) := by decide +kernel
theorem dX11_owed_12 : decode cX11_owed 12 = .ok (.ldc2_w 324, 3) := by decide +kernel
theorem dX11_owed_15 : decode cX11_owed 15 = .ok (.aload_n 0, 1) := by decide +kernel
theorem dX11_owed_16 : decode cX11_owed 16 = .ok (.getfield 7, 3) := by decide +kernel
theorem dX11_owed_19 : decode cX11_owed 19 = .ok (.bipush 43, 2) := by decide +kernel
theorem dX11_owed_21 : decode cX11_owed 21 = .ok (.iload_n 1, 1) := by decide +kernel
theorem dX11_owed_22 : decode cX11_owed 22 = .ok (.iadd, 1) := by decide +kernel
theorem dX11_owed_23 : decode cX11_owed 23 = .ok (.iaload, 1) := by decide +kernel
theorem dX11_owed_24 : decode cX11_owed 24 = .ok (.i2l, 1) := by decide +kernel
theorem dX11_owed_25 : decode cX11_owed 25 = .ok (.lmul, 1) := by decide +kernel
theorem dX11_owed_26 : decode cX11_owed 26 = .ok (.lstore_n 2, 1) := by decide +kernel
theorem dX11_owed_27 : decode cX11_owed 27 = .ok (.iconst 0, 1) := by decide +kernel
theorem dX11_owed_28 : decode cX11_owed 28 = .ok (.istore 4, 2) := by decide +kernel
theorem dX11_owed_30 : decode cX11_owed 30 = .ok (.iload 4, 2) := by decide +kernel
theorem dX11_owed_32 : decode cX11_owed 32 = .ok (.aload_n 0, 1) := by decide +kernel
theorem dX11_owed_33 : decode cX11_owed 33 = .ok (.getfield 7, 3) := by decide +kernel
theorem dX11_owed_36 : decode cX11_owed 36 = .ok (.iconst 2, 1) := by decide +kernel
theorem dX11_owed_37 : decode cX11_owed 37 = .ok (.iaload, 1) := by decide +kernel
theorem dX11_owed_38 : decode cX11_owed 38 = .ok (.if_icmp .ge 100, 3) := by decide +kernel
theorem dX11_owed_41 : decode cX11_owed 41 = .ok (.aload_n 0, 1) := by decide +kernel
theorem dX11_owed_42 : decode cX11_owed 42 = .ok (.iload 4, 2) := by decide +kernel
theorem dX11_owed_44 : decode cX11_owed 44 = .ok (.iconst 1, 1) := by decide +kernel
theorem dX11_owed_45 : decode cX11_owed 45 = .ok (.invokevirtual 232, 3) := by decide +kernel
theorem dX11_owed_48 : decode cX11_owed 48 = .ok (.istore 5, 2) := by decide +kernel
theorem dX11_owed_50 : decode cX11_owed 50 = .ok (.aload_n 0, 1) := by decide +kernel
theorem dX11_owed_51 : decode cX11_owed 51 = .ok (.iload 4, 2) := by decide +kernel
theorem dX11_owed_53 : decode cX11_owed 53 = .ok (.iconst 0, 1) := by decide +kernel
theorem dX11_owed_54 : decode cX11_owed 54 = .ok (.invokevirtual 232, 3) := by decide +kernel
theorem dX11_owed_57 : decode cX11_owed 57 = .ok (.iload_n 1, 1) := by decide +kernel
theorem dX11_owed_58 : decode cX11_owed 58 = .ok (.if_icmp .ne 74, 3) := by decide +kernel
theorem dX11_owed_61 : decode cX11_owed 61 = .ok (.iload 5, 2) := by decide +kernel
theorem dX11_owed_63 : decode cX11_owed 63 = .ok (.aload_n 0, 1) := by decide +kernel
theorem dX11_owed_64 : decode cX11_owed 64 = .ok (.getfield 7, 3) := by decide +kernel
theorem dX11_owed_67 : decode cX11_owed 67 = .ok (.iconst 0, 1) := by decide +kernel
theorem dX11_owed_68 : decode cX11_owed 68 = .ok (.iaload, 1) := by decide +kernel
theorem dX11_owed_69 : decode cX11_owed 69 = .ok (.if_icmp .lt 63, 3) := by decide +kernel
theorem dX11_owed_72 : decode cX11_owed 72 = .ok (.aload_n 0, 1) := by decide +kernel
theorem dX11_owed_73 : decode cX11_owed 73 = .ok (.iload 5, 2) := by decide +kernel
theorem dX11_owed_75 : decode cX11_owed 75 = .ok (.aload_n 0, 1) := by decide +kernel
theorem dX11_owed_76 : decode cX11_owed 76 = .ok (.iload 4, 2) := by decide +kernel
theorem dX11_owed_78 : decode cX11_owed 78 = .ok (.iconst 2, 1) := by decide +kernel
theorem dX11_owed_79 : decode cX11_owed 79 = .ok (.invokevirtual 232, 3) := by decide +kernel
theorem dX11_owed_82 : decode cX11_owed 82 = .ok (.invokevirtual 228, 3) := by decide +kernel
theorem dX11_owed_85 : decode cX11_owed 85 = .ok (.istore 6, 2) := by decide +kernel
theorem dX11_owed_87 : decode cX11_owed 87 = .ok (.aload_n 0, 1) := by decide +kernel
theorem dX11_owed_88 : decode cX11_owed 88 = .ok (.iload 5, 2) := by decide +kernel
theorem dX11_owed_90 : decode cX11_owed 90 = .ok (.invokevirtual 277, 3) := by decide +kernel
theorem dX11_owed_93 : decode cX11_owed 93 = .ok (.istore 7, 2) := by decide +kernel
theorem dX11_owed_95 : decode cX11_owed 95 = .ok (.lload_n 2, 1) := by decide +kernel
theorem dX11_owed_96 : decode cX11_owed 96 = .ok (.ldc2_w 324, 3) := by decide +kernel
theorem dX11_owed_99 : decode cX11_owed 99 = .ok (.aload_n 0, 1) := by decide +kernel
theorem dX11_owed_100 : decode cX11_owed 100 = .ok (.iload 5, 2) := by decide +kernel
theorem dX11_owed_102 : decode cX11_owed 102 = .ok (.invokevirtual 238, 3) := by decide +kernel
theorem dX11_owed_105 : decode cX11_owed 105 = .ok (.i2l, 1) := by decide +kernel
theorem dX11_owed_106 : decode cX11_owed 106 = .ok (.iload 6, 2) := by decide +kernel
theorem dX11_owed_108 : decode cX11_owed 108 = .ok (.i2l, 1) := by decide +kernel
theorem dX11_owed_109 : decode cX11_owed 109 = .ok (.lmul, 1) := by decide +kernel
theorem dX11_owed_110 : decode cX11_owed 110 = .ok (.aload_n 0, 1) := by decide +kernel
theorem dX11_owed_111 : decode cX11_owed 111 = .ok (.getfield 22, 3) := by decide +kernel
theorem dX11_owed_114 : decode cX11_owed 114 = .ok (.iconst 1, 1) := by decide +kernel
theorem dX11_owed_115 : decode cX11_owed 115 = .ok (.iaload, 1) := by decide +kernel
theorem dX11_owed_116 : decode cX11_owed 116 = .ok (.i2l, 1) := by decide +kernel
theorem dX11_owed_117 : decode cX11_owed 117 = .ok (.iload 7, 2) := by decide +kernel
theorem dX11_owed_119 : decode cX11_owed 119 = .ok (.iload 6, 2) := by decide +kernel
theorem dX11_owed_121 : decode cX11_owed 121 = .ok (.isub, 1) := by decide +kernel
theorem dX11_owed_122 : decode cX11_owed 122 = .ok (.i2l, 1) := by decide +kernel
theorem dX11_owed_123 : decode cX11_owed 123 = .ok (.lmul, 1) := by decide +kernel
theorem dX11_owed_124 : decode cX11_owed 124 = .ok (.lsub, 1) := by decide +kernel
theorem dX11_owed_125 : decode cX11_owed 125 = .ok (.lmul, 1) := by decide +kernel
theorem dX11_owed_126 : decode cX11_owed 126 = .ok (.iload 7, 2) := by decide +kernel
theorem dX11_owed_128 : decode cX11_owed 128 = .ok (.i2l, 1) := by decide +kernel
theorem dX11_owed_129 : decode cX11_owed 129 = .ok (.ldiv, 1) := by decide +kernel
theorem dX11_owed_130 : decode cX11_owed 130 = .ok (.ladd, 1) := by decide +kernel
theorem dX11_owed_131 : decode cX11_owed 131 = .ok (.lstore_n 2, 1) := by decide +kernel
theorem dX11_owed_132 : decode cX11_owed 132 = .ok (.iinc 4 1, 3) := by decide +kernel
theorem dX11_owed_135 : decode cX11_owed 135 = .ok (.goto (-105), 3) := by decide +kernel
theorem dX11_owed_138 : decode cX11_owed 138 = .ok (.lload_n 2, 1) := by decide +kernel
theorem dX11_owed_139 : decode cX11_owed 139 = .ok (.lreturn, 1) := by decide +kernel
theorem dX11_findRight_0 : decode cX11_findRight 0 = .ok (.aload_n 0, 1) := by decide +kernel
theorem dX11_findRight_1 : decode cX11_findRight 1 = .ok (.iconst 0, 1) := by decide +kernel
theorem dX11_findRight_2 : decode cX11_findRight 2 = .ok (.putfield 326, 3) := by decide +kernel
theorem dX11_findRight_5 : decode cX11_findRight 5 = .ok (.aload_n 0, 1) := by decide +kernel
theorem dX11_findRight_6 : decode cX11_findRight 6 = .ok (.iconst 0, 1) := by decide +kernel
theorem dX11_findRight_7 : decode cX11_findRight 7 = .ok (.putfield 329, 3) := by decide +kernel
theorem dX11_findRight_10 : decode cX11_findRight 10 = .ok (.iconst 0, 1) := by decide +kernel
theorem dX11_findRight_11 : decode cX11_findRight 11 = .ok (.istore_n 2, 1) := by decide +kernel
theorem dX11_findRight_12 : decode cX11_findRight 12 = .ok (.iload_n 2, 1) := by decide +kernel
theorem dX11_findRight_13 : decode cX11_findRight 13 = .ok (.aload_n 0, 1) := by decide +kernel
theorem dX11_findRight_14 : decode cX11_findRight 14 = .ok (.getfield 7, 3) := by decide +kernel
theorem dX11_findRight_17 : decode cX11_findRight 17 = .ok (.iconst 2, 1) := by decide +kernel
theorem dX11_findRight_18 : decode cX11_findRight 18 = .ok (.iaload, 1) := by decide +kernel
theorem dX11_findRight_19 : decode cX11_findRight 19 = .ok (.if_icmp .ge 78, 3) := by decide +kernel
theorem dX11_findRight_22 : decode cX11_findRight 22 = .ok (.aload_n 0, 1) := by decide +kernel
theorem dX11_findRight_23 : decode cX11_findRight 23 = .ok (.iload_n 2, 1) := by decide +kernel
theorem dX11_findRight_24 : decode cX11_findRight 24 = .ok (.iconst 1, 1) := by decide +kernel
theorem dX11_findRight_25 : decode cX11_findRight 25 = .ok (.invokevirtual 232, 3) := by decide +kernel
theorem dX11_findRight_28 : decode cX11_findRight 28 = .ok (.istore_n 3, 1) := by decide +kernel
theorem dX11_findRight_29 : decode cX11_findRight 29 = .ok (.aload_n 0, 1) := by decide +kernel
theorem dX11_findRight_30 : decode cX11_findRight 30 = .ok (.iload_n 2, 1) := by decide +kernel
theorem dX11_findRight_31 : decode cX11_findRight 31 = .ok (.iconst 0, 1) := by decide +kernel
theorem dX11_findRight_32 : decode cX11_findRight 32 = .ok (.invokevirtual 232, 3) := by decide +kernel
theorem dX11_findRight_35 : decode cX11_findRight 35 = .ok (.iload_n 1, 1) := by decide +kernel
theorem dX11_findRight_36 : decode cX11_findRight 36 = .ok (.if_icmp .ne 55, 3) := by decide +kernel
theorem dX11_findRight_39 : decode cX11_findRight 39 = .ok (.iload_n 3, 1) := by decide +kernel
theorem dX11_findRight_40 : decode cX11_findRight 40 = .ok (.aload_n 0, 1) := by decide +kernel
theorem dX11_findRight_41 : decode cX11_findRight 41 = .ok (.getfield 7, 3) := by decide +kernel
theorem dX11_findRight_44 : decode cX11_findRight 44 = .ok (.iconst 0, 1) := by decide +kernel
theorem dX11_findRight_45 : decode cX11_findRight 45 = .ok (.iaload, 1) := by decide +kernel
theorem dX11_findRight_46 : decode cX11_findRight 46 = .ok (.if_icmp .ge 45, 3) := by decide +kernel
theorem dX11_findRight_49 : decode cX11_findRight 49 = .ok (.aload_n 0, 1) := by decide +kernel
theorem dX11_findRight_50 : decode cX11_findRight 50 = .ok (.dup, 1) := by decide +kernel
theorem dX11_findRight_51 : decode cX11_findRight 51 = .ok (.getfield 329, 3) := by decide +kernel
theorem dX11_findRight_54 : decode cX11_findRight 54 = .ok (.iconst 1, 1) := by decide +kernel
theorem dX11_findRight_55 : decode cX11_findRight 55 = .ok (.iadd, 1) := by decide +kernel
theorem dX11_findRight_56 : decode cX11_findRight 56 = .ok (.putfield 329, 3) := by decide +kernel
theorem dX11_findRight_59 : decode cX11_findRight 59 = .ok (.aload_n 0, 1) := by decide +kernel
theorem dX11_findRight_60 : decode cX11_findRight 60 = .ok (.dup, 1) := by decide +kernel
theorem dX11_findRight_61 : decode cX11_findRight 61 = .ok (.getfield 326, 3) := by decide +kernel
theorem dX11_findRight_64 : decode cX11_findRight 64 = .ok (.aload_n 0, 1) := by decide +kernel
theorem dX11_findRight_65 : decode cX11_findRight 65 = .ok (.getfield 7, 3) := by decide +kernel
theorem dX11_findRight_68 : decode cX11_findRight 68 = .ok (.bipush 23, 2) := by decide +kernel
theorem dX11_findRight_70 : decode cX11_findRight 70 = .ok (.iload_n 3, 1) := by decide +kernel
theorem dX11_findRight_71 : decode cX11_findRight 71 = .ok (.iadd, 1) := by decide +kernel
theorem dX11_findRight_72 : decode cX11_findRight 72 = .ok (.iaload, 1) := by decide +kernel
theorem dX11_findRight_73 : decode cX11_findRight 73 = .ok (.aload_n 0, 1) := by decide +kernel
theorem dX11_findRight_74 : decode cX11_findRight 74 = .ok (.iload_n 2, 1) := by decide +kernel
theorem dX11_findRight_75 : decode cX11_findRight 75 = .ok (.iconst 2, 1) := by decide +kernel
theorem dX11_findRight_76 : decode cX11_findRight 76 = .ok (.invokevirtual 232, 3) := by decide +kernel
theorem dX11_findRight_79 : decode cX11_findRight 79 = .ok (.if_icmp .ne 7, 3) := by decide +kernel
theorem dX11_findRight_82 : decode cX11_findRight 82 = .ok (.iconst 1, 1) := by decide +kernel
theorem dX11_findRight_83 : decode cX11_findRight 83 = .ok (.goto 4, 3) := by decide +kernel
theorem dX11_findRight_86 : decode cX11_findRight 86 = .ok (.iconst 0, 1) := by decide +kernel
theorem dX11_findRight_87 : decode cX11_findRight 87 = .ok (.iadd, 1) := by decide +kernel
theorem dX11_findRight_88 : decode cX11_findRight 88 = .ok (.putfield 326, 3) := by decide +kernel
theorem dX11_findRight_91 : decode cX11_findRight 91 = .ok (.iinc 2 1, 3) := by decide +kernel
theorem dX11_findRight_94 : decode cX11_findRight 94 = .ok (.goto (-82), 3) := by decide +kernel
theorem dX11_findRight_97 : decode cX11_findRight 97 = .ok (.aload_n 0, 1) := by decide +kernel
theorem dX11_findRight_98 : decode cX11_findRight 98 = .ok (.aload_n 0, 1) := by decide +kernel
theorem dX11_findRight_99 : decode cX11_findRight 99 = .ok (.getfield 329, 3) := by decide +kernel
theorem dX11_findRight_102 : decode cX11_findRight 102 = .ok (.ifCond .ne 7, 3) := by decide +kernel
theorem dX11_findRight_105 : decode cX11_findRight 105 = .ok (.iconst 1, 1) := by decide +kernel
theorem dX11_findRight_106 : decode cX11_findRight 106 = .ok (.goto 7, 3) := by decide +kernel
theorem dX11_findRight_109 : decode cX11_findRight 109 = .ok (.aload_n 0, 1) := by decide +kernel
theorem dX11_findRight_110 : decode cX11_findRight 110 = .ok (.getfield 329, 3) := by decide +kernel
theorem dX11_findRight_113 : decode cX11_findRight 113 = .ok (.putfield 329, 3) := by decide +kernel
theorem dX11_findRight_116 : decode cX11_findRight 116 = .ok (.return_, 1) := by decide +kernel
theorem dX11_believed_0 : decode cX11_believed 0 = .ok (.aload_n 0, 1) := by decide +kernel
theorem dX11_believed_1 : decode cX11_believed 1 = .ok (.iload_n 1, 1) := by decide +kernel
theorem dX11_believed_2 : decode cX11_believed 2 = .ok (.invokevirtual 247, 3) := by decide +kernel
theorem dX11_believed_5 : decode cX11_believed 5 = .ok (.ifCond .eq 10, 3) := by decide +kernel
theorem dX11_believed_8 : decode cX11_believed 8 = .ok (.iload_n 2, 1) := by decide +kernel
theorem dX11_believed_9 : decode cX11_believed 9 = .ok (.invokestatic 303, 3) := by decide +kernel
theorem dX11_believed_12 : decode cX11_believed 12 = .ok (.ifCond .ne 5, 3) := by decide +kernel
theorem dX11_believed_15 : decode cX11_believed 15 = .ok (.iconst (-1), 1) := by decide +kernel
theorem dX11_believed_16 : decode cX11_believed 16 = .ok (.ireturn, 1) := by decide +kernel
theorem dX11_believed_17 : decode cX11_believed 17 = .ok (.aload_n 0, 1) := by decide +kernel
theorem dX11_believed_18 : decode cX11_believed 18 = .ok (.iload_n 1, 1) := by decide +kernel
theorem dX11_believed_19 : decode cX11_believed 19 = .ok (.invokevirtual 332, 3) := by decide +kernel
theorem dX11_believed_22 : decode cX11_believed 22 = .ok (.aload_n 0, 1) := by decide +kernel
theorem dX11_believed_23 : decode cX11_believed 23 = .ok (.aload_n 0, 1) := by decide +kernel
theorem dX11_believed_24 : decode cX11_believed 24 = .ok (.getfield 326, 3) := by decide +kernel
theorem dX11_believed_27 : decode cX11_believed 27 = .ok (.i2l, 1) := by decide +kernel
theorem dX11_believed_28 : decode cX11_believed 28 = .ok (.aload_n 0, 1) := by decide +kernel
theorem dX11_believed_29 : decode cX11_believed 29 = .ok (.getfield 329, 3) := by decide +kernel
theorem dX11_believed_32 : decode cX11_believed 32 = .ok (.i2l, 1) := by decide +kernel
theorem dX11_believed_33 : decode cX11_believed 33 = .ok (.invokevirtual 306, 3) := by decide +kernel
theorem dX11_believed_36 : decode cX11_believed 36 = .ok (.aload_n 0, 1) := by decide +kernel
theorem dX11_believed_37 : decode cX11_believed 37 = .ok (.iload_n 2, 1) := by decide +kernel
theorem dX11_believed_38 : decode cX11_believed 38 = .ok (.invokevirtual 310, 3) := by decide +kernel
theorem dX11_believed_41 : decode cX11_believed 41 = .ok (.l2i, 1) := by decide +kernel
theorem dX11_believed_42 : decode cX11_believed 42 = .ok (.ireturn, 1) := by decide +kernel
theorem dX11_whom_0 : decode cX11_whom 0 = .ok (.bipush (-3), 2) := by decide +kernel
theorem dX11_whom_2 : decode cX11_whom 2 = .ok (.istore_n 1, 1) := by decide +kernel
theorem dX11_whom_3 : decode cX11_whom 3 = .ok (.iconst 0, 1) := by decide +kernel
theorem dX11_whom_4 : decode cX11_whom 4 = .ok (.istore_n 2, 1) := by decide +kernel
theorem dX11_whom_5 : decode cX11_whom 5 = .ok (.iconst 1, 1) := by decide +kernel
theorem dX11_whom_6 : decode cX11_whom 6 = .ok (.istore_n 3, 1) := by decide +kernel
theorem dX11_whom_7 : decode cX11_whom 7 = .ok (.iconst 0, 1) := by decide +kernel
theorem dX11_whom_8 : decode cX11_whom 8 = .ok (.istore 4, 2) := by decide +kernel
theorem dX11_whom_10 : decode cX11_whom 10 = .ok (.iload 4, 2) := by decide +kernel
theorem dX11_whom_12 : decode cX11_whom 12 = .ok (.aload_n 0, 1) := by decide +kernel
theorem dX11_whom_13 : decode cX11_whom 13 = .ok (.getfield 87, 3) := by decide +kernel
theorem dX11_whom_16 : decode cX11_whom 16 = .ok (.if_icmp .ge 47, 3) := by decide +kernel
theorem dX11_whom_19 : decode cX11_whom 19 = .ok (.aload_n 0, 1) := by decide +kernel
theorem dX11_whom_20 : decode cX11_whom 20 = .ok (.iload 4, 2) := by decide +kernel
theorem dX11_whom_22 : decode cX11_whom 22 = .ok (.invokevirtual 332, 3) := by decide +kernel
theorem dX11_whom_25 : decode cX11_whom 25 = .ok (.iload_n 1, 1) := by decide +kernel
theorem dX11_whom_26 : decode cX11_whom 26 = .ok (.ifCond .lt 18, 3) := by decide +kernel
theorem dX11_whom_29 : decode cX11_whom 29 = .ok (.aload_n 0, 1) := by decide +kernel
theorem dX11_whom_30 : decode cX11_whom 30 = .ok (.getfield 326, 3) := by decide +kernel
theorem dX11_whom_33 : decode cX11_whom 33 = .ok (.iload_n 3, 1) := by decide +kernel
theorem dX11_whom_34 : decode cX11_whom 34 = .ok (.imul, 1) := by decide +kernel
theorem dX11_whom_35 : decode cX11_whom 35 = .ok (.iload_n 2, 1) := by decide +kernel
theorem dX11_whom_36 : decode cX11_whom 36 = .ok (.aload_n 0, 1) := by decide +kernel
theorem dX11_whom_37 : decode cX11_whom 37 = .ok (.getfield 329, 3) := by decide +kernel
theorem dX11_whom_40 : decode cX11_whom 40 = .ok (.imul, 1) := by decide +kernel
theorem dX11_whom_41 : decode cX11_whom 41 = .ok (.if_icmp .le 16, 3) := by decide +kernel
theorem dX11_whom_44 : decode cX11_whom 44 = .ok (.iload 4, 2) := by decide +kernel
theorem dX11_whom_46 : decode cX11_whom 46 = .ok (.istore_n 1, 1) := by decide +kernel
theorem dX11_whom_47 : decode cX11_whom 47 = .ok (.aload_n 0, 1) := by decide +kernel
theorem dX11_whom_48 : decode cX11_whom 48 = .ok (.getfield 326, 3) := by decide +kernel
theorem dX11_whom_51 : decode cX11_whom 51 = .ok (.istore_n 2, 1) := by decide +kernel
theorem dX11_whom_52 : decode cX11_whom 52 = .ok (.aload_n 0, 1) := by decide +kernel
theorem dX11_whom_53 : decode cX11_whom 53 = .ok (.getfield 329, 3) := by decide +kernel
theorem dX11_whom_56 : decode cX11_whom 56 = .ok (.istore_n 3, 1) := by decide +kernel
theorem dX11_whom_57 : decode cX11_whom 57 = .ok (.iinc 4 1, 3) := by decide +kernel
theorem dX11_whom_60 : decode cX11_whom 60 = .ok (.goto (-50), 3) := by decide +kernel
theorem dX11_whom_63 : decode cX11_whom 63 = .ok (.iload_n 1, 1) := by decide +kernel
theorem dX11_whom_64 : decode cX11_whom 64 = .ok (.ireturn, 1) := by decide +kernel
theorem dX11_open_0 : decode cX11_open 0 = .ok (.iconst 0, 1) := by decide +kernel
theorem dX11_open_1 : decode cX11_open 1 = .ok (.istore_n 1, 1) := by decide +kernel
theorem dX11_open_2 : decode cX11_open 2 = .ok (.aload_n 0, 1) := by decide +kernel
theorem dX11_open_3 : decode cX11_open 3 = .ok (.getfield 7, 3) := by decide +kernel
theorem dX11_open_6 : decode cX11_open 6 = .ok (.iconst 0, 1) := by decide +kernel
theorem dX11_open_7 : decode cX11_open 7 = .ok (.iaload, 1) := by decide +kernel
theorem dX11_open_8 : decode cX11_open 8 = .ok (.istore_n 2, 1) := by decide +kernel
theorem dX11_open_9 : decode cX11_open 9 = .ok (.iload_n 2, 1) := by decide +kernel
theorem dX11_open_10 : decode cX11_open 10 = .ok (.bipush 20, 2) := by decide +kernel
theorem dX11_open_12 : decode cX11_open 12 = .ok (.if_icmp .ge 27, 3) := by decide +kernel
theorem dX11_open_15 : decode cX11_open 15 = .ok (.iload_n 1, 1) := by decide +kernel
theorem dX11_open_16 : decode cX11_open 16 = .ok (.aload_n 0, 1) := by decide +kernel
theorem dX11_open_17 : decode cX11_open 17 = .ok (.iload_n 2, 1) := by decide +kernel
theorem dX11_open_18 : decode cX11_open 18 = .ok (.invokevirtual 244, 3) := by decide +kernel
theorem dX11_open_21 : decode cX11_open 21 = .ok (.ifCond .ne 9, 3) := by decide +kernel
theorem dX11_open_24 : decode cX11_open 24 = .ok (.iconst 1, 1) := by decide +kernel
theorem dX11_open_25 : decode cX11_open 25 = .ok (.iload_n 2, 1) := by decide +kernel
theorem dX11_open_26 : decode cX11_open 26 = .ok (.ishl, 1) := by decide +kernel
theorem dX11_open_27 : decode cX11_open 27 = .ok (.goto 4, 3) := by decide +kernel
theorem dX11_open_30 : decode cX11_open 30 = .ok (.iconst 0, 1) := by decide +kernel
theorem dX11_open_31 : decode cX11_open 31 = .ok (.ior, 1) := by decide +kernel
theorem dX11_open_32 : decode cX11_open 32 = .ok (.istore_n 1, 1) := by decide +kernel
theorem dX11_open_33 : decode cX11_open 33 = .ok (.iinc 2 1, 3) := by decide +kernel
theorem dX11_open_36 : decode cX11_open 36 = .ok (.goto (-27), 3) := by decide +kernel
theorem dX11_open_39 : decode cX11_open 39 = .ok (.iload_n 1, 1) := by decide +kernel
theorem dX11_open_40 : decode cX11_open 40 = .ok (.ireturn, 1) := by decide +kernel
theorem dX11_seed_0 : decode cX11_seed 0 = .ok (.aload_n 0, 1) := by decide +kernel
theorem dX11_seed_1 : decode cX11_seed 1 = .ok (.getfield 7, 3) := by decide +kernel
theorem dX11_seed_4 : decode cX11_seed 4 = .ok (.iconst 1, 1) := by decide +kernel
theorem dX11_seed_5 : decode cX11_seed 5 = .ok (.iaload, 1) := by decide +kernel
theorem dX11_seed_6 : decode cX11_seed 6 = .ok (.istore_n 2, 1) := by decide +kernel
theorem dX11_seed_7 : decode cX11_seed 7 = .ok (.aload_n 0, 1) := by decide +kernel
theorem dX11_seed_8 : decode cX11_seed 8 = .ok (.getfield 7, 3) := by decide +kernel
theorem dX11_seed_11 : decode cX11_seed 11 = .ok (.iconst 1, 1) := by decide +kernel
theorem dX11_seed_12 : decode cX11_seed 12 = .ok (.iload_n 1, 1) := by decide +kernel
theorem dX11_seed_13 : decode cX11_seed 13 = .ok (.iastore, 1) := by decide +kernel
theorem dX11_seed_14 : decode cX11_seed 14 = .ok (.iload_n 2, 1) := by decide +kernel
theorem dX11_seed_15 : decode cX11_seed 15 = .ok (.ireturn, 1) := by decide +kernel
theorem dX11_findRows_0 : decode cX11_findRows 0 = .ok (.iconst 0, 1) := by decide +kernel
theorem dX11_findRows_1 : decode cX11_findRows 1 = .ok (.istore_n 2, 1) := by decide +kernel
theorem dX11_findRows_2 : decode cX11_findRows 2 = .ok (.iload_n 2, 1) := by decide +kernel
theorem dX11_findRows_3 : decode cX11_findRows 3 = .ok (.sipush 168, 3) := by decide +kernel
theorem dX11_findRows_6 : decode cX11_findRows 6 = .ok (.if_icmp .ge 25, 3) := by decide +kernel
theorem dX11_findRows_9 : decode cX11_findRows 9 = .ok (.aload_n 0, 1) := by decide +kernel
theorem dX11_findRows_10 : decode cX11_findRows 10 = .ok (.getfield 7, 3) := by decide +kernel
theorem dX11_findRows_13 : decode cX11_findRows 13 = .ok (.sipush 168, 3) := by decide +kernel
theorem dX11_findRows_16 : decode cX11_findRows 16 = .ok (.iload_n 2, 1) := by decide +kernel
theorem dX11_findRows_17 : decode cX11_findRows 17 = .ok (.iadd, 1) := by decide +kernel
theorem dX11_findRows_18 : decode cX11_findRows 18 = .ok (.aload_n 0, 1) := by decide +kernel
theorem dX11_findRows_19 : decode cX11_findRows 19 = .ok (.getfield 7, 3) := by decide +kernel
theorem dX11_findRows_22 : decode cX11_findRows 22 = .ok (.iload_n 2, 1) := by decide +kernel
theorem dX11_findRows_23 : decode cX11_findRows 23 = .ok (.iaload, 1) := by decide +kernel
theorem dX11_findRows_24 : decode cX11_findRows 24 = .ok (.iastore, 1) := by decide +kernel
theorem dX11_findRows_25 : decode cX11_findRows 25 = .ok (.iinc 2 1, 3) := by decide +kernel
theorem dX11_findRows_28 : decode cX11_findRows 28 = .ok (.goto (-26), 3) := by decide +kernel
theorem dX11_findRows_31 : decode cX11_findRows 31 = .ok (.aload_n 0, 1) := by decide +kernel
theorem dX11_findRows_32 : decode cX11_findRows 32 = .ok (.sipush 168, 3) := by decide +kernel
theorem dX11_findRows_35 : decode cX11_findRows 35 = .ok (.putfield 91, 3) := by decide +kernel
theorem dX11_findRows_38 : decode cX11_findRows 38 = .ok (.aload_n 0, 1) := by decide +kernel
theorem dX11_findRows_39 : decode cX11_findRows 39 = .ok (.iconst 0, 1) := by decide +kernel
theorem dX11_findRows_40 : decode cX11_findRows 40 = .ok (.putfield 335, 3) := by decide +kernel
theorem dX11_findRows_43 : decode cX11_findRows 43 = .ok (.aload_n 0, 1) := by decide +kernel
theorem dX11_findRows_44 : decode cX11_findRows 44 = .ok (.getfield 335, 3) := by decide +kernel
theorem dX11_findRows_47 : decode cX11_findRows 47 = .ok (.iload_n 1, 1) := by decide +kernel
theorem dX11_findRows_48 : decode cX11_findRows 48 = .ok (.if_icmp .ge 115, 3) := by decide +kernel
theorem dX11_findRows_51 : decode cX11_findRows 51 = .ok (.aload_n 0, 1) := by decide +kernel
theorem dX11_findRows_52 : decode cX11_findRows 52 = .ok (.iconst 0, 1) := by decide +kernel
theorem dX11_findRows_53 : decode cX11_findRows 53 = .ok (.invokevirtual 225, 3) := by decide +kernel
theorem dX11_findRows_56 : decode cX11_findRows 56 = .ok (.bipush 20, 2) := by decide +kernel
theorem dX11_findRows_58 : decode cX11_findRows 58 = .ok (.if_icmp .ge 105, 3) := by decide +kernel
theorem dX11_findRows_61 : decode cX11_findRows 61 = .ok (.aload_n 0, 1) := by decide +kernel
theorem dX11_findRows_62 : decode cX11_findRows 62 = .ok (.invokevirtual 291, 3) := by decide +kernel
theorem dX11_findRows_65 : decode cX11_findRows 65 = .ok (.aload_n 0, 1) := by decide +kernel
theorem dX11_findRows_66 : decode cX11_findRows 66 = .ok (.getfield 52, 3) := by decide +kernel
theorem dX11_findRows_69 : decode cX11_findRows 69 = .ok (.iconst 3, 1) := by decide +kernel
theorem dX11_findRows_70 : decode cX11_findRows 70 = .ok (.aload_n 0, 1) := by decide +kernel
theorem dX11_findRows_71 : decode cX11_findRows 71 = .ok (.getfield 335, 3) := by decide +kernel
theorem dX11_findRows_74 : decode cX11_findRows 74 = .ok (.imul, 1) := by decide +kernel
theorem dX11_findRows_75 : decode cX11_findRows 75 = .ok (.aload_n 0, 1) := by decide +kernel
theorem dX11_findRows_76 : decode cX11_findRows 76 = .ok (.bipush 23, 2) := by decide +kernel
theorem dX11_findRows_78 : decode cX11_findRows 78 = .ok (.aload_n 0, 1) := by decide +kernel
theorem dX11_findRows_79 : decode cX11_findRows 79 = .ok (.iconst 0, 1) := by decide +kernel
theorem dX11_findRows_80 : decode cX11_findRows 80 = .ok (.invokevirtual 225, 3) := by decide +kernel
theorem dX11_findRows_83 : decode cX11_findRows 83 = .ok (.iadd, 1) := by decide +kernel
theorem dX11_findRows_84 : decode cX11_findRows 84 = .ok (.iconst 1, 1) := by decide +kernel
theorem dX11_findRows_85 : decode cX11_findRows 85 = .ok (.isub, 1) := by decide +kernel
theorem dX11_findRows_86 : decode cX11_findRows 86 = .ok (.invokevirtual 225, 3) := by decide +kernel
theorem dX11_findRows_89 : decode cX11_findRows 89 = .ok (.iastore, 1) := by decide +kernel
theorem dX11_findRows_90 : decode cX11_findRows 90 = .ok (.aload_n 0, 1) := by decide +kernel
theorem dX11_findRows_91 : decode cX11_findRows 91 = .ok (.getfield 52, 3) := by decide +kernel
theorem dX11_findRows_94 : decode cX11_findRows 94 = .ok (.iconst 3, 1) := by decide +kernel
theorem dX11_findRows_95 : decode cX11_findRows 95 = .ok (.aload_n 0, 1) := by decide +kernel
theorem dX11_findRows_96 : decode cX11_findRows 96 = .ok (.getfield 335, 3) := by decide +kernel
theorem dX11_findRows_99 : decode cX11_findRows 99 = .ok (.imul, 1) := by decide +kernel
theorem dX11_findRows_100 : decode cX11_findRows 100 = .ok (.iconst 1, 1) := by decide +kernel
theorem dX11_findRows_101 : decode cX11_findRows 101 = .ok (.iadd, 1) := by decide +kernel
theorem dX11_findRows_102 : decode cX11_findRows 102 = .ok (.aload_n 0, 1) := by decide +kernel
theorem dX11_findRows_103 : decode cX11_findRows 103 = .ok (.getfield 288, 3) := by decide +kernel
theorem dX11_findRows_106 : decode cX11_findRows 106 = .ok (.iastore, 1) := by decide +kernel
theorem dX11_findRows_107 : decode cX11_findRows 107 = .ok (.iconst 0, 1) := by decide +kernel
theorem dX11_findRows_108 : decode cX11_findRows 108 = .ok (.istore_n 2, 1) := by decide +kernel
theorem dX11_findRows_109 : decode cX11_findRows 109 = .ok (.iconst 0, 1) := by decide +kernel
theorem dX11_findRows_110 : decode cX11_findRows 110 = .ok (.istore_n 3, 1) := by decide +kernel
theorem dX11_findRows_111 : decode cX11_findRows 111 = .ok (.iload_n 3, 1) := by decide +kernel
theorem dX11_findRows_112 : decode cX11_findRows 112 = .ok (.aload_n 0, 1) := by decide +kernel
theorem dX11_findRows_113 : decode cX11_findRows 113 = .ok (.getfield 87, 3) := by decide +kernel
theorem dX11_findRows_116 : decode cX11_findRows 116 = .ok (.if_icmp .ge 20, 3) := by decide +kernel
theorem dX11_findRows_119 : decode cX11_findRows 119 = .ok (.iload_n 2, 1) := by decide +kernel
theorem dX11_findRows_120 : decode cX11_findRows 120 = .ok (.aload_n 0, 1) := by decide +kernel
theorem dX11_findRows_121 : decode cX11_findRows 121 = .ok (.bipush 43, 2) := by decide +kernel
theorem dX11_findRows_123 : decode cX11_findRows 123 = .ok (.iload_n 3, 1) := by decide +kernel
theorem dX11_findRows_124 : decode cX11_findRows 124 = .ok (.iadd, 1) := by decide +kernel
theorem dX11_findRows_125 : decode cX11_findRows 125 = .ok (.invokevirtual 225, 3) := by decide +kernel
theorem dX11_findRows_128 : decode cX11_findRows 128 = .ok (.iadd, 1) := by decide +kernel
theorem dX11_findRows_129 : decode cX11_findRows 129 = .ok (.istore_n 2, 1) := by decide +kernel
theorem dX11_findRows_130 : decode cX11_findRows 130 = .ok (.iinc 3 1, 3) := by decide +kernel
theorem dX11_findRows_133 : decode cX11_findRows 133 = .ok (.goto (-22), 3) := by decide +kernel
theorem dX11_findRows_136 : decode cX11_findRows 136 = .ok (.aload_n 0, 1) := by decide +kernel
theorem dX11_findRows_137 : decode cX11_findRows 137 = .ok (.getfield 52, 3) := by decide +kernel
theorem dX11_findRows_140 : decode cX11_findRows 140 = .ok (.iconst 3, 1) := by decide +kernel
theorem dX11_findRows_141 : decode cX11_findRows 141 = .ok (.aload_n 0, 1) := by decide +kernel
theorem dX11_findRows_142 : decode cX11_findRows 142 = .ok (.getfield 335, 3) := by decide +kernel
theorem dX11_findRows_145 : decode cX11_findRows 145 = .ok (.imul, 1) := by decide +kernel
theorem dX11_findRows_146 : decode cX11_findRows 146 = .ok (.iconst 2, 1) := by decide +kernel
theorem dX11_findRows_147 : decode cX11_findRows 147 = .ok (.iadd, 1) := by decide +kernel
theorem dX11_findRows_148 : decode cX11_findRows 148 = .ok (.iload_n 2, 1) := by decide +kernel
theorem dX11_findRows_149 : decode cX11_findRows 149 = .ok (.iastore, 1) := by decide +kernel
theorem dX11_findRows_150 : decode cX11_findRows 150 = .ok (.aload_n 0, 1) := by decide +kernel
theorem dX11_findRows_151 : decode cX11_findRows 151 = .ok (.dup, 1) := by decide +kernel
theorem dX11_findRows_152 : decode cX11_findRows 152 = .ok (.getfield 335, 3) := by decide +kernel
theorem dX11_findRows_155 : decode cX11_findRows 155 = .ok (.iconst 1, 1) := by decide +kernel
theorem dX11_findRows_156 : decode cX11_findRows 156 = .ok (.iadd, 1) := by decide +kernel
theorem dX11_findRows_157 : decode cX11_findRows 157 = .ok (.putfield 335, 3) := by decide +kernel
theorem dX11_findRows_160 : decode cX11_findRows 160 = .ok (.goto (-117), 3) := by decide +kernel
theorem dX11_findRows_163 : decode cX11_findRows 163 = .ok (.aload_n 0, 1) := by decide +kernel
theorem dX11_findRows_164 : decode cX11_findRows 164 = .ok (.iconst 0, 1) := by decide +kernel
theorem dX11_findRows_165 : decode cX11_findRows 165 = .ok (.putfield 91, 3) := by decide +kernel
theorem dX11_findRows_168 : decode cX11_findRows 168 = .ok (.return_, 1) := by decide +kernel
theorem dX11_prove_0 : decode cX11_prove 0 = .ok (.iload_n 1, 1) := by decide +kernel
theorem dX11_prove_1 : decode cX11_prove 1 = .ok (.iconst 1, 1) := by decide +kernel
theorem dX11_prove_2 : decode cX11_prove 2 = .ok (.bipush 20, 2) := by decide +kernel
theorem dX11_prove_4 : decode cX11_prove 4 = .ok (.invokestatic 83, 3) := by decide +kernel
theorem dX11_prove_7 : decode cX11_prove 7 = .ok (.ifCond .ne 5, 3) := by decide +kernel
theorem dX11_prove_10 : decode cX11_prove 10 = .ok (.iconst (-1), 1) := by decide +kernel
theorem dX11_prove_11 : decode cX11_prove 11 = .ok (.ireturn, 1) := by decide +kernel
theorem dX11_prove_12 : decode cX11_prove 12 = .ok (.aload_n 0, 1) := by decide +kernel
theorem dX11_prove_13 : decode cX11_prove 13 = .ok (.iload_n 1, 1) := by decide +kernel
theorem dX11_prove_14 : decode cX11_prove 14 = .ok (.invokevirtual 338, 3) := by decide +kernel
theorem dX11_prove_17 : decode cX11_prove 17 = .ok (.aload_n 0, 1) := by decide +kernel
theorem dX11_prove_18 : decode cX11_prove 18 = .ok (.aload_n 0, 1) := by decide +kernel
theorem dX11_prove_19 : decode cX11_prove 19 = .ok (.getfield 335, 3) := by decide +kernel
theorem dX11_prove_22 : decode cX11_prove 22 = .ok (.putfield 213, 3) := by decide +kernel
theorem dX11_prove_25 : decode cX11_prove 25 = .ok (.iconst 0, 1) := by decide +kernel
theorem dX11_prove_26 : decode cX11_prove 26 = .ok (.istore_n 2, 1) := by decide +kernel
theorem dX11_prove_27 : decode cX11_prove 27 = .ok (.iload_n 2, 1) := by decide +kernel
theorem dX11_prove_28 : decode cX11_prove 28 = .ok (.iconst 3, 1) := by decide +kernel
theorem dX11_prove_29 : decode cX11_prove 29 = .ok (.aload_n 0, 1) := by decide +kernel
theorem dX11_prove_30 : decode cX11_prove 30 = .ok (.getfield 213, 3) := by decide +kernel
theorem dX11_prove_33 : decode cX11_prove 33 = .ok (.imul, 1) := by decide +kernel
theorem dX11_prove_34 : decode cX11_prove 34 = .ok (.if_icmp .ge 21, 3) := by decide +kernel
theorem dX11_prove_37 : decode cX11_prove 37 = .ok (.aload_n 0, 1) := by decide +kernel
theorem dX11_prove_38 : decode cX11_prove 38 = .ok (.getfield 49, 3) := by decide +kernel
theorem dX11_prove_41 : decode cX11_prove 41 = .ok (.iload_n 2, 1) := by decide +kernel
theorem dX11_prove_42 : decode cX11_prove 42 = .ok (.aload_n 0, 1) := by decide +kernel
theorem dX11_prove_43 : decode cX11_prove 43 = .ok (.getfield 52, 3) := by decide +kernel
theorem dX11_prove_46 : decode cX11_prove 46 = .ok (.iload_n 2, 1) := by decide +kernel
theorem dX11_prove_47 : decode cX11_prove 47 = .ok (.iaload, 1) := by decide +kernel
theorem dX11_prove_48 : decode cX11_prove 48 = .ok (.iastore, 1) := by decide +kernel
theorem dX11_prove_49 : decode cX11_prove 49 = .ok (.iinc 2 1, 3) := by decide +kernel
theorem dX11_prove_52 : decode cX11_prove 52 = .ok (.goto (-25), 3) := by decide +kernel
theorem dX11_prove_55 : decode cX11_prove 55 = .ok (.aload_n 0, 1) := by decide +kernel
theorem dX11_prove_56 : decode cX11_prove 56 = .ok (.getfield 213, 3) := by decide +kernel
theorem dX11_prove_59 : decode cX11_prove 59 = .ok (.ireturn, 1) := by decide +kernel
theorem dX11_isRow_0 : decode cX11_isRow 0 = .ok (.iload_n 1, 1) := by decide +kernel
theorem dX11_isRow_1 : decode cX11_isRow 1 = .ok (.iconst 0, 1) := by decide +kernel
theorem dX11_isRow_2 : decode cX11_isRow 2 = .ok (.aload_n 0, 1) := by decide +kernel
theorem dX11_isRow_3 : decode cX11_isRow 3 = .ok (.getfield 213, 3) := by decide +kernel
theorem dX11_isRow_6 : decode cX11_isRow 6 = .ok (.iconst 1, 1) := by decide +kernel
theorem dX11_isRow_7 : decode cX11_isRow 7 = .ok (.isub, 1) := by decide +kernel
theorem dX11_isRow_8 : decode cX11_isRow 8 = .ok (.invokestatic 83, 3) := by decide +kernel
theorem dX11_isRow_11 : decode cX11_isRow 11 = .ok (.ifCond .eq 16, 3) := by decide +kernel
theorem dX11_isRow_14 : decode cX11_isRow 14 = .ok (.iload_n 2, 1) := by decide +kernel
theorem dX11_isRow_15 : decode cX11_isRow 15 = .ok (.iconst 0, 1) := by decide +kernel
theorem dX11_isRow_16 : decode cX11_isRow 16 = .ok (.iconst 2, 1) := by decide +kernel
theorem dX11_isRow_17 : decode cX11_isRow 17 = .ok (.invokestatic 83, 3) := by decide +kernel
theorem dX11_isRow_20 : decode cX11_isRow 20 = .ok (.ifCond .eq 7, 3) := by decide +kernel
theorem dX11_isRow_23 : decode cX11_isRow 23 = .ok (.iconst 1, 1) := by decide +kernel
theorem dX11_isRow_24 : decode cX11_isRow 24 = .ok (.goto 4, 3) := by decide +kernel
theorem dX11_isRow_27 : decode cX11_isRow 27 = .ok (.iconst 0, 1) := by decide +kernel
theorem dX11_isRow_28 : decode cX11_isRow 28 = .ok (.ireturn, 1) := by decide +kernel
theorem dX11_row_0 : decode cX11_row 0 = .ok (.aload_n 0, 1) := by decide +kernel
theorem dX11_row_1 : decode cX11_row 1 = .ok (.iload_n 1, 1) := by decide +kernel
theorem dX11_row_2 : decode cX11_row 2 = .ok (.iload_n 2, 1) := by decide +kernel
theorem dX11_row_3 : decode cX11_row 3 = .ok (.invokevirtual 341, 3) := by decide +kernel
theorem dX11_row_6 : decode cX11_row 6 = .ok (.ifCond .eq 16, 3) := by decide +kernel
theorem dX11_row_9 : decode cX11_row 9 = .ok (.aload_n 0, 1) := by decide +kernel
theorem dX11_row_10 : decode cX11_row 10 = .ok (.getfield 49, 3) := by decide +kernel
theorem dX11_row_13 : decode cX11_row 13 = .ok (.iconst 3, 1) := by decide +kernel
theorem dX11_row_14 : decode cX11_row 14 = .ok (.iload_n 1, 1) := by decide +kernel
theorem dX11_row_15 : decode cX11_row 15 = .ok (.imul, 1) := by decide +kernel
theorem dX11_row_16 : decode cX11_row 16 = .ok (.iload_n 2, 1) := by decide +kernel
theorem dX11_row_17 : decode cX11_row 17 = .ok (.iadd, 1) := by decide +kernel
theorem dX11_row_18 : decode cX11_row 18 = .ok (.iaload, 1) := by decide +kernel
theorem dX11_row_19 : decode cX11_row 19 = .ok (.goto 6, 3) := by decide +kernel
theorem dX11_row_22 : decode cX11_row 22 = .ok (.ldc_w 344, 3) := by decide +kernel
theorem dX11_row_25 : decode cX11_row 25 = .ok (.ireturn, 1) := by decide +kernel
theorem dX11_alterRow_0 : decode cX11_alterRow 0 = .ok (.aload_n 0, 1) := by decide +kernel
theorem dX11_alterRow_1 : decode cX11_alterRow 1 = .ok (.iload_n 1, 1) := by decide +kernel
theorem dX11_alterRow_2 : decode cX11_alterRow 2 = .ok (.iload_n 2, 1) := by decide +kernel
theorem dX11_alterRow_3 : decode cX11_alterRow 3 = .ok (.invokevirtual 341, 3) := by decide +kernel
theorem dX11_alterRow_6 : decode cX11_alterRow 6 = .ok (.ifCond .ne 7, 3) := by decide +kernel
theorem dX11_alterRow_9 : decode cX11_alterRow 9 = .ok (.ldc_w 344, 3) := by decide +kernel
theorem dX11_alterRow_12 : decode cX11_alterRow 12 = .ok (.ireturn, 1) := by decide +kernel
theorem dX11_alterRow_13 : decode cX11_alterRow 13 = .ok (.aload_n 0, 1) := by decide +kernel
theorem dX11_alterRow_14 : decode cX11_alterRow 14 = .ok (.getfield 49, 3) := by decide +kernel
theorem dX11_alterRow_17 : decode cX11_alterRow 17 = .ok (.iconst 3, 1) := by decide +kernel
theorem dX11_alterRow_18 : decode cX11_alterRow 18 = .ok (.iload_n 1, 1) := by decide +kernel
theorem dX11_alterRow_19 : decode cX11_alterRow 19 = .ok (.imul, 1) := by decide +kernel
theorem dX11_alterRow_20 : decode cX11_alterRow 20 = .ok (.iload_n 2, 1) := by decide +kernel
theorem dX11_alterRow_21 : decode cX11_alterRow 21 = .ok (.iadd, 1) := by decide +kernel
theorem dX11_alterRow_22 : decode cX11_alterRow 22 = .ok (.iaload, 1) := by decide +kernel
theorem dX11_alterRow_23 : decode cX11_alterRow 23 = .ok (.istore 4, 2) := by decide +kernel
theorem dX11_alterRow_25 : decode cX11_alterRow 25 = .ok (.aload_n 0, 1) := by decide +kernel
theorem dX11_alterRow_26 : decode cX11_alterRow 26 = .ok (.getfield 49, 3) := by decide +kernel
theorem dX11_alterRow_29 : decode cX11_alterRow 29 = .ok (.iconst 3, 1) := by decide +kernel
theorem dX11_alterRow_30 : decode cX11_alterRow 30 = .ok (.iload_n 1, 1) := by decide +kernel
theorem dX11_alterRow_31 : decode cX11_alterRow 31 = .ok (.imul, 1) := by decide +kernel
theorem dX11_alterRow_32 : decode cX11_alterRow 32 = .ok (.iload_n 2, 1) := by decide +kernel
theorem dX11_alterRow_33 : decode cX11_alterRow 33 = .ok (.iadd, 1) := by decide +kernel
theorem dX11_alterRow_34 : decode cX11_alterRow 34 = .ok (.iload_n 3, 1) := by decide +kernel
theorem dX11_alterRow_35 : decode cX11_alterRow 35 = .ok (.iastore, 1) := by decide +kernel
theorem dX11_alterRow_36 : decode cX11_alterRow 36 = .ok (.iload 4, 2) := by decide +kernel
theorem dX11_alterRow_38 : decode cX11_alterRow 38 = .ok (.ireturn, 1) := by decide +kernel
theorem dX11_judge_0 : decode cX11_judge 0 = .ok (.aload_n 0, 1) := by decide +kernel
theorem dX11_judge_1 : decode cX11_judge 1 = .ok (.aload_n 0, 1) := by decide +kernel
theorem dX11_judge_2 : decode cX11_judge 2 = .ok (.getfield 213, 3) := by decide +kernel
theorem dX11_judge_5 : decode cX11_judge 5 = .ok (.invokevirtual 338, 3) := by decide +kernel
theorem dX11_judge_8 : decode cX11_judge 8 = .ok (.iconst 0, 1) := by decide +kernel
theorem dX11_judge_9 : decode cX11_judge 9 = .ok (.istore_n 1, 1) := by decide +kernel
theorem dX11_judge_10 : decode cX11_judge 10 = .ok (.iload_n 1, 1) := by decide +kernel
theorem dX11_judge_11 : decode cX11_judge 11 = .ok (.aload_n 0, 1) := by decide +kernel
theorem dX11_judge_12 : decode cX11_judge 12 = .ok (.getfield 213, 3) := by decide +kernel
theorem dX11_judge_15 : decode cX11_judge 15 = .ok (.if_icmp .ge 77, 3) := by decide +kernel
theorem dX11_judge_18 : decode cX11_judge 18 = .ok (.iload_n 1, 1) := by decide +kernel
theorem dX11_judge_19 : decode cX11_judge 19 = .ok (.aload_n 0, 1) := by decide +kernel
theorem dX11_judge_20 : decode cX11_judge 20 = .ok (.getfield 335, 3) := by decide +kernel
theorem dX11_judge_23 : decode cX11_judge 23 = .ok (.if_icmp .ge 7, 3) := by decide +kernel
theorem dX11_judge_26 : decode cX11_judge 26 = .ok (.iconst 1, 1) := by decide +kernel
theorem dX11_judge_27 : decode cX11_judge 27 = .ok (.goto 4, 3) := by decide +kernel
theorem dX11_judge_30 : decode cX11_judge 30 = .ok (.iconst 0, 1) := by decide +kernel
theorem dX11_judge_31 : decode cX11_judge 31 = .ok (.istore_n 2, 1) := by decide +kernel
theorem dX11_judge_32 : decode cX11_judge 32 = .ok (.iconst 0, 1) := by decide +kernel
theorem dX11_judge_33 : decode cX11_judge 33 = .ok (.istore_n 3, 1) := by decide +kernel
theorem dX11_judge_34 : decode cX11_judge 34 = .ok (.iload_n 3, 1) := by decide +kernel
theorem dX11_judge_35 : decode cX11_judge 35 = .ok (.iconst 3, 1) := by decide +kernel
theorem dX11_judge_36 : decode cX11_judge 36 = .ok (.if_icmp .ge 42, 3) := by decide +kernel
theorem dX11_judge_39 : decode cX11_judge 39 = .ok (.iload_n 2, 1) := by decide +kernel
theorem dX11_judge_40 : decode cX11_judge 40 = .ok (.ifCond .eq 38, 3) := by decide +kernel
theorem dX11_judge_43 : decode cX11_judge 43 = .ok (.aload_n 0, 1) := by decide +kernel
theorem dX11_judge_44 : decode cX11_judge 44 = .ok (.getfield 49, 3) := by decide +kernel
theorem dX11_judge_47 : decode cX11_judge 47 = .ok (.iconst 3, 1) := by decide +kernel
theorem dX11_judge_48 : decode cX11_judge 48 = .ok (.iload_n 1, 1) := by decide +kernel
theorem dX11_judge_49 : decode cX11_judge 49 = .ok (.imul, 1) := by decide +kernel
theorem dX11_judge_50 : decode cX11_judge 50 = .ok (.iload_n 3, 1) := by decide +kernel
theorem dX11_judge_51 : decode cX11_judge 51 = .ok (.iadd, 1) := by decide +kernel
theorem dX11_judge_52 : decode cX11_judge 52 = .ok (.iaload, 1) := by decide +kernel
theorem dX11_judge_53 : decode cX11_judge 53 = .ok (.aload_n 0, 1) := by decide +kernel
theorem dX11_judge_54 : decode cX11_judge 54 = .ok (.getfield 52, 3) := by decide +kernel
theorem dX11_judge_57 : decode cX11_judge 57 = .ok (.iconst 3, 1) := by decide +kernel
theorem dX11_judge_58 : decode cX11_judge 58 = .ok (.iload_n 1, 1) := by decide +kernel
theorem dX11_judge_59 : decode cX11_judge 59 = .ok (.imul, 1) := by decide +kernel
theorem dX11_judge_60 : decode cX11_judge 60 = .ok (.iload_n 3, 1) := by decide +kernel
theorem dX11_judge_61 : decode cX11_judge 61 = .ok (.iadd, 1) := by decide +kernel
theorem dX11_judge_62 : decode cX11_judge 62 = .ok (.iaload, 1) := by decide +kernel
theorem dX11_judge_63 : decode cX11_judge 63 = .ok (.if_icmp .ne 7, 3) := by decide +kernel
theorem dX11_judge_66 : decode cX11_judge 66 = .ok (.iconst 1, 1) := by decide +kernel
theorem dX11_judge_67 : decode cX11_judge 67 = .ok (.goto 4, 3) := by decide +kernel
theorem dX11_judge_70 : decode cX11_judge 70 = .ok (.iconst 0, 1) := by decide +kernel
theorem dX11_judge_71 : decode cX11_judge 71 = .ok (.istore_n 2, 1) := by decide +kernel
theorem dX11_judge_72 : decode cX11_judge 72 = .ok (.iinc 3 1, 3) := by decide +kernel
theorem dX11_judge_75 : decode cX11_judge 75 = .ok (.goto (-41), 3) := by decide +kernel
theorem dX11_judge_78 : decode cX11_judge 78 = .ok (.iload_n 2, 1) := by decide +kernel
theorem dX11_judge_79 : decode cX11_judge 79 = .ok (.ifCond .ne 7, 3) := by decide +kernel
theorem dX11_judge_82 : decode cX11_judge 82 = .ok (.iload_n 1, 1) := by decide +kernel
theorem dX11_judge_83 : decode cX11_judge 83 = .ok (.iconst 1, 1) := by decide +kernel
theorem dX11_judge_84 : decode cX11_judge 84 = .ok (.iadd, 1) := by decide +kernel
theorem dX11_judge_85 : decode cX11_judge 85 = .ok (.ireturn, 1) := by decide +kernel
theorem dX11_judge_86 : decode cX11_judge 86 = .ok (.iinc 1 1, 3) := by decide +kernel
theorem dX11_judge_89 : decode cX11_judge 89 = .ok (.goto (-79), 3) := by decide +kernel
theorem dX11_judge_92 : decode cX11_judge 92 = .ok (.iconst 0, 1) := by decide +kernel
theorem dX11_judge_93 : decode cX11_judge 93 = .ok (.ireturn, 1) := by decide +kernel
theorem dX11_worths_0 : decode cX11_worths 0 = .ok (.iload_n 1, 1) := by decide +kernel
theorem dX11_worths_1 : decode cX11_worths 1 = .ok (.invokestatic 345, 3) := by decide +kernel
theorem dX11_worths_4 : decode cX11_worths 4 = .ok (.ifCond .eq 30, 3) := by decide +kernel
theorem dX11_worths_7 : decode cX11_worths 7 = .ok (.iload_n 3, 1) := by decide +kernel
theorem dX11_worths_8 : decode cX11_worths 8 = .ok (.invokestatic 216, 3) := by decide +kernel
theorem dX11_worths_11 : decode cX11_worths 11 = .ok (.ifCond .eq 23, 3) := by decide +kernel
theorem dX11_worths_14 : decode cX11_worths 14 = .ok (.iload 4, 2) := by decide +kernel
theorem dX11_worths_16 : decode cX11_worths 16 = .ok (.iconst 0, 1) := by decide +kernel
theorem dX11_worths_17 : decode cX11_worths 17 = .ok (.bipush 20, 2) := by decide +kernel
theorem dX11_worths_19 : decode cX11_worths 19 = .ok (.invokestatic 83, 3) := by decide +kernel
theorem dX11_worths_22 : decode cX11_worths 22 = .ok (.ifCond .eq 12, 3) := by decide +kernel
theorem dX11_worths_25 : decode cX11_worths 25 = .ok (.iload_n 3, 1) := by decide +kernel
theorem dX11_worths_26 : decode cX11_worths 26 = .ok (.iload 4, 2) := by decide +kernel
theorem dX11_worths_28 : decode cX11_worths 28 = .ok (.iadd, 1) := by decide +kernel
theorem dX11_worths_29 : decode cX11_worths 29 = .ok (.bipush 20, 2) := by decide +kernel
theorem dX11_worths_31 : decode cX11_worths 31 = .ok (.if_icmp .le 5, 3) := by decide +kernel
theorem dX11_worths_34 : decode cX11_worths 34 = .ok (.iconst (-1), 1) := by decide +kernel
theorem dX11_worths_35 : decode cX11_worths 35 = .ok (.ireturn, 1) := by decide +kernel
theorem dX11_worths_36 : decode cX11_worths 36 = .ok (.aload_n 0, 1) := by decide +kernel
theorem dX11_worths_37 : decode cX11_worths 37 = .ok (.iload_n 1, 1) := by decide +kernel
theorem dX11_worths_38 : decode cX11_worths 38 = .ok (.iconst 0, 1) := by decide +kernel
theorem dX11_worths_39 : decode cX11_worths 39 = .ok (.invokevirtual 348, 3) := by decide +kernel
theorem dX11_worths_42 : decode cX11_worths 42 = .ok (.istore 5, 2) := by decide +kernel
theorem dX11_worths_44 : decode cX11_worths 44 = .ok (.iload 5, 2) := by decide +kernel
theorem dX11_worths_46 : decode cX11_worths 46 = .ok (.ifCond .eq 6, 3) := by decide +kernel
theorem dX11_worths_49 : decode cX11_worths 49 = .ok (.iload 5, 2) := by decide +kernel
theorem dX11_worths_51 : decode cX11_worths 51 = .ok (.ireturn, 1) := by decide +kernel
theorem dX11_worths_52 : decode cX11_worths 52 = .ok (.iload_n 2, 1) := by decide +kernel
theorem dX11_worths_53 : decode cX11_worths 53 = .ok (.ifCond .lt 16, 3) := by decide +kernel
theorem dX11_worths_56 : decode cX11_worths 56 = .ok (.iload_n 2, 1) := by decide +kernel
theorem dX11_worths_57 : decode cX11_worths 57 = .ok (.aload_n 0, 1) := by decide +kernel
theorem dX11_worths_58 : decode cX11_worths 58 = .ok (.getfield 58, 3) := by decide +kernel
theorem dX11_worths_61 : decode cX11_worths 61 = .ok (.iload_n 1, 1) := by decide +kernel
theorem dX11_worths_62 : decode cX11_worths 62 = .ok (.iaload, 1) := by decide +kernel
theorem dX11_worths_63 : decode cX11_worths 63 = .ok (.iload 4, 2) := by decide +kernel
theorem dX11_worths_65 : decode cX11_worths 65 = .ok (.isub, 1) := by decide +kernel
theorem dX11_worths_66 : decode cX11_worths 66 = .ok (.if_icmp .le 6, 3) := by decide +kernel
theorem dX11_worths_69 : decode cX11_worths 69 = .ok (.bipush (-12), 2) := by decide +kernel
theorem dX11_worths_71 : decode cX11_worths 71 = .ok (.ireturn, 1) := by decide +kernel
theorem dX11_worths_72 : decode cX11_worths 72 = .ok (.iconst 0, 1) := by decide +kernel
theorem dX11_worths_73 : decode cX11_worths 73 = .ok (.istore 6, 2) := by decide +kernel
theorem dX11_worths_75 : decode cX11_worths 75 = .ok (.iload 6, 2) := by decide +kernel
theorem dX11_worths_77 : decode cX11_worths 77 = .ok (.iload 4, 2) := by decide +kernel
theorem dX11_worths_79 : decode cX11_worths 79 = .ok (.if_icmp .ge 62, 3) := by decide +kernel
theorem dX11_worths_82 : decode cX11_worths 82 = .ok (.aload_n 0, 1) := by decide +kernel
theorem dX11_worths_83 : decode cX11_worths 83 = .ok (.getfield 61, 3) := by decide +kernel
theorem dX11_worths_86 : decode cX11_worths 86 = .ok (.bipush 40, 2) := by decide +kernel
theorem dX11_worths_88 : decode cX11_worths 88 = .ok (.iload_n 1, 1) := by decide +kernel
theorem dX11_worths_89 : decode cX11_worths 89 = .ok (.imul, 1) := by decide +kernel
theorem dX11_worths_90 : decode cX11_worths 90 = .ok (.iload_n 2, 1) := by decide +kernel
theorem dX11_worths_91 : decode cX11_worths 91 = .ok (.iadd, 1) := by decide +kernel
theorem dX11_worths_92 : decode cX11_worths 92 = .ok (.iload 6, 2) := by decide +kernel
theorem dX11_worths_94 : decode cX11_worths 94 = .ok (.iadd, 1) := by decide +kernel
theorem dX11_worths_95 : decode cX11_worths 95 = .ok (.laload, 1) := by decide +kernel
theorem dX11_worths_96 : decode cX11_worths 96 = .ok (.lstore 7, 2) := by decide +kernel
theorem dX11_worths_98 : decode cX11_worths 98 = .ok (.aload_n 0, 1) := by decide +kernel
theorem dX11_worths_99 : decode cX11_worths 99 = .ok (.getfield 13, 3) := by decide +kernel
theorem dX11_worths_102 : decode cX11_worths 102 = .ok (.iload_n 3, 1) := by decide +kernel
theorem dX11_worths_103 : decode cX11_worths 103 = .ok (.iload 6, 2) := by decide +kernel
theorem dX11_worths_105 : decode cX11_worths 105 = .ok (.iadd, 1) := by decide +kernel
theorem dX11_worths_106 : decode cX11_worths 106 = .ok (.lload 7, 2) := by decide +kernel
theorem dX11_worths_108 : decode cX11_worths 108 = .ok (.lconst 0, 1) := by decide +kernel
theorem dX11_worths_109 : decode cX11_worths 109 = .ok (.lcmp, 1) := by decide +kernel
theorem dX11_worths_110 : decode cX11_worths 110 = .ok (.ifCond .ge 7, 3) := by decide +kernel
theorem dX11_worths_113 : decode cX11_worths 113 = .ok (.iconst 0, 1) := by decide +kernel
theorem dX11_worths_114 : decode cX11_worths 114 = .ok (.goto 20, 3) := by decide +kernel
theorem dX11_worths_117 : decode cX11_worths 117 = .ok (.lload 7, 2) := by decide +kernel
theorem dX11_worths_119 : decode cX11_worths 119 = .ok (.ldc2_w 351, 3) := by decide +kernel
theorem dX11_worths_122 : decode cX11_worths 122 = .ok (.lcmp, 1) := by decide +kernel
theorem dX11_worths_123 : decode cX11_worths 123 = .ok (.ifCond .le 8, 3) := by decide +kernel
theorem dX11_worths_126 : decode cX11_worths 126 = .ok (.bipush 99, 2) := by decide +kernel
theorem dX11_worths_128 : decode cX11_worths 128 = .ok (.goto 6, 3) := by decide +kernel
theorem dX11_worths_131 : decode cX11_worths 131 = .ok (.lload 7, 2) := by decide +kernel
theorem dX11_worths_133 : decode cX11_worths 133 = .ok (.l2i, 1) := by decide +kernel
theorem dX11_worths_134 : decode cX11_worths 134 = .ok (.iastore, 1) := by decide +kernel
theorem dX11_worths_135 : decode cX11_worths 135 = .ok (.iinc 6 1, 3) := by decide +kernel
theorem dX11_worths_138 : decode cX11_worths 138 = .ok (.goto (-63), 3) := by decide +kernel
theorem dX11_worths_141 : decode cX11_worths 141 = .ok (.iload 4, 2) := by decide +kernel
theorem dX11_worths_143 : decode cX11_worths 143 = .ok (.ireturn, 1) := by decide +kernel
theorem dX11_isShelf_0 : decode cX11_isShelf 0 = .ok (.iload_n 0, 1) := by decide +kernel
theorem dX11_isShelf_1 : decode cX11_isShelf 1 = .ok (.iconst 0, 1) := by decide +kernel
theorem dX11_isShelf_2 : decode cX11_isShelf 2 = .ok (.iconst 3, 1) := by decide +kernel
theorem dX11_isShelf_3 : decode cX11_isShelf 3 = .ok (.invokestatic 83, 3) := by decide +kernel
theorem dX11_isShelf_6 : decode cX11_isShelf 6 = .ok (.ireturn, 1) := by decide +kernel
theorem dX11_sheet_0 : decode cX11_sheet 0 = .ok (.iload_n 1, 1) := by decide +kernel
theorem dX11_sheet_1 : decode cX11_sheet 1 = .ok (.invokestatic 345, 3) := by decide +kernel
theorem dX11_sheet_4 : decode cX11_sheet 4 = .ok (.ifCond .eq 22, 3) := by decide +kernel
theorem dX11_sheet_7 : decode cX11_sheet 7 = .ok (.iload_n 2, 1) := by decide +kernel
theorem dX11_sheet_8 : decode cX11_sheet 8 = .ok (.iconst (-1), 1) := by decide +kernel
theorem dX11_sheet_9 : decode cX11_sheet 9 = .ok (.iconst 3, 1) := by decide +kernel
theorem dX11_sheet_10 : decode cX11_sheet 10 = .ok (.invokestatic 83, 3) := by decide +kernel
theorem dX11_sheet_13 : decode cX11_sheet 13 = .ok (.ifCond .eq 13, 3) := by decide +kernel
theorem dX11_sheet_16 : decode cX11_sheet 16 = .ok (.iload_n 2, 1) := by decide +kernel
theorem dX11_sheet_17 : decode cX11_sheet 17 = .ok (.ifCond .lt 11, 3) := by decide +kernel
theorem dX11_sheet_20 : decode cX11_sheet 20 = .ok (.iload_n 3, 1) := by decide +kernel
theorem dX11_sheet_21 : decode cX11_sheet 21 = .ok (.bipush 40, 2) := by decide +kernel
theorem dX11_sheet_23 : decode cX11_sheet 23 = .ok (.if_icmp .le 5, 3) := by decide +kernel
theorem dX11_sheet_26 : decode cX11_sheet 26 = .ok (.iconst (-1), 1) := by decide +kernel
theorem dX11_sheet_27 : decode cX11_sheet 27 = .ok (.ireturn, 1) := by decide +kernel
theorem dX11_sheet_28 : decode cX11_sheet 28 = .ok (.iload_n 2, 1) := by decide +kernel
theorem dX11_sheet_29 : decode cX11_sheet 29 = .ok (.ifCond .lt 10, 3) := by decide +kernel
theorem dX11_sheet_32 : decode cX11_sheet 32 = .ok (.iload_n 3, 1) := by decide +kernel
theorem dX11_sheet_33 : decode cX11_sheet 33 = .ok (.ifCond .ge 6, 3) := by decide +kernel
theorem dX11_sheet_36 : decode cX11_sheet 36 = .ok (.bipush (-14), 2) := by decide +kernel
theorem dX11_sheet_38 : decode cX11_sheet 38 = .ok (.ireturn, 1) := by decide +kernel
theorem dX11_sheet_39 : decode cX11_sheet 39 = .ok (.aload_n 0, 1) := by decide +kernel
theorem dX11_sheet_40 : decode cX11_sheet 40 = .ok (.getfield 55, 3) := by decide +kernel
theorem dX11_sheet_43 : decode cX11_sheet 43 = .ok (.iload_n 1, 1) := by decide +kernel
theorem dX11_sheet_44 : decode cX11_sheet 44 = .ok (.iload_n 2, 1) := by decide +kernel
theorem dX11_sheet_45 : decode cX11_sheet 45 = .ok (.iastore, 1) := by decide +kernel
theorem dX11_sheet_46 : decode cX11_sheet 46 = .ok (.aload_n 0, 1) := by decide +kernel
theorem dX11_sheet_47 : decode cX11_sheet 47 = .ok (.getfield 58, 3) := by decide +kernel
theorem dX11_sheet_50 : decode cX11_sheet 50 = .ok (.iload_n 1, 1) := by decide +kernel
theorem dX11_sheet_51 : decode cX11_sheet 51 = .ok (.iload_n 2, 1) := by decide +kernel
theorem dX11_sheet_52 : decode cX11_sheet 52 = .ok (.ifCond .ge 7, 3) := by decide +kernel
theorem dX11_sheet_55 : decode cX11_sheet 55 = .ok (.iconst 0, 1) := by decide +kernel
theorem dX11_sheet_56 : decode cX11_sheet 56 = .ok (.goto 4, 3) := by decide +kernel
theorem dX11_sheet_59 : decode cX11_sheet 59 = .ok (.iload_n 3, 1) := by decide +kernel
theorem dX11_sheet_60 : decode cX11_sheet 60 = .ok (.iastore, 1) := by decide +kernel
theorem dX11_sheet_61 : decode cX11_sheet 61 = .ok (.iconst 0, 1) := by decide +kernel
theorem dX11_sheet_62 : decode cX11_sheet 62 = .ok (.istore 4, 2) := by decide +kernel
theorem dX11_sheet_64 : decode cX11_sheet 64 = .ok (.iload 4, 2) := by decide +kernel
theorem dX11_sheet_66 : decode cX11_sheet 66 = .ok (.bipush 40, 2) := by decide +kernel
theorem dX11_sheet_68 : decode cX11_sheet 68 = .ok (.if_icmp .ge 22, 3) := by decide +kernel
theorem dX11_sheet_71 : decode cX11_sheet 71 = .ok (.aload_n 0, 1) := by decide +kernel
theorem dX11_sheet_72 : decode cX11_sheet 72 = .ok (.getfield 61, 3) := by decide +kernel
theorem dX11_sheet_75 : decode cX11_sheet 75 = .ok (.bipush 40, 2) := by decide +kernel
theorem dX11_sheet_77 : decode cX11_sheet 77 = .ok (.iload_n 1, 1) := by decide +kernel
theorem dX11_sheet_78 : decode cX11_sheet 78 = .ok (.imul, 1) := by decide +kernel
theorem dX11_sheet_79 : decode cX11_sheet 79 = .ok (.iload 4, 2) := by decide +kernel
theorem dX11_sheet_81 : decode cX11_sheet 81 = .ok (.iadd, 1) := by decide +kernel
theorem dX11_sheet_82 : decode cX11_sheet 82 = .ok (.lconst 0, 1) := by decide +kernel
theorem dX11_sheet_83 : decode cX11_sheet 83 = .ok (.lastore, 1) := by decide +kernel
theorem dX11_sheet_84 : decode cX11_sheet 84 = .ok (.iinc 4 1, 3) := by decide +kernel
theorem dX11_sheet_87 : decode cX11_sheet 87 = .ok (.goto (-23), 3) := by decide +kernel
theorem dX11_sheet_90 : decode cX11_sheet 90 = .ok (.iconst 1, 1) := by decide +kernel
theorem dX11_sheet_91 : decode cX11_sheet 91 = .ok (.ireturn, 1) := by decide +kernel
theorem dX11_put_0 : decode cX11_put 0 = .ok (.iload_n 1, 1) := by decide +kernel
theorem dX11_put_1 : decode cX11_put 1 = .ok (.invokestatic 345, 3) := by decide +kernel
theorem dX11_put_4 : decode cX11_put 4 = .ok (.ifCond .ne 5, 3) := by decide +kernel
theorem dX11_put_7 : decode cX11_put 7 = .ok (.iconst (-1), 1) := by decide +kernel
theorem dX11_put_8 : decode cX11_put 8 = .ok (.ireturn, 1) := by decide +kernel
theorem dX11_put_9 : decode cX11_put 9 = .ok (.aload_n 0, 1) := by decide +kernel
theorem dX11_put_10 : decode cX11_put 10 = .ok (.getfield 55, 3) := by decide +kernel
theorem dX11_put_13 : decode cX11_put 13 = .ok (.iload_n 1, 1) := by decide +kernel
theorem dX11_put_14 : decode cX11_put 14 = .ok (.iaload, 1) := by decide +kernel
theorem dX11_put_15 : decode cX11_put 15 = .ok (.ifCond .ge 6, 3) := by decide +kernel
theorem dX11_put_18 : decode cX11_put 18 = .ok (.bipush (-11), 2) := by decide +kernel
theorem dX11_put_20 : decode cX11_put 20 = .ok (.ireturn, 1) := by decide +kernel
theorem dX11_put_21 : decode cX11_put 21 = .ok (.iload_n 2, 1) := by decide +kernel
theorem dX11_put_22 : decode cX11_put 22 = .ok (.iconst 0, 1) := by decide +kernel
theorem dX11_put_23 : decode cX11_put 23 = .ok (.aload_n 0, 1) := by decide +kernel
theorem dX11_put_24 : decode cX11_put 24 = .ok (.getfield 58, 3) := by decide +kernel
theorem dX11_put_27 : decode cX11_put 27 = .ok (.iload_n 1, 1) := by decide +kernel
theorem dX11_put_28 : decode cX11_put 28 = .ok (.iaload, 1) := by decide +kernel
theorem dX11_put_29 : decode cX11_put 29 = .ok (.iconst 1, 1) := by decide +kernel
theorem dX11_put_30 : decode cX11_put 30 = .ok (.isub, 1) := by decide +kernel
theorem dX11_put_31 : decode cX11_put 31 = .ok (.invokestatic 83, 3) := by decide +kernel
theorem dX11_put_34 : decode cX11_put 34 = .ok (.ifCond .ne 6, 3) := by decide +kernel
theorem dX11_put_37 : decode cX11_put 37 = .ok (.bipush (-12), 2) := by decide +kernel
theorem dX11_put_39 : decode cX11_put 39 = .ok (.ireturn, 1) := by decide +kernel
theorem dX11_put_40 : decode cX11_put 40 = .ok (.aload_n 0, 1) := by decide +kernel
theorem dX11_put_41 : decode cX11_put 41 = .ok (.getfield 61, 3) := by decide +kernel
theorem dX11_put_44 : decode cX11_put 44 = .ok (.bipush 40, 2) := by decide +kernel
theorem dX11_put_46 : decode cX11_put 46 = .ok (.iload_n 1, 1) := by decide +kernel
theorem dX11_put_47 : decode cX11_put 47 = .ok (.imul, 1) := by decide +kernel
theorem dX11_put_48 : decode cX11_put 48 = .ok (.iload_n 2, 1) := by decide +kernel
theorem dX11_put_49 : decode cX11_put 49 = .ok (.iadd, 1) := by decide +kernel
theorem dX11_put_50 : decode cX11_put 50 = .ok (.aload_n 0, 1) := by decide +kernel
theorem dX11_put_51 : decode cX11_put 51 = .ok (.getfield 55, 3) := by decide +kernel
theorem dX11_put_54 : decode cX11_put 54 = .ok (.iload_n 1, 1) := by decide +kernel
theorem dX11_put_55 : decode cX11_put 55 = .ok (.iaload, 1) := by decide +kernel
theorem dX11_put_56 : decode cX11_put 56 = .ok (.ifCond .ne 9, 3) := by decide +kernel
theorem dX11_put_59 : decode cX11_put 59 = .ok (.iload_n 3, 1) := by decide +kernel
theorem dX11_put_60 : decode cX11_put 60 = .ok (.i2b, 1) := by decide +kernel
theorem dX11_put_61 : decode cX11_put 61 = .ok (.i2l, 1) := by decide +kernel
theorem dX11_put_62 : decode cX11_put 62 = .ok (.goto 21, 3) := by decide +kernel
theorem dX11_put_65 : decode cX11_put 65 = .ok (.aload_n 0, 1) := by decide +kernel
theorem dX11_put_66 : decode cX11_put 66 = .ok (.getfield 55, 3) := by decide +kernel
theorem dX11_put_69 : decode cX11_put 69 = .ok (.iload_n 1, 1) := by decide +kernel
theorem dX11_put_70 : decode cX11_put 70 = .ok (.iaload, 1) := by decide +kernel
theorem dX11_put_71 : decode cX11_put 71 = .ok (.iconst 1, 1) := by decide +kernel
theorem dX11_put_72 : decode cX11_put 72 = .ok (.if_icmp .ne 9, 3) := by decide +kernel
theorem dX11_put_75 : decode cX11_put 75 = .ok (.iload_n 3, 1) := by decide +kernel
theorem dX11_put_76 : decode cX11_put 76 = .ok (.i2s, 1) := by decide +kernel
theorem dX11_put_77 : decode cX11_put 77 = .ok (.i2l, 1) := by decide +kernel
theorem dX11_put_78 : decode cX11_put 78 = .ok (.goto 5, 3) := by decide +kernel
theorem dX11_put_81 : decode cX11_put 81 = .ok (.iload_n 3, 1) := by decide +kernel
theorem dX11_put_82 : decode cX11_put 82 = .ok (.i2l, 1) := by decide +kernel
theorem dX11_put_83 : decode cX11_put 83 = .ok (.lastore, 1) := by decide +kernel
theorem dX11_put_84 : decode cX11_put 84 = .ok (.iconst 1, 1) := by decide +kernel
theorem dX11_put_85 : decode cX11_put 85 = .ok (.ireturn, 1) := by decide +kernel
theorem dX11_lacksSort_0 : decode cX11_lacksSort 0 = .ok (.aload_n 0, 1) := by decide +kernel
theorem dX11_lacksSort_1 : decode cX11_lacksSort 1 = .ok (.getfield 55, 3) := by decide +kernel
theorem dX11_lacksSort_4 : decode cX11_lacksSort 4 = .ok (.iload_n 1, 1) := by decide +kernel
theorem dX11_lacksSort_5 : decode cX11_lacksSort 5 = .ok (.iaload, 1) := by decide +kernel
theorem dX11_lacksSort_6 : decode cX11_lacksSort 6 = .ok (.ifCond .ge 8, 3) := by decide +kernel
theorem dX11_lacksSort_9 : decode cX11_lacksSort 9 = .ok (.bipush (-11), 2) := by decide +kernel
theorem dX11_lacksSort_11 : decode cX11_lacksSort 11 = .ok (.goto 19, 3) := by decide +kernel
theorem dX11_lacksSort_14 : decode cX11_lacksSort 14 = .ok (.aload_n 0, 1) := by decide +kernel
theorem dX11_lacksSort_15 : decode cX11_lacksSort 15 = .ok (.getfield 55, 3) := by decide +kernel
theorem dX11_lacksSort_18 : decode cX11_lacksSort 18 = .ok (.iload_n 1, 1) := by decide +kernel
theorem dX11_lacksSort_19 : decode cX11_lacksSort 19 = .ok (.iaload, 1) := by decide +kernel
theorem dX11_lacksSort_20 : decode cX11_lacksSort 20 = .ok (.iload_n 2, 1) := by decide +kernel
theorem dX11_lacksSort_21 : decode cX11_lacksSort 21 = .ok (.if_icmp .eq 8, 3) := by decide +kernel
theorem dX11_lacksSort_24 : decode cX11_lacksSort 24 = .ok (.bipush (-13), 2) := by decide +kernel
theorem dX11_lacksSort_26 : decode cX11_lacksSort 26 = .ok (.goto 4, 3) := by decide +kernel
theorem dX11_lacksSort_29 : decode cX11_lacksSort 29 = .ok (.iconst 0, 1) := by decide +kernel
theorem dX11_lacksSort_30 : decode cX11_lacksSort 30 = .ok (.ireturn, 1) := by decide +kernel
theorem dX11_item_0 : decode cX11_item 0 = .ok (.iload_n 1, 1) := by decide +kernel
theorem dX11_item_1 : decode cX11_item 1 = .ok (.invokestatic 345, 3) := by decide +kernel
theorem dX11_item_4 : decode cX11_item 4 = .ok (.ifCond .eq 12, 3) := by decide +kernel
theorem dX11_item_7 : decode cX11_item 7 = .ok (.iload_n 2, 1) := by decide +kernel
theorem dX11_item_8 : decode cX11_item 8 = .ok (.iconst 0, 1) := by decide +kernel
theorem dX11_item_9 : decode cX11_item 9 = .ok (.iconst 3, 1) := by decide +kernel
theorem dX11_item_10 : decode cX11_item 10 = .ok (.invokestatic 83, 3) := by decide +kernel
theorem dX11_item_13 : decode cX11_item 13 = .ok (.ifCond .ne 5, 3) := by decide +kernel
theorem dX11_item_16 : decode cX11_item 16 = .ok (.iconst (-1), 1) := by decide +kernel
theorem dX11_item_17 : decode cX11_item 17 = .ok (.ireturn, 1) := by decide +kernel
theorem dX11_item_18 : decode cX11_item 18 = .ok (.aload_n 0, 1) := by decide +kernel
theorem dX11_item_19 : decode cX11_item 19 = .ok (.iload_n 1, 1) := by decide +kernel
theorem dX11_item_20 : decode cX11_item 20 = .ok (.iload_n 2, 1) := by decide +kernel
theorem dX11_item_21 : decode cX11_item 21 = .ok (.invokevirtual 348, 3) := by decide +kernel
theorem dX11_item_24 : decode cX11_item 24 = .ok (.istore 4, 2) := by decide +kernel
theorem dX11_item_26 : decode cX11_item 26 = .ok (.iload 4, 2) := by decide +kernel
theorem dX11_item_28 : decode cX11_item 28 = .ok (.ifCond .eq 6, 3) := by decide +kernel
theorem dX11_item_31 : decode cX11_item 31 = .ok (.iload 4, 2) := by decide +kernel
theorem dX11_item_33 : decode cX11_item 33 = .ok (.ireturn, 1) := by decide +kernel
theorem dX11_item_34 : decode cX11_item 34 = .ok (.iload_n 3, 1) := by decide +kernel
theorem dX11_item_35 : decode cX11_item 35 = .ok (.iconst 0, 1) := by decide +kernel
theorem dX11_item_36 : decode cX11_item 36 = .ok (.aload_n 0, 1) := by decide +kernel
theorem dX11_item_37 : decode cX11_item 37 = .ok (.getfield 58, 3) := by decide +kernel
theorem dX11_item_40 : decode cX11_item 40 = .ok (.iload_n 1, 1) := by decide +kernel
theorem dX11_item_41 : decode cX11_item 41 = .ok (.iaload, 1) := by decide +kernel
theorem dX11_item_42 : decode cX11_item 42 = .ok (.iconst 1, 1) := by decide +kernel
theorem dX11_item_43 : decode cX11_item 43 = .ok (.isub, 1) := by decide +kernel
theorem dX11_item_44 : decode cX11_item 44 = .ok (.invokestatic 83, 3) := by decide +kernel
theorem dX11_item_47 : decode cX11_item 47 = .ok (.ifCond .eq 18, 3) := by decide +kernel
theorem dX11_item_50 : decode cX11_item 50 = .ok (.aload_n 0, 1) := by decide +kernel
theorem dX11_item_51 : decode cX11_item 51 = .ok (.getfield 61, 3) := by decide +kernel
theorem dX11_item_54 : decode cX11_item 54 = .ok (.bipush 40, 2) := by decide +kernel
theorem dX11_item_56 : decode cX11_item 56 = .ok (.iload_n 1, 1) := by decide +kernel
theorem dX11_item_57 : decode cX11_item 57 = .ok (.imul, 1) := by decide +kernel
theorem dX11_item_58 : decode cX11_item 58 = .ok (.iload_n 3, 1) := by decide +kernel
theorem dX11_item_59 : decode cX11_item 59 = .ok (.iadd, 1) := by decide +kernel
theorem dX11_item_60 : decode cX11_item 60 = .ok (.laload, 1) := by decide +kernel
theorem dX11_item_61 : decode cX11_item 61 = .ok (.l2i, 1) := by decide +kernel
theorem dX11_item_62 : decode cX11_item 62 = .ok (.goto 5, 3) := by decide +kernel
theorem dX11_item_65 : decode cX11_item 65 = .ok (.bipush (-12), 2) := by decide +kernel
theorem dX11_item_67 : decode cX11_item 67 = .ok (.ireturn, 1) := by decide +kernel
theorem dX11_isHeld_0 : decode cX11_isHeld 0 = .ok (.iload_n 1, 1) := by decide +kernel
theorem dX11_isHeld_1 : decode cX11_isHeld 1 = .ok (.ifCond .ne 11, 3) := by decide +kernel
theorem dX11_isHeld_4 : decode cX11_isHeld 4 = .ok (.aload_n 0, 1) := by decide +kernel
theorem dX11_isHeld_5 : decode cX11_isHeld 5 = .ok (.iload_n 2, 1) := by decide +kernel
theorem dX11_isHeld_6 : decode cX11_isHeld 6 = .ok (.invokevirtual 247, 3) := by decide +kernel
theorem dX11_isHeld_9 : decode cX11_isHeld 9 = .ok (.goto 25, 3) := by decide +kernel
theorem dX11_isHeld_12 : decode cX11_isHeld 12 = .ok (.iload_n 1, 1) := by decide +kernel
theorem dX11_isHeld_13 : decode cX11_isHeld 13 = .ok (.iconst 1, 1) := by decide +kernel
theorem dX11_isHeld_14 : decode cX11_isHeld 14 = .ok (.if_icmp .ne 10, 3) := by decide +kernel
theorem dX11_isHeld_17 : decode cX11_isHeld 17 = .ok (.iload_n 2, 1) := by decide +kernel
theorem dX11_isHeld_18 : decode cX11_isHeld 18 = .ok (.invokestatic 345, 3) := by decide +kernel
theorem dX11_isHeld_21 : decode cX11_isHeld 21 = .ok (.goto 13, 3) := by decide +kernel
theorem dX11_isHeld_24 : decode cX11_isHeld 24 = .ok (.iload_n 1, 1) := by decide +kernel
theorem dX11_isHeld_25 : decode cX11_isHeld 25 = .ok (.iconst 2, 1) := by decide +kernel
theorem dX11_isHeld_26 : decode cX11_isHeld 26 = .ok (.if_icmp .ne 7, 3) := by decide +kernel
theorem dX11_isHeld_29 : decode cX11_isHeld 29 = .ok (.iconst 1, 1) := by decide +kernel
theorem dX11_isHeld_30 : decode cX11_isHeld 30 = .ok (.goto 4, 3) := by decide +kernel
theorem dX11_isHeld_33 : decode cX11_isHeld 33 = .ok (.iconst 0, 1) := by decide +kernel
theorem dX11_isHeld_34 : decode cX11_isHeld 34 = .ok (.ireturn, 1) := by decide +kernel
theorem dX11_shelf_0 : decode cX11_shelf 0 = .ok (.iload_n 1, 1) := by decide +kernel
theorem dX11_shelf_1 : decode cX11_shelf 1 = .ok (.invokestatic 345, 3) := by decide +kernel
theorem dX11_shelf_4 : decode cX11_shelf 4 = .ok (.ifCond .eq 12, 3) := by decide +kernel
theorem dX11_shelf_7 : decode cX11_shelf 7 = .ok (.aload_n 0, 1) := by decide +kernel
theorem dX11_shelf_8 : decode cX11_shelf 8 = .ok (.iload_n 2, 1) := by decide +kernel
theorem dX11_shelf_9 : decode cX11_shelf 9 = .ok (.iload_n 3, 1) := by decide +kernel
theorem dX11_shelf_10 : decode cX11_shelf 10 = .ok (.invokevirtual 353, 3) := by decide +kernel
theorem dX11_shelf_13 : decode cX11_shelf 13 = .ok (.ifCond .ne 5, 3) := by decide +kernel
theorem dX11_shelf_16 : decode cX11_shelf 16 = .ok (.iconst (-1), 1) := by decide +kernel
theorem dX11_shelf_17 : decode cX11_shelf 17 = .ok (.ireturn, 1) := by decide +kernel
theorem dX11_shelf_18 : decode cX11_shelf 18 = .ok (.aload_n 0, 1) := by decide +kernel
theorem dX11_shelf_19 : decode cX11_shelf 19 = .ok (.getfield 65, 3) := by decide +kernel
theorem dX11_shelf_22 : decode cX11_shelf 22 = .ok (.iload_n 1, 1) := by decide +kernel
theorem dX11_shelf_23 : decode cX11_shelf 23 = .ok (.iload_n 2, 1) := by decide +kernel
theorem dX11_shelf_24 : decode cX11_shelf 24 = .ok (.iconst 2, 1) := by decide +kernel
theorem dX11_shelf_25 : decode cX11_shelf 25 = .ok (.if_icmp .eq 17, 3) := by decide +kernel
theorem dX11_shelf_28 : decode cX11_shelf 28 = .ok (.iload_n 2, 1) := by decide +kernel
theorem dX11_shelf_29 : decode cX11_shelf 29 = .ok (.iconst 1, 1) := by decide +kernel
theorem dX11_shelf_30 : decode cX11_shelf 30 = .ok (.if_icmp .ne 16, 3) := by decide +kernel
theorem dX11_shelf_33 : decode cX11_shelf 33 = .ok (.aload_n 0, 1) := by decide +kernel
theorem dX11_shelf_34 : decode cX11_shelf 34 = .ok (.getfield 55, 3) := by decide +kernel
theorem dX11_shelf_37 : decode cX11_shelf 37 = .ok (.iload_n 3, 1) := by decide +kernel
theorem dX11_shelf_38 : decode cX11_shelf 38 = .ok (.iaload, 1) := by decide +kernel
theorem dX11_shelf_39 : decode cX11_shelf 39 = .ok (.ifCond .ge 7, 3) := by decide +kernel
theorem dX11_shelf_42 : decode cX11_shelf 42 = .ok (.iconst (-1), 1) := by decide +kernel
theorem dX11_shelf_43 : decode cX11_shelf 43 = .ok (.goto 4, 3) := by decide +kernel
theorem dX11_shelf_46 : decode cX11_shelf 46 = .ok (.iload_n 2, 1) := by decide +kernel
theorem dX11_shelf_47 : decode cX11_shelf 47 = .ok (.iastore, 1) := by decide +kernel
theorem dX11_shelf_48 : decode cX11_shelf 48 = .ok (.aload_n 0, 1) := by decide +kernel
theorem dX11_shelf_49 : decode cX11_shelf 49 = .ok (.getfield 68, 3) := by decide +kernel
theorem dX11_shelf_52 : decode cX11_shelf 52 = .ok (.iload_n 1, 1) := by decide +kernel
theorem dX11_shelf_53 : decode cX11_shelf 53 = .ok (.iload_n 2, 1) := by decide +kernel
theorem dX11_shelf_54 : decode cX11_shelf 54 = .ok (.iconst 1, 1) := by decide +kernel
theorem dX11_shelf_55 : decode cX11_shelf 55 = .ok (.if_icmp .ne 12, 3) := by decide +kernel
theorem dX11_shelf_58 : decode cX11_shelf 58 = .ok (.aload_n 0, 1) := by decide +kernel
theorem dX11_shelf_59 : decode cX11_shelf 59 = .ok (.getfield 55, 3) := by decide +kernel
theorem dX11_shelf_62 : decode cX11_shelf 62 = .ok (.iload_n 3, 1) := by decide +kernel
theorem dX11_shelf_63 : decode cX11_shelf 63 = .ok (.iaload, 1) := by decide +kernel
theorem dX11_shelf_64 : decode cX11_shelf 64 = .ok (.goto 4, 3) := by decide +kernel
theorem dX11_shelf_67 : decode cX11_shelf 67 = .ok (.iload_n 3, 1) := by decide +kernel
theorem dX11_shelf_68 : decode cX11_shelf 68 = .ok (.iastore, 1) := by decide +kernel
theorem dX11_shelf_69 : decode cX11_shelf 69 = .ok (.aload_n 0, 1) := by decide +kernel
theorem dX11_shelf_70 : decode cX11_shelf 70 = .ok (.getfield 71, 3) := by decide +kernel
theorem dX11_shelf_73 : decode cX11_shelf 73 = .ok (.iload_n 1, 1) := by decide +kernel
theorem dX11_shelf_74 : decode cX11_shelf 74 = .ok (.iload_n 2, 1) := by decide +kernel
theorem dX11_shelf_75 : decode cX11_shelf 75 = .ok (.iconst 1, 1) := by decide +kernel
theorem dX11_shelf_76 : decode cX11_shelf 76 = .ok (.if_icmp .ne 12, 3) := by decide +kernel
theorem dX11_shelf_79 : decode cX11_shelf 79 = .ok (.aload_n 0, 1) := by decide +kernel
theorem dX11_shelf_80 : decode cX11_shelf 80 = .ok (.getfield 58, 3) := by decide +kernel
theorem dX11_shelf_83 : decode cX11_shelf 83 = .ok (.iload_n 3, 1) := by decide +kernel
theorem dX11_shelf_84 : decode cX11_shelf 84 = .ok (.iaload, 1) := by decide +kernel
theorem dX11_shelf_85 : decode cX11_shelf 85 = .ok (.goto 4, 3) := by decide +kernel
theorem dX11_shelf_88 : decode cX11_shelf 88 = .ok (.iconst 0, 1) := by decide +kernel
theorem dX11_shelf_89 : decode cX11_shelf 89 = .ok (.iastore, 1) := by decide +kernel
theorem dX11_shelf_90 : decode cX11_shelf 90 = .ok (.iconst 1, 1) := by decide +kernel
theorem dX11_shelf_91 : decode cX11_shelf 91 = .ok (.ireturn, 1) := by decide +kernel
theorem dX11_kindOn_0 : decode cX11_kindOn 0 = .ok (.aload_n 0, 1) := by decide +kernel
theorem dX11_kindOn_1 : decode cX11_kindOn 1 = .ok (.getfield 65, 3) := by decide +kernel
theorem dX11_kindOn_4 : decode cX11_kindOn 4 = .ok (.iload_n 1, 1) := by decide +kernel
theorem dX11_kindOn_5 : decode cX11_kindOn 5 = .ok (.iaload, 1) := by decide +kernel
theorem dX11_kindOn_6 : decode cX11_kindOn 6 = .ok (.ifCond .eq 19, 3) := by decide +kernel
theorem dX11_kindOn_9 : decode cX11_kindOn 9 = .ok (.aload_n 0, 1) := by decide +kernel
theorem dX11_kindOn_10 : decode cX11_kindOn 10 = .ok (.getfield 65, 3) := by decide +kernel
theorem dX11_kindOn_13 : decode cX11_kindOn 13 = .ok (.iload_n 1, 1) := by decide +kernel
theorem dX11_kindOn_14 : decode cX11_kindOn 14 = .ok (.iaload, 1) := by decide +kernel
theorem dX11_kindOn_15 : decode cX11_kindOn 15 = .ok (.ifCond .ge 7, 3) := by decide +kernel
theorem dX11_kindOn_18 : decode cX11_kindOn 18 = .ok (.iconst (-1), 1) := by decide +kernel
theorem dX11_kindOn_19 : decode cX11_kindOn 19 = .ok (.goto 5, 3) := by decide +kernel
theorem dX11_kindOn_22 : decode cX11_kindOn 22 = .ok (.bipush 9, 2) := by decide +kernel
theorem dX11_kindOn_24 : decode cX11_kindOn 24 = .ok (.ireturn, 1) := by decide +kernel
theorem dX11_kindOn_25 : decode cX11_kindOn 25 = .ok (.aload_n 0, 1) := by decide +kernel
theorem dX11_kindOn_26 : decode cX11_kindOn 26 = .ok (.aload_n 0, 1) := by decide +kernel
theorem dX11_kindOn_27 : decode cX11_kindOn 27 = .ok (.getfield 68, 3) := by decide +kernel
theorem dX11_kindOn_30 : decode cX11_kindOn 30 = .ok (.iload_n 1, 1) := by decide +kernel
theorem dX11_kindOn_31 : decode cX11_kindOn 31 = .ok (.iaload, 1) := by decide +kernel
theorem dX11_kindOn_32 : decode cX11_kindOn 32 = .ok (.invokevirtual 247, 3) := by decide +kernel
theorem dX11_kindOn_35 : decode cX11_kindOn 35 = .ok (.ifCond .eq 16, 3) := by decide +kernel
theorem dX11_kindOn_38 : decode cX11_kindOn 38 = .ok (.aload_n 0, 1) := by decide +kernel
theorem dX11_kindOn_39 : decode cX11_kindOn 39 = .ok (.aload_n 0, 1) := by decide +kernel
theorem dX11_kindOn_40 : decode cX11_kindOn 40 = .ok (.getfield 68, 3) := by decide +kernel
theorem dX11_kindOn_43 : decode cX11_kindOn 43 = .ok (.iload_n 1, 1) := by decide +kernel
theorem dX11_kindOn_44 : decode cX11_kindOn 44 = .ok (.iaload, 1) := by decide +kernel
theorem dX11_kindOn_45 : decode cX11_kindOn 45 = .ok (.invokevirtual 250, 3) := by decide +kernel
theorem dX11_kindOn_48 : decode cX11_kindOn 48 = .ok (.goto 4, 3) := by decide +kernel
theorem dX11_kindOn_51 : decode cX11_kindOn 51 = .ok (.iconst (-1), 1) := by decide +kernel
theorem dX11_kindOn_52 : decode cX11_kindOn 52 = .ok (.ireturn, 1) := by decide +kernel
theorem dX11_isUnder_0 : decode cX11_isUnder 0 = .ok (.iload_n 1, 1) := by decide +kernel
theorem dX11_isUnder_1 : decode cX11_isUnder 1 = .ok (.ifCond .eq 28, 3) := by decide +kernel
theorem dX11_isUnder_4 : decode cX11_isUnder 4 = .ok (.iload_n 1, 1) := by decide +kernel
theorem dX11_isUnder_5 : decode cX11_isUnder 5 = .ok (.iload_n 0, 1) := by decide +kernel
theorem dX11_isUnder_6 : decode cX11_isUnder 6 = .ok (.if_icmp .eq 23, 3) := by decide +kernel
theorem dX11_isUnder_9 : decode cX11_isUnder 9 = .ok (.iload_n 1, 1) := by decide +kernel
theorem dX11_isUnder_10 : decode cX11_isUnder 10 = .ok (.iconst 1, 1) := by decide +kernel
theorem dX11_isUnder_11 : decode cX11_isUnder 11 = .ok (.if_icmp .ne 8, 3) := by decide +kernel
theorem dX11_isUnder_14 : decode cX11_isUnder 14 = .ok (.iload_n 0, 1) := by decide +kernel
theorem dX11_isUnder_15 : decode cX11_isUnder 15 = .ok (.iconst 4, 1) := by decide +kernel
theorem dX11_isUnder_16 : decode cX11_isUnder 16 = .ok (.if_icmp .eq 13, 3) := by decide +kernel
theorem dX11_isUnder_19 : decode cX11_isUnder 19 = .ok (.iload_n 1, 1) := by decide +kernel
theorem dX11_isUnder_20 : decode cX11_isUnder 20 = .ok (.iconst 2, 1) := by decide +kernel
theorem dX11_isUnder_21 : decode cX11_isUnder 21 = .ok (.if_icmp .ne 12, 3) := by decide +kernel
theorem dX11_isUnder_24 : decode cX11_isUnder 24 = .ok (.iload_n 0, 1) := by decide +kernel
theorem dX11_isUnder_25 : decode cX11_isUnder 25 = .ok (.iconst 3, 1) := by decide +kernel
theorem dX11_isUnder_26 : decode cX11_isUnder 26 = .ok (.if_icmp .ne 7, 3) := by decide +kernel
theorem dX11_isUnder_29 : decode cX11_isUnder 29 = .ok (.iconst 1, 1) := by decide +kernel
theorem dX11_isUnder_30 : decode cX11_isUnder 30 = .ok (.goto 4, 3) := by decide +kernel
theorem dX11_isUnder_33 : decode cX11_isUnder 33 = .ok (.iconst 0, 1) := by decide +kernel
theorem dX11_isUnder_34 : decode cX11_isUnder 34 = .ok (.ireturn, 1) := by decide +kernel
theorem dX11_taken_0 : decode cX11_taken 0 = .ok (.iload_n 1, 1) := by decide +kernel
theorem dX11_taken_1 : decode cX11_taken 1 = .ok (.invokestatic 345, 3) := by decide +kernel
theorem dX11_taken_4 : decode cX11_taken 4 = .ok (.ifCond .eq 23, 3) := by decide +kernel
theorem dX11_taken_7 : decode cX11_taken 7 = .ok (.iload_n 2, 1) := by decide +kernel
theorem dX11_taken_8 : decode cX11_taken 8 = .ok (.iconst 0, 1) := by decide +kernel
theorem dX11_taken_9 : decode cX11_taken 9 = .ok (.iconst 5, 1) := by decide +kernel
theorem dX11_taken_10 : decode cX11_taken 10 = .ok (.invokestatic 83, 3) := by decide +kernel
theorem dX11_taken_13 : decode cX11_taken 13 = .ok (.ifCond .ne 16, 3) := by decide +kernel
theorem dX11_taken_16 : decode cX11_taken 16 = .ok (.iload_n 2, 1) := by decide +kernel
theorem dX11_taken_17 : decode cX11_taken 17 = .ok (.bipush 10, 2) := by decide +kernel
theorem dX11_taken_19 : decode cX11_taken 19 = .ok (.bipush 13, 2) := by decide +kernel
theorem dX11_taken_21 : decode cX11_taken 21 = .ok (.invokestatic 83, 3) := by decide +kernel
theorem dX11_taken_24 : decode cX11_taken 24 = .ok (.ifCond .ne 5, 3) := by decide +kernel
theorem dX11_taken_27 : decode cX11_taken 27 = .ok (.iconst (-1), 1) := by decide +kernel
theorem dX11_taken_28 : decode cX11_taken 28 = .ok (.ireturn, 1) := by decide +kernel
theorem dX11_taken_29 : decode cX11_taken 29 = .ok (.aload_n 0, 1) := by decide +kernel
theorem dX11_taken_30 : decode cX11_taken 30 = .ok (.iload_n 1, 1) := by decide +kernel
theorem dX11_taken_31 : decode cX11_taken 31 = .ok (.invokevirtual 356, 3) := by decide +kernel
theorem dX11_taken_34 : decode cX11_taken 34 = .ok (.istore_n 3, 1) := by decide +kernel
theorem dX11_taken_35 : decode cX11_taken 35 = .ok (.iload_n 3, 1) := by decide +kernel
theorem dX11_taken_36 : decode cX11_taken 36 = .ok (.ifCond .ge 6, 3) := by decide +kernel
theorem dX11_taken_39 : decode cX11_taken 39 = .ok (.bipush (-11), 2) := by decide +kernel
theorem dX11_taken_41 : decode cX11_taken 41 = .ok (.ireturn, 1) := by decide +kernel
theorem dX11_taken_42 : decode cX11_taken 42 = .ok (.iload_n 3, 1) := by decide +kernel
theorem dX11_taken_43 : decode cX11_taken 43 = .ok (.bipush 9, 2) := by decide +kernel
theorem dX11_taken_45 : decode cX11_taken 45 = .ok (.if_icmp .ne 28, 3) := by decide +kernel
theorem dX11_taken_48 : decode cX11_taken 48 = .ok (.iload_n 2, 1) := by decide +kernel
theorem dX11_taken_49 : decode cX11_taken 49 = .ok (.bipush 10, 2) := by decide +kernel
theorem dX11_taken_51 : decode cX11_taken 51 = .ok (.aload_n 0, 1) := by decide +kernel
theorem dX11_taken_52 : decode cX11_taken 52 = .ok (.getfield 68, 3) := by decide +kernel
theorem dX11_taken_55 : decode cX11_taken 55 = .ok (.iload_n 1, 1) := by decide +kernel
theorem dX11_taken_56 : decode cX11_taken 56 = .ok (.iaload, 1) := by decide +kernel
theorem dX11_taken_57 : decode cX11_taken 57 = .ok (.iadd, 1) := by decide +kernel
theorem dX11_taken_58 : decode cX11_taken 58 = .ok (.if_icmp .ne 12, 3) := by decide +kernel
theorem dX11_taken_61 : decode cX11_taken 61 = .ok (.aload_n 0, 1) := by decide +kernel
theorem dX11_taken_62 : decode cX11_taken 62 = .ok (.getfield 71, 3) := by decide +kernel
theorem dX11_taken_65 : decode cX11_taken 65 = .ok (.iload_n 1, 1) := by decide +kernel
theorem dX11_taken_66 : decode cX11_taken 66 = .ok (.iaload, 1) := by decide +kernel
theorem dX11_taken_67 : decode cX11_taken 67 = .ok (.goto 5, 3) := by decide +kernel
theorem dX11_taken_70 : decode cX11_taken 70 = .ok (.bipush (-13), 2) := by decide +kernel
theorem dX11_taken_72 : decode cX11_taken 72 = .ok (.ireturn, 1) := by decide +kernel
theorem dX11_taken_73 : decode cX11_taken 73 = .ok (.iload_n 2, 1) := by decide +kernel
theorem dX11_taken_74 : decode cX11_taken 74 = .ok (.bipush 10, 2) := by decide +kernel
theorem dX11_taken_76 : decode cX11_taken 76 = .ok (.if_icmp .ge 20, 3) := by decide +kernel
theorem dX11_taken_79 : decode cX11_taken 79 = .ok (.iload_n 3, 1) := by decide +kernel
theorem dX11_taken_80 : decode cX11_taken 80 = .ok (.iload_n 2, 1) := by decide +kernel
theorem dX11_taken_81 : decode cX11_taken 81 = .ok (.invokestatic 359, 3) := by decide +kernel
theorem dX11_taken_84 : decode cX11_taken 84 = .ok (.ifCond .eq 12, 3) := by decide +kernel
theorem dX11_taken_87 : decode cX11_taken 87 = .ok (.aload_n 0, 1) := by decide +kernel
theorem dX11_taken_88 : decode cX11_taken 88 = .ok (.getfield 68, 3) := by decide +kernel
theorem dX11_taken_91 : decode cX11_taken 91 = .ok (.iload_n 1, 1) := by decide +kernel
theorem dX11_taken_92 : decode cX11_taken 92 = .ok (.iaload, 1) := by decide +kernel
theorem dX11_taken_93 : decode cX11_taken 93 = .ok (.goto 5, 3) := by decide +kernel
theorem dX11_taken_96 : decode cX11_taken 96 = .ok (.bipush (-13), 2) := by decide +kernel
theorem dX11_taken_98 : decode cX11_taken 98 = .ok (.ireturn, 1) := by decide +kernel
theorem dX11_ran_0 : decode cX11_ran 0 = .ok (.aload_n 0, 1) := by decide +kernel
theorem dX11_ran_1 : decode cX11_ran 1 = .ok (.getfield 362, 3) := by decide +kernel
theorem dX11_ran_4 : decode cX11_ran 4 = .ok (.bipush 30, 2) := by decide +kernel
theorem dX11_ran_6 : decode cX11_ran 6 = .ok (.if_icmp .ge 23, 3) := by decide +kernel
theorem dX11_ran_9 : decode cX11_ran 9 = .ok (.aload_n 0, 1) := by decide +kernel
theorem dX11_ran_10 : decode cX11_ran 10 = .ok (.getfield 74, 3) := by decide +kernel
theorem dX11_ran_13 : decode cX11_ran 13 = .ok (.aload_n 0, 1) := by decide +kernel
theorem dX11_ran_14 : decode cX11_ran 14 = .ok (.getfield 362, 3) := by decide +kernel
theorem dX11_ran_17 : decode cX11_ran 17 = .ok (.iload_n 1, 1) := by decide +kernel
theorem dX11_ran_18 : decode cX11_ran 18 = .ok (.iastore, 1) := by decide +kernel
theorem dX11_ran_19 : decode cX11_ran 19 = .ok (.aload_n 0, 1) := by decide +kernel
theorem dX11_ran_20 : decode cX11_ran 20 = .ok (.dup, 1) := by decide +kernel
theorem dX11_ran_21 : decode cX11_ran 21 = .ok (.getfield 362, 3) := by decide +kernel
theorem dX11_ran_24 : decode cX11_ran 24 = .ok (.iconst 1, 1) := by decide +kernel
theorem dX11_ran_25 : decode cX11_ran 25 = .ok (.iadd, 1) := by decide +kernel
theorem dX11_ran_26 : decode cX11_ran 26 = .ok (.putfield 362, 3) := by decide +kernel
theorem dX11_ran_29 : decode cX11_ran 29 = .ok (.return_, 1) := by decide +kernel
theorem dX11_plainSays_0 : decode cX11_plainSays 0 = .ok (.aload_n 0, 1) := by decide +kernel
theorem dX11_plainSays_1 : decode cX11_plainSays 1 = .ok (.bipush 10, 2) := by decide +kernel
theorem dX11_plainSays_3 : decode cX11_plainSays 3 = .ok (.invokevirtual 365, 3) := by decide +kernel
theorem dX11_plainSays_6 : decode cX11_plainSays 6 = .ok (.iload_n 1, 1) := by decide +kernel
theorem dX11_plainSays_7 : decode cX11_plainSays 7 = .ok (.aload_n 0, 1) := by decide +kernel
theorem dX11_plainSays_8 : decode cX11_plainSays 8 = .ok (.getfield 368, 3) := by decide +kernel
theorem dX11_plainSays_11 : decode cX11_plainSays 11 = .ok (.iadd, 1) := by decide +kernel
theorem dX11_plainSays_12 : decode cX11_plainSays 12 = .ok (.ireturn, 1) := by decide +kernel
theorem dX11_lateSays_0 : decode cX11_lateSays 0 = .ok (.aload_n 0, 1) := by decide +kernel
theorem dX11_lateSays_1 : decode cX11_lateSays 1 = .ok (.bipush 30, 2) := by decide +kernel
theorem dX11_lateSays_3 : decode cX11_lateSays 3 = .ok (.invokevirtual 365, 3) := by decide +kernel
theorem dX11_lateSays_6 : decode cX11_lateSays 6 = .ok (.aload_n 0, 1) := by decide +kernel
theorem dX11_lateSays_7 : decode cX11_lateSays 7 = .ok (.iload_n 1, 1) := by decide +kernel
theorem dX11_lateSays_8 : decode cX11_lateSays 8 = .ok (.invokevirtual 371, 3) := by decide +kernel
theorem dX11_lateSays_11 : decode cX11_lateSays 11 = .ok (.iconst 3, 1) := by decide +kernel
theorem dX11_lateSays_12 : decode cX11_lateSays 12 = .ok (.imul, 1) := by decide +kernel
theorem dX11_lateSays_13 : decode cX11_lateSays 13 = .ok (.ireturn, 1) := by decide +kernel
theorem dX11_saysIt_0 : decode cX11_saysIt 0 = .ok (.aload_n 0, 1) := by decide +kernel
theorem dX11_saysIt_1 : decode cX11_saysIt 1 = .ok (.getfield 374, 3) := by decide +kernel
theorem dX11_saysIt_4 : decode cX11_saysIt 4 = .ok (.tableswitch 65 2 4 #[28, 34, 48], 28) := by decide +kernel
theorem dX11_saysIt_32 : decode cX11_saysIt 32 = .ok (.aload_n 0, 1) := by decide +kernel
theorem dX11_saysIt_33 : decode cX11_saysIt 33 = .ok (.iload_n 1, 1) := by decide +kernel
theorem dX11_saysIt_34 : decode cX11_saysIt 34 = .ok (.invokevirtual 377, 3) := by decide +kernel
theorem dX11_saysIt_37 : decode cX11_saysIt 37 = .ok (.ireturn, 1) := by decide +kernel
theorem dX11_saysIt_38 : decode cX11_saysIt 38 = .ok (.aload_n 0, 1) := by decide +kernel
theorem dX11_saysIt_39 : decode cX11_saysIt 39 = .ok (.bipush 40, 2) := by decide +kernel
theorem dX11_saysIt_41 : decode cX11_saysIt 41 = .ok (.invokevirtual 365, 3) := by decide +kernel
theorem dX11_saysIt_44 : decode cX11_saysIt 44 = .ok (.iconst 0, 1) := by decide +kernel
theorem dX11_saysIt_45 : decode cX11_saysIt 45 = .ok (.aload_n 0, 1) := by decide +kernel
theorem dX11_saysIt_46 : decode cX11_saysIt 46 = .ok (.iload_n 1, 1) := by decide +kernel
theorem dX11_saysIt_47 : decode cX11_saysIt 47 = .ok (.invokevirtual 377, 3) := by decide +kernel
theorem dX11_saysIt_50 : decode cX11_saysIt 50 = .ok (.isub, 1) := by decide +kernel
theorem dX11_saysIt_51 : decode cX11_saysIt 51 = .ok (.ireturn, 1) := by decide +kernel
theorem dX11_saysIt_52 : decode cX11_saysIt 52 = .ok (.aload_n 0, 1) := by decide +kernel
theorem dX11_saysIt_53 : decode cX11_saysIt 53 = .ok (.bipush 51, 2) := by decide +kernel
theorem dX11_saysIt_55 : decode cX11_saysIt 55 = .ok (.invokevirtual 365, 3) := by decide +kernel
theorem dX11_saysIt_58 : decode cX11_saysIt 58 = .ok (.aload_n 0, 1) := by decide +kernel
theorem dX11_saysIt_59 : decode cX11_saysIt 59 = .ok (.iload_n 1, 1) := by decide +kernel
theorem dX11_saysIt_60 : decode cX11_saysIt 60 = .ok (.invokevirtual 371, 3) := by decide +kernel
theorem dX11_saysIt_63 : decode cX11_saysIt 63 = .ok (.aload_n 0, 1) := by decide +kernel
theorem dX11_saysIt_64 : decode cX11_saysIt 64 = .ok (.getfield 368, 3) := by decide +kernel
theorem dX11_saysIt_67 : decode cX11_saysIt 67 = .ok (.isub, 1) := by decide +kernel
theorem dX11_saysIt_68 : decode cX11_saysIt 68 = .ok (.ireturn, 1) := by decide +kernel
theorem dX11_saysIt_69 : decode cX11_saysIt 69 = .ok (.aload_n 0, 1) := by decide +kernel
theorem dX11_saysIt_70 : decode cX11_saysIt 70 = .ok (.iload_n 1, 1) := by decide +kernel
theorem dX11_saysIt_71 : decode cX11_saysIt 71 = .ok (.invokevirtual 371, 3) := by decide +kernel
theorem dX11_saysIt_74 : decode cX11_saysIt 74 = .ok (.ireturn, 1) := by decide +kernel
theorem dX11_plainWaits_0 : decode cX11_plainWaits 0 = .ok (.aload_n 0, 1) := by decide +kernel
theorem dX11_plainWaits_1 : decode cX11_plainWaits 1 = .ok (.bipush 11, 2) := by decide +kernel
theorem dX11_plainWaits_3 : decode cX11_plainWaits 3 = .ok (.invokevirtual 365, 3) := by decide +kernel
theorem dX11_plainWaits_6 : decode cX11_plainWaits 6 = .ok (.aload_n 0, 1) := by decide +kernel
theorem dX11_plainWaits_7 : decode cX11_plainWaits 7 = .ok (.iload_n 1, 1) := by decide +kernel
theorem dX11_plainWaits_8 : decode cX11_plainWaits 8 = .ok (.invokevirtual 380, 3) := by decide +kernel
theorem dX11_plainWaits_11 : decode cX11_plainWaits 11 = .ok (.iconst 2, 1) := by decide +kernel
theorem dX11_plainWaits_12 : decode cX11_plainWaits 12 = .ok (.imul, 1) := by decide +kernel
theorem dX11_plainWaits_13 : decode cX11_plainWaits 13 = .ok (.ireturn, 1) := by decide +kernel
theorem dX11_waitsIt_0 : decode cX11_waitsIt 0 = .ok (.aload_n 0, 1) := by decide +kernel
theorem dX11_waitsIt_1 : decode cX11_waitsIt 1 = .ok (.getfield 374, 3) := by decide +kernel
theorem dX11_waitsIt_4 : decode cX11_waitsIt 4 = .ok (.iconst 1, 1) := by decide +kernel
theorem dX11_waitsIt_5 : decode cX11_waitsIt 5 = .ok (.if_icmp .eq 11, 3) := by decide +kernel
theorem dX11_waitsIt_8 : decode cX11_waitsIt 8 = .ok (.aload_n 0, 1) := by decide +kernel
theorem dX11_waitsIt_9 : decode cX11_waitsIt 9 = .ok (.getfield 374, 3) := by decide +kernel
theorem dX11_waitsIt_12 : decode cX11_waitsIt 12 = .ok (.iconst 4, 1) := by decide +kernel
theorem dX11_waitsIt_13 : decode cX11_waitsIt 13 = .ok (.if_icmp .ne 20, 3) := by decide +kernel
theorem dX11_waitsIt_16 : decode cX11_waitsIt 16 = .ok (.aload_n 0, 1) := by decide +kernel
theorem dX11_waitsIt_17 : decode cX11_waitsIt 17 = .ok (.bipush 20, 2) := by decide +kernel
theorem dX11_waitsIt_19 : decode cX11_waitsIt 19 = .ok (.invokevirtual 365, 3) := by decide +kernel
theorem dX11_waitsIt_22 : decode cX11_waitsIt 22 = .ok (.aload_n 0, 1) := by decide +kernel
theorem dX11_waitsIt_23 : decode cX11_waitsIt 23 = .ok (.iload_n 1, 1) := by decide +kernel
theorem dX11_waitsIt_24 : decode cX11_waitsIt 24 = .ok (.invokevirtual 383, 3) := by decide +kernel
theorem dX11_waitsIt_27 : decode cX11_waitsIt 27 = .ok (.aload_n 0, 1) := by decide +kernel
theorem dX11_waitsIt_28 : decode cX11_waitsIt 28 = .ok (.getfield 386, 3) := by decide +kernel
theorem dX11_waitsIt_31 : decode cX11_waitsIt 31 = .ok (.isub, 1) := by decide +kernel
theorem dX11_waitsIt_32 : decode cX11_waitsIt 32 = .ok (.ireturn, 1) := by decide +kernel
theorem dX11_waitsIt_33 : decode cX11_waitsIt 33 = .ok (.aload_n 0, 1) := by decide +kernel
theorem dX11_waitsIt_34 : decode cX11_waitsIt 34 = .ok (.getfield 374, 3) := by decide +kernel
theorem dX11_waitsIt_37 : decode cX11_waitsIt 37 = .ok (.iconst 3, 1) := by decide +kernel
theorem dX11_waitsIt_38 : decode cX11_waitsIt 38 = .ok (.if_icmp .ne 26, 3) := by decide +kernel
theorem dX11_waitsIt_41 : decode cX11_waitsIt 41 = .ok (.aload_n 0, 1) := by decide +kernel
theorem dX11_waitsIt_42 : decode cX11_waitsIt 42 = .ok (.bipush 41, 2) := by decide +kernel
theorem dX11_waitsIt_44 : decode cX11_waitsIt 44 = .ok (.invokevirtual 365, 3) := by decide +kernel
theorem dX11_waitsIt_47 : decode cX11_waitsIt 47 = .ok (.aload_n 0, 1) := by decide +kernel
theorem dX11_waitsIt_48 : decode cX11_waitsIt 48 = .ok (.iload_n 1, 1) := by decide +kernel
theorem dX11_waitsIt_49 : decode cX11_waitsIt 49 = .ok (.invokevirtual 383, 3) := by decide +kernel
theorem dX11_waitsIt_52 : decode cX11_waitsIt 52 = .ok (.istore_n 2, 1) := by decide +kernel
theorem dX11_waitsIt_53 : decode cX11_waitsIt 53 = .ok (.iload_n 2, 1) := by decide +kernel
theorem dX11_waitsIt_54 : decode cX11_waitsIt 54 = .ok (.aload_n 0, 1) := by decide +kernel
theorem dX11_waitsIt_55 : decode cX11_waitsIt 55 = .ok (.aload_n 0, 1) := by decide +kernel
theorem dX11_waitsIt_56 : decode cX11_waitsIt 56 = .ok (.getfield 368, 3) := by decide +kernel
theorem dX11_waitsIt_59 : decode cX11_waitsIt 59 = .ok (.invokevirtual 380, 3) := by decide +kernel
theorem dX11_waitsIt_62 : decode cX11_waitsIt 62 = .ok (.iadd, 1) := by decide +kernel
theorem dX11_waitsIt_63 : decode cX11_waitsIt 63 = .ok (.ireturn, 1) := by decide +kernel
theorem dX11_waitsIt_64 : decode cX11_waitsIt 64 = .ok (.aload_n 0, 1) := by decide +kernel
theorem dX11_waitsIt_65 : decode cX11_waitsIt 65 = .ok (.iload_n 1, 1) := by decide +kernel
theorem dX11_waitsIt_66 : decode cX11_waitsIt 66 = .ok (.invokevirtual 383, 3) := by decide +kernel
theorem dX11_waitsIt_69 : decode cX11_waitsIt 69 = .ok (.ireturn, 1) := by decide +kernel
theorem dX11_plainShares_0 : decode cX11_plainShares 0 = .ok (.aload_n 0, 1) := by decide +kernel
theorem dX11_plainShares_1 : decode cX11_plainShares 1 = .ok (.bipush 12, 2) := by decide +kernel
theorem dX11_plainShares_3 : decode cX11_plainShares 3 = .ok (.invokevirtual 365, 3) := by decide +kernel
theorem dX11_plainShares_6 : decode cX11_plainShares 6 = .ok (.aload_n 0, 1) := by decide +kernel
theorem dX11_plainShares_7 : decode cX11_plainShares 7 = .ok (.getfield 386, 3) := by decide +kernel
theorem dX11_plainShares_10 : decode cX11_plainShares 10 = .ok (.aload_n 0, 1) := by decide +kernel
theorem dX11_plainShares_11 : decode cX11_plainShares 11 = .ok (.getfield 368, 3) := by decide +kernel
theorem dX11_plainShares_14 : decode cX11_plainShares 14 = .ok (.if_icmp .ne 10, 3) := by decide +kernel
theorem dX11_plainShares_17 : decode cX11_plainShares 17 = .ok (.aload_n 0, 1) := by decide +kernel
theorem dX11_plainShares_18 : decode cX11_plainShares 18 = .ok (.iconst 1, 1) := by decide +kernel
theorem dX11_plainShares_19 : decode cX11_plainShares 19 = .ok (.putfield 389, 3) := by decide +kernel
theorem dX11_plainShares_22 : decode cX11_plainShares 22 = .ok (.iconst 0, 1) := by decide +kernel
theorem dX11_plainShares_23 : decode cX11_plainShares 23 = .ok (.ireturn, 1) := by decide +kernel
theorem dX11_plainShares_24 : decode cX11_plainShares 24 = .ok (.iload_n 1, 1) := by decide +kernel
theorem dX11_plainShares_25 : decode cX11_plainShares 25 = .ok (.aload_n 0, 1) := by decide +kernel
theorem dX11_plainShares_26 : decode cX11_plainShares 26 = .ok (.getfield 386, 3) := by decide +kernel
theorem dX11_plainShares_29 : decode cX11_plainShares 29 = .ok (.aload_n 0, 1) := by decide +kernel
theorem dX11_plainShares_30 : decode cX11_plainShares 30 = .ok (.getfield 368, 3) := by decide +kernel
theorem dX11_plainShares_33 : decode cX11_plainShares 33 = .ok (.isub, 1) := by decide +kernel
theorem dX11_plainShares_34 : decode cX11_plainShares 34 = .ok (.idiv, 1) := by decide +kernel
theorem dX11_plainShares_35 : decode cX11_plainShares 35 = .ok (.ireturn, 1) := by decide +kernel
theorem dX11_sharesIt_0 : decode cX11_sharesIt 0 = .ok (.aload_n 0, 1) := by decide +kernel
theorem dX11_sharesIt_1 : decode cX11_sharesIt 1 = .ok (.getfield 374, 3) := by decide +kernel
theorem dX11_sharesIt_4 : decode cX11_sharesIt 4 = .ok (.iconst 4, 1) := by decide +kernel
theorem dX11_sharesIt_5 : decode cX11_sharesIt 5 = .ok (.if_icmp .ne 19, 3) := by decide +kernel
theorem dX11_sharesIt_8 : decode cX11_sharesIt 8 = .ok (.aload_n 0, 1) := by decide +kernel
theorem dX11_sharesIt_9 : decode cX11_sharesIt 9 = .ok (.bipush 50, 2) := by decide +kernel
theorem dX11_sharesIt_11 : decode cX11_sharesIt 11 = .ok (.invokevirtual 365, 3) := by decide +kernel
theorem dX11_sharesIt_14 : decode cX11_sharesIt 14 = .ok (.aload_n 0, 1) := by decide +kernel
theorem dX11_sharesIt_15 : decode cX11_sharesIt 15 = .ok (.iload_n 1, 1) := by decide +kernel
theorem dX11_sharesIt_16 : decode cX11_sharesIt 16 = .ok (.iconst 2, 1) := by decide +kernel
theorem dX11_sharesIt_17 : decode cX11_sharesIt 17 = .ok (.iadd, 1) := by decide +kernel
theorem dX11_sharesIt_18 : decode cX11_sharesIt 18 = .ok (.invokevirtual 392, 3) := by decide +kernel
theorem dX11_sharesIt_21 : decode cX11_sharesIt 21 = .ok (.iconst 1, 1) := by decide +kernel
theorem dX11_sharesIt_22 : decode cX11_sharesIt 22 = .ok (.ixor, 1) := by decide +kernel
theorem dX11_sharesIt_23 : decode cX11_sharesIt 23 = .ok (.ireturn, 1) := by decide +kernel
theorem dX11_sharesIt_24 : decode cX11_sharesIt 24 = .ok (.aload_n 0, 1) := by decide +kernel
theorem dX11_sharesIt_25 : decode cX11_sharesIt 25 = .ok (.getfield 374, 3) := by decide +kernel
theorem dX11_sharesIt_28 : decode cX11_sharesIt 28 = .ok (.iconst 5, 1) := by decide +kernel
theorem dX11_sharesIt_29 : decode cX11_sharesIt 29 = .ok (.if_icmp .ne 37, 3) := by decide +kernel
theorem dX11_sharesIt_32 : decode cX11_sharesIt 32 = .ok (.aload_n 0, 1) := by decide +kernel
theorem dX11_sharesIt_33 : decode cX11_sharesIt 33 = .ok (.bipush 61, 2) := by decide +kernel
theorem dX11_sharesIt_35 : decode cX11_sharesIt 35 = .ok (.invokevirtual 365, 3) := by decide +kernel
theorem dX11_sharesIt_38 : decode cX11_sharesIt 38 = .ok (.aload_n 0, 1) := by decide +kernel
theorem dX11_sharesIt_39 : decode cX11_sharesIt 39 = .ok (.iload_n 1, 1) := by decide +kernel
theorem dX11_sharesIt_40 : decode cX11_sharesIt 40 = .ok (.invokevirtual 392, 3) := by decide +kernel
theorem dX11_sharesIt_43 : decode cX11_sharesIt 43 = .ok (.istore_n 2, 1) := by decide +kernel
theorem dX11_sharesIt_44 : decode cX11_sharesIt 44 = .ok (.aload_n 0, 1) := by decide +kernel
theorem dX11_sharesIt_45 : decode cX11_sharesIt 45 = .ok (.getfield 389, 3) := by decide +kernel
theorem dX11_sharesIt_48 : decode cX11_sharesIt 48 = .ok (.ifCond .eq 7, 3) := by decide +kernel
theorem dX11_sharesIt_51 : decode cX11_sharesIt 51 = .ok (.iconst 0, 1) := by decide +kernel
theorem dX11_sharesIt_52 : decode cX11_sharesIt 52 = .ok (.goto 13, 3) := by decide +kernel
theorem dX11_sharesIt_55 : decode cX11_sharesIt 55 = .ok (.iload_n 2, 1) := by decide +kernel
theorem dX11_sharesIt_56 : decode cX11_sharesIt 56 = .ok (.aload_n 0, 1) := by decide +kernel
theorem dX11_sharesIt_57 : decode cX11_sharesIt 57 = .ok (.aload_n 0, 1) := by decide +kernel
theorem dX11_sharesIt_58 : decode cX11_sharesIt 58 = .ok (.getfield 386, 3) := by decide +kernel
theorem dX11_sharesIt_61 : decode cX11_sharesIt 61 = .ok (.invokevirtual 380, 3) := by decide +kernel
theorem dX11_sharesIt_64 : decode cX11_sharesIt 64 = .ok (.iadd, 1) := by decide +kernel
theorem dX11_sharesIt_65 : decode cX11_sharesIt 65 = .ok (.ireturn, 1) := by decide +kernel
theorem dX11_sharesIt_66 : decode cX11_sharesIt 66 = .ok (.aload_n 0, 1) := by decide +kernel
theorem dX11_sharesIt_67 : decode cX11_sharesIt 67 = .ok (.iload_n 1, 1) := by decide +kernel
theorem dX11_sharesIt_68 : decode cX11_sharesIt 68 = .ok (.invokevirtual 392, 3) := by decide +kernel
theorem dX11_sharesIt_71 : decode cX11_sharesIt 71 = .ok (.ireturn, 1) := by decide +kernel
theorem dX11_plainTells_0 : decode cX11_plainTells 0 = .ok (.aload_n 0, 1) := by decide +kernel
theorem dX11_plainTells_1 : decode cX11_plainTells 1 = .ok (.bipush 13, 2) := by decide +kernel
theorem dX11_plainTells_3 : decode cX11_plainTells 3 = .ok (.invokevirtual 365, 3) := by decide +kernel
theorem dX11_plainTells_6 : decode cX11_plainTells 6 = .ok (.aload_n 0, 1) := by decide +kernel
theorem dX11_plainTells_7 : decode cX11_plainTells 7 = .ok (.iload_n 1, 1) := by decide +kernel
theorem dX11_plainTells_8 : decode cX11_plainTells 8 = .ok (.invokevirtual 395, 3) := by decide +kernel
theorem dX11_plainTells_11 : decode cX11_plainTells 11 = .ok (.aload_n 0, 1) := by decide +kernel
theorem dX11_plainTells_12 : decode cX11_plainTells 12 = .ok (.getfield 386, 3) := by decide +kernel
theorem dX11_plainTells_15 : decode cX11_plainTells 15 = .ok (.ixor, 1) := by decide +kernel
theorem dX11_plainTells_16 : decode cX11_plainTells 16 = .ok (.ireturn, 1) := by decide +kernel
theorem dX11_tellsIt_0 : decode cX11_tellsIt 0 = .ok (.aload_n 0, 1) := by decide +kernel
theorem dX11_tellsIt_1 : decode cX11_tellsIt 1 = .ok (.getfield 374, 3) := by decide +kernel
theorem dX11_tellsIt_4 : decode cX11_tellsIt 4 = .ok (.iconst 2, 1) := by decide +kernel
theorem dX11_tellsIt_5 : decode cX11_tellsIt 5 = .ok (.if_icmp .eq 11, 3) := by decide +kernel
theorem dX11_tellsIt_8 : decode cX11_tellsIt 8 = .ok (.aload_n 0, 1) := by decide +kernel
theorem dX11_tellsIt_9 : decode cX11_tellsIt 9 = .ok (.getfield 374, 3) := by decide +kernel
theorem dX11_tellsIt_12 : decode cX11_tellsIt 12 = .ok (.iconst 3, 1) := by decide +kernel
theorem dX11_tellsIt_13 : decode cX11_tellsIt 13 = .ok (.if_icmp .ne 26, 3) := by decide +kernel
theorem dX11_tellsIt_16 : decode cX11_tellsIt 16 = .ok (.aload_n 0, 1) := by decide +kernel
theorem dX11_tellsIt_17 : decode cX11_tellsIt 17 = .ok (.bipush 31, 2) := by decide +kernel
theorem dX11_tellsIt_19 : decode cX11_tellsIt 19 = .ok (.invokevirtual 365, 3) := by decide +kernel
theorem dX11_tellsIt_22 : decode cX11_tellsIt 22 = .ok (.aload_n 0, 1) := by decide +kernel
theorem dX11_tellsIt_23 : decode cX11_tellsIt 23 = .ok (.iload_n 1, 1) := by decide +kernel
theorem dX11_tellsIt_24 : decode cX11_tellsIt 24 = .ok (.invokevirtual 398, 3) := by decide +kernel
theorem dX11_tellsIt_27 : decode cX11_tellsIt 27 = .ok (.istore_n 2, 1) := by decide +kernel
theorem dX11_tellsIt_28 : decode cX11_tellsIt 28 = .ok (.iload_n 2, 1) := by decide +kernel
theorem dX11_tellsIt_29 : decode cX11_tellsIt 29 = .ok (.aload_n 0, 1) := by decide +kernel
theorem dX11_tellsIt_30 : decode cX11_tellsIt 30 = .ok (.aload_n 0, 1) := by decide +kernel
theorem dX11_tellsIt_31 : decode cX11_tellsIt 31 = .ok (.getfield 368, 3) := by decide +kernel
theorem dX11_tellsIt_34 : decode cX11_tellsIt 34 = .ok (.invokevirtual 401, 3) := by decide +kernel
theorem dX11_tellsIt_37 : decode cX11_tellsIt 37 = .ok (.iadd, 1) := by decide +kernel
theorem dX11_tellsIt_38 : decode cX11_tellsIt 38 = .ok (.ireturn, 1) := by decide +kernel
theorem dX11_tellsIt_39 : decode cX11_tellsIt 39 = .ok (.aload_n 0, 1) := by decide +kernel
theorem dX11_tellsIt_40 : decode cX11_tellsIt 40 = .ok (.getfield 374, 3) := by decide +kernel
theorem dX11_tellsIt_43 : decode cX11_tellsIt 43 = .ok (.iconst 5, 1) := by decide +kernel
theorem dX11_tellsIt_44 : decode cX11_tellsIt 44 = .ok (.if_icmp .ne 17, 3) := by decide +kernel
theorem dX11_tellsIt_47 : decode cX11_tellsIt 47 = .ok (.aload_n 0, 1) := by decide +kernel
theorem dX11_tellsIt_48 : decode cX11_tellsIt 48 = .ok (.bipush 60, 2) := by decide +kernel
theorem dX11_tellsIt_50 : decode cX11_tellsIt 50 = .ok (.invokevirtual 365, 3) := by decide +kernel
theorem dX11_tellsIt_53 : decode cX11_tellsIt 53 = .ok (.aload_n 0, 1) := by decide +kernel
theorem dX11_tellsIt_54 : decode cX11_tellsIt 54 = .ok (.iload_n 1, 1) := by decide +kernel
theorem dX11_tellsIt_55 : decode cX11_tellsIt 55 = .ok (.invokevirtual 398, 3) := by decide +kernel
theorem dX11_tellsIt_58 : decode cX11_tellsIt 58 = .ok (.iconst 2, 1) := by decide +kernel
theorem dX11_tellsIt_59 : decode cX11_tellsIt 59 = .ok (.imul, 1) := by decide +kernel
theorem dX11_tellsIt_60 : decode cX11_tellsIt 60 = .ok (.ireturn, 1) := by decide +kernel
theorem dX11_tellsIt_61 : decode cX11_tellsIt 61 = .ok (.aload_n 0, 1) := by decide +kernel
theorem dX11_tellsIt_62 : decode cX11_tellsIt 62 = .ok (.iload_n 1, 1) := by decide +kernel
theorem dX11_tellsIt_63 : decode cX11_tellsIt 63 = .ok (.invokevirtual 398, 3) := by decide +kernel
theorem dX11_tellsIt_66 : decode cX11_tellsIt 66 = .ok (.ireturn, 1) := by decide +kernel
theorem dX11_act_0 : decode cX11_act 0 = .ok (.aload_n 0, 1) := by decide +kernel
theorem dX11_act_1 : decode cX11_act 1 = .ok (.iconst 0, 1) := by decide +kernel
theorem dX11_act_2 : decode cX11_act 2 = .ok (.putfield 362, 3) := by decide +kernel
theorem dX11_act_5 : decode cX11_act 5 = .ok (.iload_n 1, 1) := by decide +kernel
theorem dX11_act_6 : decode cX11_act 6 = .ok (.invokestatic 345, 3) := by decide +kernel
theorem dX11_act_9 : decode cX11_act 9 = .ok (.ifCond .eq 11, 3) := by decide +kernel
theorem dX11_act_12 : decode cX11_act 12 = .ok (.aload_n 0, 1) := by decide +kernel
theorem dX11_act_13 : decode cX11_act 13 = .ok (.iload_n 1, 1) := by decide +kernel
theorem dX11_act_14 : decode cX11_act 14 = .ok (.invokevirtual 356, 3) := by decide +kernel
theorem dX11_act_17 : decode cX11_act 17 = .ok (.goto 4, 3) := by decide +kernel
theorem dX11_act_20 : decode cX11_act 20 = .ok (.iconst (-1), 1) := by decide +kernel
theorem dX11_act_21 : decode cX11_act 21 = .ok (.istore 4, 2) := by decide +kernel
theorem dX11_act_23 : decode cX11_act 23 = .ok (.iload_n 2, 1) := by decide +kernel
theorem dX11_act_24 : decode cX11_act 24 = .ok (.iconst 0, 1) := by decide +kernel
theorem dX11_act_25 : decode cX11_act 25 = .ok (.iconst 3, 1) := by decide +kernel
theorem dX11_act_26 : decode cX11_act 26 = .ok (.invokestatic 83, 3) := by decide +kernel
theorem dX11_act_29 : decode cX11_act 29 = .ok (.ifCond .eq 13, 3) := by decide +kernel
theorem dX11_act_32 : decode cX11_act 32 = .ok (.iload 4, 2) := by decide +kernel
theorem dX11_act_34 : decode cX11_act 34 = .ok (.iconst 0, 1) := by decide +kernel
theorem dX11_act_35 : decode cX11_act 35 = .ok (.iconst 5, 1) := by decide +kernel
theorem dX11_act_36 : decode cX11_act 36 = .ok (.invokestatic 83, 3) := by decide +kernel
theorem dX11_act_39 : decode cX11_act 39 = .ok (.ifCond .ne 5, 3) := by decide +kernel
theorem dX11_act_42 : decode cX11_act 42 = .ok (.iconst 0, 1) := by decide +kernel
theorem dX11_act_43 : decode cX11_act 43 = .ok (.ireturn, 1) := by decide +kernel
theorem dX11_act_44 : decode cX11_act 44 = .ok (.aload_n 0, 1) := by decide +kernel
theorem dX11_act_45 : decode cX11_act 45 = .ok (.iload 4, 2) := by decide +kernel
theorem dX11_act_47 : decode cX11_act 47 = .ok (.putfield 374, 3) := by decide +kernel
theorem dX11_act_50 : decode cX11_act 50 = .ok (.aload_n 0, 1) := by decide +kernel
theorem dX11_act_51 : decode cX11_act 51 = .ok (.aload_n 0, 1) := by decide +kernel
theorem dX11_act_52 : decode cX11_act 52 = .ok (.getfield 68, 3) := by decide +kernel
theorem dX11_act_55 : decode cX11_act 55 = .ok (.iload_n 1, 1) := by decide +kernel
theorem dX11_act_56 : decode cX11_act 56 = .ok (.iaload, 1) := by decide +kernel
theorem dX11_act_57 : decode cX11_act 57 = .ok (.putfield 368, 3) := by decide +kernel
theorem dX11_act_60 : decode cX11_act 60 = .ok (.aload_n 0, 1) := by decide +kernel
theorem dX11_act_61 : decode cX11_act 61 = .ok (.aload_n 0, 1) := by decide +kernel
theorem dX11_act_62 : decode cX11_act 62 = .ok (.aload_n 0, 1) := by decide +kernel
theorem dX11_act_63 : decode cX11_act 63 = .ok (.getfield 368, 3) := by decide +kernel
theorem dX11_act_66 : decode cX11_act 66 = .ok (.invokevirtual 253, 3) := by decide +kernel
theorem dX11_act_69 : decode cX11_act 69 = .ok (.putfield 386, 3) := by decide +kernel
theorem dX11_act_72 : decode cX11_act 72 = .ok (.aload_n 0, 1) := by decide +kernel
theorem dX11_act_73 : decode cX11_act 73 = .ok (.iconst 0, 1) := by decide +kernel
theorem dX11_act_74 : decode cX11_act 74 = .ok (.putfield 389, 3) := by decide +kernel
theorem dX11_act_77 : decode cX11_act 77 = .ok (.iload_n 2, 1) := by decide +kernel
theorem dX11_act_78 : decode cX11_act 78 = .ok (.ifCond .ne 11, 3) := by decide +kernel
theorem dX11_act_81 : decode cX11_act 81 = .ok (.aload_n 0, 1) := by decide +kernel
theorem dX11_act_82 : decode cX11_act 82 = .ok (.iload_n 3, 1) := by decide +kernel
theorem dX11_act_83 : decode cX11_act 83 = .ok (.invokevirtual 380, 3) := by decide +kernel
theorem dX11_act_86 : decode cX11_act 86 = .ok (.goto 34, 3) := by decide +kernel
theorem dX11_act_89 : decode cX11_act 89 = .ok (.iload_n 2, 1) := by decide +kernel
theorem dX11_act_90 : decode cX11_act 90 = .ok (.iconst 1, 1) := by decide +kernel
theorem dX11_act_91 : decode cX11_act 91 = .ok (.if_icmp .ne 11, 3) := by decide +kernel
theorem dX11_act_94 : decode cX11_act 94 = .ok (.aload_n 0, 1) := by decide +kernel
theorem dX11_act_95 : decode cX11_act 95 = .ok (.iload_n 3, 1) := by decide +kernel
theorem dX11_act_96 : decode cX11_act 96 = .ok (.invokevirtual 395, 3) := by decide +kernel
theorem dX11_act_99 : decode cX11_act 99 = .ok (.goto 21, 3) := by decide +kernel
theorem dX11_act_102 : decode cX11_act 102 = .ok (.iload_n 2, 1) := by decide +kernel
theorem dX11_act_103 : decode cX11_act 103 = .ok (.iconst 2, 1) := by decide +kernel
theorem dX11_act_104 : decode cX11_act 104 = .ok (.if_icmp .ne 11, 3) := by decide +kernel
theorem dX11_act_107 : decode cX11_act 107 = .ok (.aload_n 0, 1) := by decide +kernel
theorem dX11_act_108 : decode cX11_act 108 = .ok (.iload_n 3, 1) := by decide +kernel
theorem dX11_act_109 : decode cX11_act 109 = .ok (.invokevirtual 401, 3) := by decide +kernel
theorem dX11_act_112 : decode cX11_act 112 = .ok (.goto 8, 3) := by decide +kernel
theorem dX11_act_115 : decode cX11_act 115 = .ok (.aload_n 0, 1) := by decide +kernel
theorem dX11_act_116 : decode cX11_act 116 = .ok (.iload_n 3, 1) := by decide +kernel
theorem dX11_act_117 : decode cX11_act 117 = .ok (.invokevirtual 404, 3) := by decide +kernel
theorem dX11_act_120 : decode cX11_act 120 = .ok (.istore 5, 2) := by decide +kernel
theorem dX11_act_122 : decode cX11_act 122 = .ok (.aload_n 0, 1) := by decide +kernel
theorem dX11_act_123 : decode cX11_act 123 = .ok (.getfield 389, 3) := by decide +kernel
theorem dX11_act_126 : decode cX11_act 126 = .ok (.ifCond .eq 8, 3) := by decide +kernel
theorem dX11_act_129 : decode cX11_act 129 = .ok (.bipush (-15), 2) := by decide +kernel
theorem dX11_act_131 : decode cX11_act 131 = .ok (.goto 5, 3) := by decide +kernel
theorem dX11_act_134 : decode cX11_act 134 = .ok (.iload 5, 2) := by decide +kernel
theorem dX11_act_136 : decode cX11_act 136 = .ok (.ireturn, 1) := by decide +kernel
theorem dX11_trace_0 : decode cX11_trace 0 = .ok (.iload_n 1, 1) := by decide +kernel
theorem dX11_trace_1 : decode cX11_trace 1 = .ok (.iconst 0, 1) := by decide +kernel
theorem dX11_trace_2 : decode cX11_trace 2 = .ok (.aload_n 0, 1) := by decide +kernel
theorem dX11_trace_3 : decode cX11_trace 3 = .ok (.getfield 362, 3) := by decide +kernel
theorem dX11_trace_6 : decode cX11_trace 6 = .ok (.iconst 1, 1) := by decide +kernel
theorem dX11_trace_7 : decode cX11_trace 7 = .ok (.isub, 1) := by decide +kernel
theorem dX11_trace_8 : decode cX11_trace 8 = .ok (.invokestatic 83, 3) := by decide +kernel
theorem dX11_trace_11 : decode cX11_trace 11 = .ok (.ifCond .eq 12, 3) := by decide +kernel
theorem dX11_trace_14 : decode cX11_trace 14 = .ok (.aload_n 0, 1) := by decide +kernel
theorem dX11_trace_15 : decode cX11_trace 15 = .ok (.getfield 74, 3) := by decide +kernel
theorem dX11_trace_18 : decode cX11_trace 18 = .ok (.iload_n 1, 1) := by decide +kernel
theorem dX11_trace_19 : decode cX11_trace 19 = .ok (.iaload, 1) := by decide +kernel
theorem dX11_trace_20 : decode cX11_trace 20 = .ok (.goto 5, 3) := by decide +kernel
theorem dX11_trace_23 : decode cX11_trace 23 = .ok (.bipush (-3), 2) := by decide +kernel
theorem dX11_trace_25 : decode cX11_trace 25 = .ok (.ireturn, 1) := by decide +kernel
theorem dX11_many_0 : decode cX11_many 0 = .ok (.iload_n 1, 1) := by decide +kernel
theorem dX11_many_1 : decode cX11_many 1 = .ok (.tableswitch 73 0 5 #[39, 44, 51, 58, 63, 68], 39) := by decide +kernel
theorem dX11_many_40 : decode cX11_many 40 = .ok (.aload_n 0, 1) := by decide +kernel
theorem dX11_many_41 : decode cX11_many 41 = .ok (.getfield 87, 3) := by decide +kernel
theorem dX11_many_44 : decode cX11_many 44 = .ok (.ireturn, 1) := by decide +kernel
theorem dX11_many_45 : decode cX11_many 45 = .ok (.aload_n 0, 1) := by decide +kernel
theorem dX11_many_46 : decode cX11_many 46 = .ok (.getfield 7, 3) := by decide +kernel
theorem dX11_many_49 : decode cX11_many 49 = .ok (.iconst 2, 1) := by decide +kernel
theorem dX11_many_50 : decode cX11_many 50 = .ok (.iaload, 1) := by decide +kernel
theorem dX11_many_51 : decode cX11_many 51 = .ok (.ireturn, 1) := by decide +kernel
theorem dX11_many_52 : decode cX11_many 52 = .ok (.aload_n 0, 1) := by decide +kernel
theorem dX11_many_53 : decode cX11_many 53 = .ok (.getfield 7, 3) := by decide +kernel
theorem dX11_many_56 : decode cX11_many 56 = .ok (.iconst 0, 1) := by decide +kernel
theorem dX11_many_57 : decode cX11_many 57 = .ok (.iaload, 1) := by decide +kernel
theorem dX11_many_58 : decode cX11_many 58 = .ok (.ireturn, 1) := by decide +kernel
theorem dX11_many_59 : decode cX11_many 59 = .ok (.aload_n 0, 1) := by decide +kernel
theorem dX11_many_60 : decode cX11_many 60 = .ok (.getfield 213, 3) := by decide +kernel
theorem dX11_many_63 : decode cX11_many 63 = .ok (.ireturn, 1) := by decide +kernel
theorem dX11_many_64 : decode cX11_many 64 = .ok (.aload_n 0, 1) := by decide +kernel
theorem dX11_many_65 : decode cX11_many 65 = .ok (.getfield 94, 3) := by decide +kernel
theorem dX11_many_68 : decode cX11_many 68 = .ok (.ireturn, 1) := by decide +kernel
theorem dX11_many_69 : decode cX11_many 69 = .ok (.aload_n 0, 1) := by decide +kernel
theorem dX11_many_70 : decode cX11_many 70 = .ok (.getfield 362, 3) := by decide +kernel
theorem dX11_many_73 : decode cX11_many 73 = .ok (.ireturn, 1) := by decide +kernel
theorem dX11_many_74 : decode cX11_many 74 = .ok (.iconst (-1), 1) := by decide +kernel
theorem dX11_many_75 : decode cX11_many 75 = .ok (.ireturn, 1) := by decide +kernel
theorem dX11_moveRow_0 : decode cX11_moveRow 0 = .ok (.iconst 0, 1) := by decide +kernel
theorem dX11_moveRow_1 : decode cX11_moveRow 1 = .ok (.istore 4, 2) := by decide +kernel
theorem dX11_moveRow_3 : decode cX11_moveRow 3 = .ok (.iload 4, 2) := by decide +kernel
theorem dX11_moveRow_5 : decode cX11_moveRow 5 = .ok (.iload_n 2, 1) := by decide +kernel
theorem dX11_moveRow_6 : decode cX11_moveRow 6 = .ok (.if_icmp .ge 52, 3) := by decide +kernel
theorem dX11_moveRow_9 : decode cX11_moveRow 9 = .ok (.iload_n 3, 1) := by decide +kernel
theorem dX11_moveRow_10 : decode cX11_moveRow 10 = .ok (.ifCond .eq 19, 3) := by decide +kernel
theorem dX11_moveRow_13 : decode cX11_moveRow 13 = .ok (.aload_n 0, 1) := by decide +kernel
theorem dX11_moveRow_14 : decode cX11_moveRow 14 = .ok (.getfield 77, 3) := by decide +kernel
theorem dX11_moveRow_17 : decode cX11_moveRow 17 = .ok (.aload_n 0, 1) := by decide +kernel
theorem dX11_moveRow_18 : decode cX11_moveRow 18 = .ok (.getfield 407, 3) := by decide +kernel
theorem dX11_moveRow_21 : decode cX11_moveRow 21 = .ok (.aload_n 1, 1) := by decide +kernel
theorem dX11_moveRow_22 : decode cX11_moveRow 22 = .ok (.iload 4, 2) := by decide +kernel
theorem dX11_moveRow_24 : decode cX11_moveRow 24 = .ok (.iaload, 1) := by decide +kernel
theorem dX11_moveRow_25 : decode cX11_moveRow 25 = .ok (.iastore, 1) := by decide +kernel
theorem dX11_moveRow_26 : decode cX11_moveRow 26 = .ok (.goto 16, 3) := by decide +kernel
theorem dX11_moveRow_29 : decode cX11_moveRow 29 = .ok (.aload_n 1, 1) := by decide +kernel
theorem dX11_moveRow_30 : decode cX11_moveRow 30 = .ok (.iload 4, 2) := by decide +kernel
theorem dX11_moveRow_32 : decode cX11_moveRow 32 = .ok (.aload_n 0, 1) := by decide +kernel
theorem dX11_moveRow_33 : decode cX11_moveRow 33 = .ok (.getfield 77, 3) := by decide +kernel
theorem dX11_moveRow_36 : decode cX11_moveRow 36 = .ok (.aload_n 0, 1) := by decide +kernel
theorem dX11_moveRow_37 : decode cX11_moveRow 37 = .ok (.getfield 407, 3) := by decide +kernel
theorem dX11_moveRow_40 : decode cX11_moveRow 40 = .ok (.iaload, 1) := by decide +kernel
theorem dX11_moveRow_41 : decode cX11_moveRow 41 = .ok (.iastore, 1) := by decide +kernel
theorem dX11_moveRow_42 : decode cX11_moveRow 42 = .ok (.aload_n 0, 1) := by decide +kernel
theorem dX11_moveRow_43 : decode cX11_moveRow 43 = .ok (.dup, 1) := by decide +kernel
theorem dX11_moveRow_44 : decode cX11_moveRow 44 = .ok (.getfield 407, 3) := by decide +kernel
theorem dX11_moveRow_47 : decode cX11_moveRow 47 = .ok (.iconst 1, 1) := by decide +kernel
theorem dX11_moveRow_48 : decode cX11_moveRow 48 = .ok (.iadd, 1) := by decide +kernel
theorem dX11_moveRow_49 : decode cX11_moveRow 49 = .ok (.putfield 407, 3) := by decide +kernel
theorem dX11_moveRow_52 : decode cX11_moveRow 52 = .ok (.iinc 4 1, 3) := by decide +kernel
theorem dX11_moveRow_55 : decode cX11_moveRow 55 = .ok (.goto (-52), 3) := by decide +kernel
theorem dX11_moveRow_58 : decode cX11_moveRow 58 = .ok (.return_, 1) := by decide +kernel
theorem dX11_moveAll_0 : decode cX11_moveAll 0 = .ok (.aload_n 0, 1) := by decide +kernel
theorem dX11_moveAll_1 : decode cX11_moveAll 1 = .ok (.iconst 0, 1) := by decide +kernel
theorem dX11_moveAll_2 : decode cX11_moveAll 2 = .ok (.putfield 407, 3) := by decide +kernel
theorem dX11_moveAll_5 : decode cX11_moveAll 5 = .ok (.aload_n 0, 1) := by decide +kernel
theorem dX11_moveAll_6 : decode cX11_moveAll 6 = .ok (.getfield 80, 3) := by decide +kernel
theorem dX11_moveAll_9 : decode cX11_moveAll 9 = .ok (.iconst 0, 1) := by decide +kernel
theorem dX11_moveAll_10 : decode cX11_moveAll 10 = .ok (.aload_n 0, 1) := by decide +kernel
theorem dX11_moveAll_11 : decode cX11_moveAll 11 = .ok (.getfield 87, 3) := by decide +kernel
theorem dX11_moveAll_14 : decode cX11_moveAll 14 = .ok (.iastore, 1) := by decide +kernel
theorem dX11_moveAll_15 : decode cX11_moveAll 15 = .ok (.aload_n 0, 1) := by decide +kernel
theorem dX11_moveAll_16 : decode cX11_moveAll 16 = .ok (.aload_n 0, 1) := by decide +kernel
theorem dX11_moveAll_17 : decode cX11_moveAll 17 = .ok (.getfield 80, 3) := by decide +kernel
theorem dX11_moveAll_20 : decode cX11_moveAll 20 = .ok (.iconst 1, 1) := by decide +kernel
theorem dX11_moveAll_21 : decode cX11_moveAll 21 = .ok (.iload_n 1, 1) := by decide +kernel
theorem dX11_moveAll_22 : decode cX11_moveAll 22 = .ok (.invokevirtual 410, 3) := by decide +kernel
theorem dX11_moveAll_25 : decode cX11_moveAll 25 = .ok (.aload_n 0, 1) := by decide +kernel
theorem dX11_moveAll_26 : decode cX11_moveAll 26 = .ok (.aload_n 0, 1) := by decide +kernel
theorem dX11_moveAll_27 : decode cX11_moveAll 27 = .ok (.getfield 7, 3) := by decide +kernel
theorem dX11_moveAll_30 : decode cX11_moveAll 30 = .ok (.sipush 168, 3) := by decide +kernel
theorem dX11_moveAll_33 : decode cX11_moveAll 33 = .ok (.iload_n 1, 1) := by decide +kernel
theorem dX11_moveAll_34 : decode cX11_moveAll 34 = .ok (.invokevirtual 410, 3) := by decide +kernel
theorem dX11_moveAll_37 : decode cX11_moveAll 37 = .ok (.aload_n 0, 1) := by decide +kernel
theorem dX11_moveAll_38 : decode cX11_moveAll 38 = .ok (.aload_n 0, 1) := by decide +kernel
theorem dX11_moveAll_39 : decode cX11_moveAll 39 = .ok (.getfield 13, 3) := by decide +kernel
theorem dX11_moveAll_42 : decode cX11_moveAll 42 = .ok (.bipush 20, 2) := by decide +kernel
theorem dX11_moveAll_44 : decode cX11_moveAll 44 = .ok (.iload_n 1, 1) := by decide +kernel
theorem dX11_moveAll_45 : decode cX11_moveAll 45 = .ok (.invokevirtual 410, 3) := by decide +kernel
theorem dX11_moveAll_48 : decode cX11_moveAll 48 = .ok (.aload_n 0, 1) := by decide +kernel
theorem dX11_moveAll_49 : decode cX11_moveAll 49 = .ok (.aload_n 0, 1) := by decide +kernel
theorem dX11_moveAll_50 : decode cX11_moveAll 50 = .ok (.getfield 16, 3) := by decide +kernel
theorem dX11_moveAll_53 : decode cX11_moveAll 53 = .ok (.bipush 80, 2) := by decide +kernel
theorem dX11_moveAll_55 : decode cX11_moveAll 55 = .ok (.iload_n 1, 1) := by decide +kernel
theorem dX11_moveAll_56 : decode cX11_moveAll 56 = .ok (.invokevirtual 410, 3) := by decide +kernel
theorem dX11_moveAll_59 : decode cX11_moveAll 59 = .ok (.aload_n 0, 1) := by decide +kernel
theorem dX11_moveAll_60 : decode cX11_moveAll 60 = .ok (.aload_n 0, 1) := by decide +kernel
theorem dX11_moveAll_61 : decode cX11_moveAll 61 = .ok (.getfield 19, 3) := by decide +kernel
theorem dX11_moveAll_64 : decode cX11_moveAll 64 = .ok (.bipush 10, 2) := by decide +kernel
theorem dX11_moveAll_66 : decode cX11_moveAll 66 = .ok (.iload_n 1, 1) := by decide +kernel
theorem dX11_moveAll_67 : decode cX11_moveAll 67 = .ok (.invokevirtual 410, 3) := by decide +kernel
theorem dX11_moveAll_70 : decode cX11_moveAll 70 = .ok (.aload_n 0, 1) := by decide +kernel
theorem dX11_moveAll_71 : decode cX11_moveAll 71 = .ok (.aload_n 0, 1) := by decide +kernel
theorem dX11_moveAll_72 : decode cX11_moveAll 72 = .ok (.getfield 22, 3) := by decide +kernel
theorem dX11_moveAll_75 : decode cX11_moveAll 75 = .ok (.iconst 4, 1) := by decide +kernel
theorem dX11_moveAll_76 : decode cX11_moveAll 76 = .ok (.iload_n 1, 1) := by decide +kernel
theorem dX11_moveAll_77 : decode cX11_moveAll 77 = .ok (.invokevirtual 410, 3) := by decide +kernel
theorem dX11_moveAll_80 : decode cX11_moveAll 80 = .ok (.return_, 1) := by decide +kernel
theorem dX11_keep_0 : decode cX11_keep 0 = .ok (.aload_n 0, 1) := by decide +kernel
theorem dX11_keep_1 : decode cX11_keep 1 = .ok (.iconst 1, 1) := by decide +kernel
theorem dX11_keep_2 : decode cX11_keep 2 = .ok (.invokevirtual 414, 3) := by decide +kernel
theorem dX11_keep_5 : decode cX11_keep 5 = .ok (.aload_n 0, 1) := by decide +kernel
theorem dX11_keep_6 : decode cX11_keep 6 = .ok (.iconst 1, 1) := by decide +kernel
theorem dX11_keep_7 : decode cX11_keep 7 = .ok (.putfield 418, 3) := by decide +kernel
theorem dX11_keep_10 : decode cX11_keep 10 = .ok (.iconst 1, 1) := by decide +kernel
theorem dX11_keep_11 : decode cX11_keep 11 = .ok (.ireturn, 1) := by decide +kernel
theorem dX11_again_0 : decode cX11_again 0 = .ok (.aload_n 0, 1) := by decide +kernel
theorem dX11_again_1 : decode cX11_again 1 = .ok (.getfield 418, 3) := by decide +kernel
theorem dX11_again_4 : decode cX11_again 4 = .ok (.ifCond .ne 6, 3) := by decide +kernel
theorem dX11_again_7 : decode cX11_again 7 = .ok (.bipush (-3), 2) := by decide +kernel
theorem dX11_again_9 : decode cX11_again 9 = .ok (.ireturn, 1) := by decide +kernel
theorem dX11_again_10 : decode cX11_again 10 = .ok (.aload_n 0, 1) := by decide +kernel
theorem dX11_again_11 : decode cX11_again 11 = .ok (.iconst 0, 1) := by decide +kernel
theorem dX11_again_12 : decode cX11_again 12 = .ok (.invokevirtual 414, 3) := by decide +kernel
theorem dX11_again_15 : decode cX11_again 15 = .ok (.aload_n 0, 1) := by decide +kernel
theorem dX11_again_16 : decode cX11_again 16 = .ok (.aload_n 0, 1) := by decide +kernel
theorem dX11_again_17 : decode cX11_again 17 = .ok (.getfield 80, 3) := by decide +kernel
theorem dX11_again_20 : decode cX11_again 20 = .ok (.iconst 0, 1) := by decide +kernel
theorem dX11_again_21 : decode cX11_again 21 = .ok (.iaload, 1) := by decide +kernel
theorem dX11_again_22 : decode cX11_again 22 = .ok (.putfield 87, 3) := by decide +kernel
theorem dX11_again_25 : decode cX11_again 25 = .ok (.aload_n 0, 1) := by decide +kernel
theorem dX11_again_26 : decode cX11_again 26 = .ok (.getfield 7, 3) := by decide +kernel
theorem dX11_again_29 : decode cX11_again 29 = .ok (.iconst 0, 1) := by decide +kernel
theorem dX11_again_30 : decode cX11_again 30 = .ok (.iaload, 1) := by decide +kernel
theorem dX11_again_31 : decode cX11_again 31 = .ok (.ireturn, 1) := by decide +kernel
