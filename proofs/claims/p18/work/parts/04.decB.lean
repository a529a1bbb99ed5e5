theorem dwX11_init_0 : dkW cX11_init 0 [42, 183, 0, 3, 42, 17, 1, 104, 188, 10, 181, 0, 9, 42] = true := by decide +kernel
theorem dX11_init_0 : decode cX11_init 0 = .ok (.aload_n 0, 1) := dko_42 dwX11_init_0
theorem dX11_init_1 : decode cX11_init 1 = .ok (.invokespecial 3, 3) := dko_183 (dk_t 1 1 [183, 0, 3, 42, 17, 1, 104, 188, 10, 181, 0, 9, 42] dwX11_init_0 rfl rfl)
theorem dX11_init_4 : decode cX11_init 4 = .ok (.aload_n 0, 1) := dko_42 (dk_t 4 4 [42, 17, 1, 104, 188, 10, 181, 0, 9, 42] dwX11_init_0 rfl rfl)
theorem dX11_init_5 : decode cX11_init 5 = .ok (.sipush 360, 3) := dko_17 (dk_t 5 5 [17, 1, 104, 188, 10, 181, 0, 9, 42] dwX11_init_0 rfl rfl)
theorem dX11_init_8 : decode cX11_init 8 = .ok (.newarray .int, 2) := dko_188_10 (dk_t 8 8 [188, 10, 181, 0, 9, 42] dwX11_init_0 rfl rfl)
theorem dX11_init_10 : decode cX11_init 10 = .ok (.putfield 9, 3) := dko_181 (dk_t 10 10 [181, 0, 9, 42] dwX11_init_0 rfl rfl)
theorem dX11_init_13 : decode cX11_init 13 = .ok (.aload_n 0, 1) := dko_42 (dk_t 13 13 [42] dwX11_init_0 rfl rfl)
theorem dwX11_init_14 : dkW cX11_init 14 [17, 1, 104, 188, 10, 181, 0, 15, 42, 17, 11, 64, 188, 10] = true := by decide +kernel
theorem dX11_init_14 : decode cX11_init 14 = .ok (.sipush 360, 3) := dko_17 dwX11_init_14
theorem dX11_init_17 : decode cX11_init 17 = .ok (.newarray .int, 2) := dko_188_10 (dk_t 3 17 [188, 10, 181, 0, 15, 42, 17, 11, 64, 188, 10] dwX11_init_14 rfl rfl)
theorem dX11_init_19 : decode cX11_init 19 = .ok (.putfield 15, 3) := dko_181 (dk_t 5 19 [181, 0, 15, 42, 17, 11, 64, 188, 10] dwX11_init_14 rfl rfl)
theorem dX11_init_22 : decode cX11_init 22 = .ok (.aload_n 0, 1) := dko_42 (dk_t 8 22 [42, 17, 11, 64, 188, 10] dwX11_init_14 rfl rfl)
theorem dX11_init_23 : decode cX11_init 23 = .ok (.sipush 2880, 3) := dko_17 (dk_t 9 23 [17, 11, 64, 188, 10] dwX11_init_14 rfl rfl)
theorem dX11_init_26 : decode cX11_init 26 = .ok (.newarray .int, 2) := dko_188_10 (dk_t 12 26 [188, 10] dwX11_init_14 rfl rfl)
theorem dwX11_init_28 : dkW cX11_init 28 [181, 0, 18, 42, 17, 1, 104, 188, 10, 181, 0, 21, 42] = true := by decide +kernel
theorem dX11_init_28 : decode cX11_init 28 = .ok (.putfield 18, 3) := dko_181 dwX11_init_28
theorem dX11_init_31 : decode cX11_init 31 = .ok (.aload_n 0, 1) := dko_42 (dk_t 3 31 [42, 17, 1, 104, 188, 10, 181, 0, 21, 42] dwX11_init_28 rfl rfl)
theorem dX11_init_32 : decode cX11_init 32 = .ok (.sipush 360, 3) := dko_17 (dk_t 4 32 [17, 1, 104, 188, 10, 181, 0, 21, 42] dwX11_init_28 rfl rfl)
theorem dX11_init_35 : decode cX11_init 35 = .ok (.newarray .int, 2) := dko_188_10 (dk_t 7 35 [188, 10, 181, 0, 21, 42] dwX11_init_28 rfl rfl)
theorem dX11_init_37 : decode cX11_init 37 = .ok (.putfield 21, 3) := dko_181 (dk_t 9 37 [181, 0, 21, 42] dwX11_init_28 rfl rfl)
theorem dX11_init_40 : decode cX11_init 40 = .ok (.aload_n 0, 1) := dko_42 (dk_t 12 40 [42] dwX11_init_28 rfl rfl)
theorem dwX11_init_41 : dkW cX11_init 41 [17, 1, 104, 188, 10, 181, 0, 24, 42, 16, 6, 188, 10] = true := by decide +kernel
theorem dX11_init_41 : decode cX11_init 41 = .ok (.sipush 360, 3) := dko_17 dwX11_init_41
theorem dX11_init_44 : decode cX11_init 44 = .ok (.newarray .int, 2) := dko_188_10 (dk_t 3 44 [188, 10, 181, 0, 24, 42, 16, 6, 188, 10] dwX11_init_41 rfl rfl)
theorem dX11_init_46 : decode cX11_init 46 = .ok (.putfield 24, 3) := dko_181 (dk_t 5 46 [181, 0, 24, 42, 16, 6, 188, 10] dwX11_init_41 rfl rfl)
theorem dX11_init_49 : decode cX11_init 49 = .ok (.aload_n 0, 1) := dko_42 (dk_t 8 49 [42, 16, 6, 188, 10] dwX11_init_41 rfl rfl)
theorem dX11_init_50 : decode cX11_init 50 = .ok (.bipush 6, 2) := dko_16 (dk_t 9 50 [16, 6, 188, 10] dwX11_init_41 rfl rfl)
theorem dX11_init_52 : decode cX11_init 52 = .ok (.newarray .int, 2) := dko_188_10 (dk_t 11 52 [188, 10] dwX11_init_41 rfl rfl)
theorem dwX11_init_54 : dkW cX11_init 54 [181, 0, 27, 42, 7, 188, 10, 181, 0, 30, 42, 16, 120] = true := by decide +kernel
theorem dX11_init_54 : decode cX11_init 54 = .ok (.putfield 27, 3) := dko_181 dwX11_init_54
theorem dX11_init_57 : decode cX11_init 57 = .ok (.aload_n 0, 1) := dko_42 (dk_t 3 57 [42, 7, 188, 10, 181, 0, 30, 42, 16, 120] dwX11_init_54 rfl rfl)
theorem dX11_init_58 : decode cX11_init 58 = .ok (.iconst 4, 1) := dko_7 (dk_t 4 58 [7, 188, 10, 181, 0, 30, 42, 16, 120] dwX11_init_54 rfl rfl)
theorem dX11_init_59 : decode cX11_init 59 = .ok (.newarray .int, 2) := dko_188_10 (dk_t 5 59 [188, 10, 181, 0, 30, 42, 16, 120] dwX11_init_54 rfl rfl)
theorem dX11_init_61 : decode cX11_init 61 = .ok (.putfield 30, 3) := dko_181 (dk_t 7 61 [181, 0, 30, 42, 16, 120] dwX11_init_54 rfl rfl)
theorem dX11_init_64 : decode cX11_init 64 = .ok (.aload_n 0, 1) := dko_42 (dk_t 10 64 [42, 16, 120] dwX11_init_54 rfl rfl)
theorem dX11_init_65 : decode cX11_init 65 = .ok (.bipush 120, 2) := dko_16 (dk_t 11 65 [16, 120] dwX11_init_54 rfl rfl)
theorem dwX11_init_67 : dkW cX11_init 67 [188, 10, 181, 0, 33, 42, 17, 9, 84, 188, 10, 181, 0, 36] = true := by decide +kernel
theorem dX11_init_67 : decode cX11_init 67 = .ok (.newarray .int, 2) := dko_188_10 dwX11_init_67
theorem dX11_init_69 : decode cX11_init 69 = .ok (.putfield 33, 3) := dko_181 (dk_t 2 69 [181, 0, 33, 42, 17, 9, 84, 188, 10, 181, 0, 36] dwX11_init_67 rfl rfl)
theorem dX11_init_72 : decode cX11_init 72 = .ok (.aload_n 0, 1) := dko_42 (dk_t 5 72 [42, 17, 9, 84, 188, 10, 181, 0, 36] dwX11_init_67 rfl rfl)
theorem dX11_init_73 : decode cX11_init 73 = .ok (.sipush 2388, 3) := dko_17 (dk_t 6 73 [17, 9, 84, 188, 10, 181, 0, 36] dwX11_init_67 rfl rfl)
theorem dX11_init_76 : decode cX11_init 76 = .ok (.newarray .int, 2) := dko_188_10 (dk_t 9 76 [188, 10, 181, 0, 36] dwX11_init_67 rfl rfl)
theorem dX11_init_78 : decode cX11_init 78 = .ok (.putfield 36, 3) := dko_181 (dk_t 11 78 [181, 0, 36] dwX11_init_67 rfl rfl)
theorem dwX11_init_81 : dkW cX11_init 81 [42, 17, 9, 84, 188, 10, 181, 0, 39, 42, 17, 9, 84] = true := by decide +kernel
theorem dX11_init_81 : decode cX11_init 81 = .ok (.aload_n 0, 1) := dko_42 dwX11_init_81
theorem dX11_init_82 : decode cX11_init 82 = .ok (.sipush 2388, 3) := dko_17 (dk_t 1 82 [17, 9, 84, 188, 10, 181, 0, 39, 42, 17, 9, 84] dwX11_init_81 rfl rfl)
theorem dX11_init_85 : decode cX11_init 85 = .ok (.newarray .int, 2) := dko_188_10 (dk_t 4 85 [188, 10, 181, 0, 39, 42, 17, 9, 84] dwX11_init_81 rfl rfl)
theorem dX11_init_87 : decode cX11_init 87 = .ok (.putfield 39, 3) := dko_181 (dk_t 6 87 [181, 0, 39, 42, 17, 9, 84] dwX11_init_81 rfl rfl)
theorem dX11_init_90 : decode cX11_init 90 = .ok (.aload_n 0, 1) := dko_42 (dk_t 9 90 [42, 17, 9, 84] dwX11_init_81 rfl rfl)
theorem dX11_init_91 : decode cX11_init 91 = .ok (.sipush 2388, 3) := dko_17 (dk_t 10 91 [17, 9, 84] dwX11_init_81 rfl rfl)
theorem dwX11_init_94 : dkW cX11_init 94 [188, 10, 181, 0, 42, 42, 17, 9, 84, 188, 10, 181, 0, 45] = true := by decide +kernel
theorem dX11_init_94 : decode cX11_init 94 = .ok (.newarray .int, 2) := dko_188_10 dwX11_init_94
theorem dX11_init_96 : decode cX11_init 96 = .ok (.putfield 42, 3) := dko_181 (dk_t 2 96 [181, 0, 42, 42, 17, 9, 84, 188, 10, 181, 0, 45] dwX11_init_94 rfl rfl)
theorem dX11_init_99 : decode cX11_init 99 = .ok (.aload_n 0, 1) := dko_42 (dk_t 5 99 [42, 17, 9, 84, 188, 10, 181, 0, 45] dwX11_init_94 rfl rfl)
theorem dX11_init_100 : decode cX11_init 100 = .ok (.sipush 2388, 3) := dko_17 (dk_t 6 100 [17, 9, 84, 188, 10, 181, 0, 45] dwX11_init_94 rfl rfl)
theorem dX11_init_103 : decode cX11_init 103 = .ok (.newarray .int, 2) := dko_188_10 (dk_t 9 103 [188, 10, 181, 0, 45] dwX11_init_94 rfl rfl)
theorem dX11_init_105 : decode cX11_init 105 = .ok (.putfield 45, 3) := dko_181 (dk_t 11 105 [181, 0, 45] dwX11_init_94 rfl rfl)
theorem dwX11_init_108 : dkW cX11_init 108 [42, 16, 12, 188, 10, 181, 0, 48, 42, 17, 9, 96, 188, 10] = true := by decide +kernel
theorem dX11_init_108 : decode cX11_init 108 = .ok (.aload_n 0, 1) := dko_42 dwX11_init_108
theorem dX11_init_109 : decode cX11_init 109 = .ok (.bipush 12, 2) := dko_16 (dk_t 1 109 [16, 12, 188, 10, 181, 0, 48, 42, 17, 9, 96, 188, 10] dwX11_init_108 rfl rfl)
theorem dX11_init_111 : decode cX11_init 111 = .ok (.newarray .int, 2) := dko_188_10 (dk_t 3 111 [188, 10, 181, 0, 48, 42, 17, 9, 96, 188, 10] dwX11_init_108 rfl rfl)
theorem dX11_init_113 : decode cX11_init 113 = .ok (.putfield 48, 3) := dko_181 (dk_t 5 113 [181, 0, 48, 42, 17, 9, 96, 188, 10] dwX11_init_108 rfl rfl)
theorem dX11_init_116 : decode cX11_init 116 = .ok (.aload_n 0, 1) := dko_42 (dk_t 8 116 [42, 17, 9, 96, 188, 10] dwX11_init_108 rfl rfl)
theorem dX11_init_117 : decode cX11_init 117 = .ok (.sipush 2400, 3) := dko_17 (dk_t 9 117 [17, 9, 96, 188, 10] dwX11_init_108 rfl rfl)
theorem dX11_init_120 : decode cX11_init 120 = .ok (.newarray .int, 2) := dko_188_10 (dk_t 12 120 [188, 10] dwX11_init_108 rfl rfl)
theorem dwX11_init_122 : dkW cX11_init 122 [181, 0, 51, 42, 17, 9, 96, 188, 10, 181, 0, 54, 42] = true := by decide +kernel
theorem dX11_init_122 : decode cX11_init 122 = .ok (.putfield 51, 3) := dko_181 dwX11_init_122
theorem dX11_init_125 : decode cX11_init 125 = .ok (.aload_n 0, 1) := dko_42 (dk_t 3 125 [42, 17, 9, 96, 188, 10, 181, 0, 54, 42] dwX11_init_122 rfl rfl)
theorem dX11_init_126 : decode cX11_init 126 = .ok (.sipush 2400, 3) := dko_17 (dk_t 4 126 [17, 9, 96, 188, 10, 181, 0, 54, 42] dwX11_init_122 rfl rfl)
theorem dX11_init_129 : decode cX11_init 129 = .ok (.newarray .int, 2) := dko_188_10 (dk_t 7 129 [188, 10, 181, 0, 54, 42] dwX11_init_122 rfl rfl)
theorem dX11_init_131 : decode cX11_init 131 = .ok (.putfield 54, 3) := dko_181 (dk_t 9 131 [181, 0, 54, 42] dwX11_init_122 rfl rfl)
theorem dX11_init_134 : decode cX11_init 134 = .ok (.aload_n 0, 1) := dko_42 (dk_t 12 134 [42] dwX11_init_122 rfl rfl)
theorem dwX11_init_135 : dkW cX11_init 135 [18, 57, 181, 0, 58, 42, 18, 57, 181, 0, 62, 42, 16, 24] = true := by decide +kernel
theorem dX11_init_135 : decode cX11_init 135 = .ok (.ldc 57, 2) := dko_18 dwX11_init_135
theorem dX11_init_137 : decode cX11_init 137 = .ok (.putfield 58, 3) := dko_181 (dk_t 2 137 [181, 0, 58, 42, 18, 57, 181, 0, 62, 42, 16, 24] dwX11_init_135 rfl rfl)
theorem dX11_init_140 : decode cX11_init 140 = .ok (.aload_n 0, 1) := dko_42 (dk_t 5 140 [42, 18, 57, 181, 0, 62, 42, 16, 24] dwX11_init_135 rfl rfl)
theorem dX11_init_141 : decode cX11_init 141 = .ok (.ldc 57, 2) := dko_18 (dk_t 6 141 [18, 57, 181, 0, 62, 42, 16, 24] dwX11_init_135 rfl rfl)
theorem dX11_init_143 : decode cX11_init 143 = .ok (.putfield 62, 3) := dko_181 (dk_t 8 143 [181, 0, 62, 42, 16, 24] dwX11_init_135 rfl rfl)
theorem dX11_init_146 : decode cX11_init 146 = .ok (.aload_n 0, 1) := dko_42 (dk_t 11 146 [42, 16, 24] dwX11_init_135 rfl rfl)
theorem dX11_init_147 : decode cX11_init 147 = .ok (.bipush 24, 2) := dko_16 (dk_t 12 147 [16, 24] dwX11_init_135 rfl rfl)
theorem dwX11_init_149 : dkW cX11_init 149 [188, 8, 181, 0, 65, 42, 7, 188, 5, 89, 3, 16, 114, 85] = true := by decide +kernel
theorem dX11_init_149 : decode cX11_init 149 = .ok (.newarray .byte, 2) := dko_188_8 dwX11_init_149
theorem dX11_init_151 : decode cX11_init 151 = .ok (.putfield 65, 3) := dko_181 (dk_t 2 151 [181, 0, 65, 42, 7, 188, 5, 89, 3, 16, 114, 85] dwX11_init_149 rfl rfl)
theorem dX11_init_154 : decode cX11_init 154 = .ok (.aload_n 0, 1) := dko_42 (dk_t 5 154 [42, 7, 188, 5, 89, 3, 16, 114, 85] dwX11_init_149 rfl rfl)
theorem dX11_init_155 : decode cX11_init 155 = .ok (.iconst 4, 1) := dko_7 (dk_t 6 155 [7, 188, 5, 89, 3, 16, 114, 85] dwX11_init_149 rfl rfl)
theorem dX11_init_156 : decode cX11_init 156 = .ok (.newarray .char, 2) := dko_188_5 (dk_t 7 156 [188, 5, 89, 3, 16, 114, 85] dwX11_init_149 rfl rfl)
theorem dX11_init_158 : decode cX11_init 158 = .ok (.dup, 1) := dko_89 (dk_t 9 158 [89, 3, 16, 114, 85] dwX11_init_149 rfl rfl)
theorem dX11_init_159 : decode cX11_init 159 = .ok (.iconst 0, 1) := dko_3 (dk_t 10 159 [3, 16, 114, 85] dwX11_init_149 rfl rfl)
theorem dX11_init_160 : decode cX11_init 160 = .ok (.bipush 114, 2) := dko_16 (dk_t 11 160 [16, 114, 85] dwX11_init_149 rfl rfl)
theorem dX11_init_162 : decode cX11_init 162 = .ok (.castore, 1) := dko_85 (dk_t 13 162 [85] dwX11_init_149 rfl rfl)
theorem dwX11_init_163 : dkW cX11_init 163 [89, 4, 16, 117, 85, 89, 5, 16, 108, 85, 89, 6, 16, 101] = true := by decide +kernel
theorem dX11_init_163 : decode cX11_init 163 = .ok (.dup, 1) := dko_89 dwX11_init_163
theorem dX11_init_164 : decode cX11_init 164 = .ok (.iconst 1, 1) := dko_4 (dk_t 1 164 [4, 16, 117, 85, 89, 5, 16, 108, 85, 89, 6, 16, 101] dwX11_init_163 rfl rfl)
theorem dX11_init_165 : decode cX11_init 165 = .ok (.bipush 117, 2) := dko_16 (dk_t 2 165 [16, 117, 85, 89, 5, 16, 108, 85, 89, 6, 16, 101] dwX11_init_163 rfl rfl)
theorem dX11_init_167 : decode cX11_init 167 = .ok (.castore, 1) := dko_85 (dk_t 4 167 [85, 89, 5, 16, 108, 85, 89, 6, 16, 101] dwX11_init_163 rfl rfl)
theorem dX11_init_168 : decode cX11_init 168 = .ok (.dup, 1) := dko_89 (dk_t 5 168 [89, 5, 16, 108, 85, 89, 6, 16, 101] dwX11_init_163 rfl rfl)
theorem dX11_init_169 : decode cX11_init 169 = .ok (.iconst 2, 1) := dko_5 (dk_t 6 169 [5, 16, 108, 85, 89, 6, 16, 101] dwX11_init_163 rfl rfl)
theorem dX11_init_170 : decode cX11_init 170 = .ok (.bipush 108, 2) := dko_16 (dk_t 7 170 [16, 108, 85, 89, 6, 16, 101] dwX11_init_163 rfl rfl)
theorem dX11_init_172 : decode cX11_init 172 = .ok (.castore, 1) := dko_85 (dk_t 9 172 [85, 89, 6, 16, 101] dwX11_init_163 rfl rfl)
theorem dX11_init_173 : decode cX11_init 173 = .ok (.dup, 1) := dko_89 (dk_t 10 173 [89, 6, 16, 101] dwX11_init_163 rfl rfl)
theorem dX11_init_174 : decode cX11_init 174 = .ok (.iconst 3, 1) := dko_6 (dk_t 11 174 [6, 16, 101] dwX11_init_163 rfl rfl)
theorem dX11_init_175 : decode cX11_init 175 = .ok (.bipush 101, 2) := dko_16 (dk_t 12 175 [16, 101] dwX11_init_163 rfl rfl)
theorem dwX11_init_177 : dkW cX11_init 177 [85, 181, 0, 69, 42, 16, 6, 188, 5, 89, 3, 16, 117, 85] = true := by decide +kernel
theorem dX11_init_177 : decode cX11_init 177 = .ok (.castore, 1) := dko_85 dwX11_init_177
theorem dX11_init_178 : decode cX11_init 178 = .ok (.putfield 69, 3) := dko_181 (dk_t 1 178 [181, 0, 69, 42, 16, 6, 188, 5, 89, 3, 16, 117, 85] dwX11_init_177 rfl rfl)
theorem dX11_init_181 : decode cX11_init 181 = .ok (.aload_n 0, 1) := dko_42 (dk_t 4 181 [42, 16, 6, 188, 5, 89, 3, 16, 117, 85] dwX11_init_177 rfl rfl)
theorem dX11_init_182 : decode cX11_init 182 = .ok (.bipush 6, 2) := dko_16 (dk_t 5 182 [16, 6, 188, 5, 89, 3, 16, 117, 85] dwX11_init_177 rfl rfl)
theorem dX11_init_184 : decode cX11_init 184 = .ok (.newarray .char, 2) := dko_188_5 (dk_t 7 184 [188, 5, 89, 3, 16, 117, 85] dwX11_init_177 rfl rfl)
theorem dX11_init_186 : decode cX11_init 186 = .ok (.dup, 1) := dko_89 (dk_t 9 186 [89, 3, 16, 117, 85] dwX11_init_177 rfl rfl)
theorem dX11_init_187 : decode cX11_init 187 = .ok (.iconst 0, 1) := dko_3 (dk_t 10 187 [3, 16, 117, 85] dwX11_init_177 rfl rfl)
theorem dX11_init_188 : decode cX11_init 188 = .ok (.bipush 117, 2) := dko_16 (dk_t 11 188 [16, 117, 85] dwX11_init_177 rfl rfl)
theorem dX11_init_190 : decode cX11_init 190 = .ok (.castore, 1) := dko_85 (dk_t 13 190 [85] dwX11_init_177 rfl rfl)
theorem dwX11_init_191 : dkW cX11_init 191 [89, 4, 16, 110, 85, 89, 5, 16, 105, 85, 89, 6, 16, 113] = true := by decide +kernel
theorem dX11_init_191 : decode cX11_init 191 = .ok (.dup, 1) := dko_89 dwX11_init_191
theorem dX11_init_192 : decode cX11_init 192 = .ok (.iconst 1, 1) := dko_4 (dk_t 1 192 [4, 16, 110, 85, 89, 5, 16, 105, 85, 89, 6, 16, 113] dwX11_init_191 rfl rfl)
theorem dX11_init_193 : decode cX11_init 193 = .ok (.bipush 110, 2) := dko_16 (dk_t 2 193 [16, 110, 85, 89, 5, 16, 105, 85, 89, 6, 16, 113] dwX11_init_191 rfl rfl)
theorem dX11_init_195 : decode cX11_init 195 = .ok (.castore, 1) := dko_85 (dk_t 4 195 [85, 89, 5, 16, 105, 85, 89, 6, 16, 113] dwX11_init_191 rfl rfl)
theorem dX11_init_196 : decode cX11_init 196 = .ok (.dup, 1) := dko_89 (dk_t 5 196 [89, 5, 16, 105, 85, 89, 6, 16, 113] dwX11_init_191 rfl rfl)
theorem dX11_init_197 : decode cX11_init 197 = .ok (.iconst 2, 1) := dko_5 (dk_t 6 197 [5, 16, 105, 85, 89, 6, 16, 113] dwX11_init_191 rfl rfl)
theorem dX11_init_198 : decode cX11_init 198 = .ok (.bipush 105, 2) := dko_16 (dk_t 7 198 [16, 105, 85, 89, 6, 16, 113] dwX11_init_191 rfl rfl)
theorem dX11_init_200 : decode cX11_init 200 = .ok (.castore, 1) := dko_85 (dk_t 9 200 [85, 89, 6, 16, 113] dwX11_init_191 rfl rfl)
theorem dX11_init_201 : decode cX11_init 201 = .ok (.dup, 1) := dko_89 (dk_t 10 201 [89, 6, 16, 113] dwX11_init_191 rfl rfl)
theorem dX11_init_202 : decode cX11_init 202 = .ok (.iconst 3, 1) := dko_6 (dk_t 11 202 [6, 16, 113] dwX11_init_191 rfl rfl)
theorem dX11_init_203 : decode cX11_init 203 = .ok (.bipush 113, 2) := dko_16 (dk_t 12 203 [16, 113] dwX11_init_191 rfl rfl)
theorem dwX11_init_205 : dkW cX11_init 205 [85, 89, 7, 16, 117, 85, 89, 8, 16, 101, 85, 181, 0, 73] = true := by decide +kernel
theorem dX11_init_205 : decode cX11_init 205 = .ok (.castore, 1) := dko_85 dwX11_init_205
theorem dX11_init_206 : decode cX11_init 206 = .ok (.dup, 1) := dko_89 (dk_t 1 206 [89, 7, 16, 117, 85, 89, 8, 16, 101, 85, 181, 0, 73] dwX11_init_205 rfl rfl)
theorem dX11_init_207 : decode cX11_init 207 = .ok (.iconst 4, 1) := dko_7 (dk_t 2 207 [7, 16, 117, 85, 89, 8, 16, 101, 85, 181, 0, 73] dwX11_init_205 rfl rfl)
theorem dX11_init_208 : decode cX11_init 208 = .ok (.bipush 117, 2) := dko_16 (dk_t 3 208 [16, 117, 85, 89, 8, 16, 101, 85, 181, 0, 73] dwX11_init_205 rfl rfl)
theorem dX11_init_210 : decode cX11_init 210 = .ok (.castore, 1) := dko_85 (dk_t 5 210 [85, 89, 8, 16, 101, 85, 181, 0, 73] dwX11_init_205 rfl rfl)
theorem dX11_init_211 : decode cX11_init 211 = .ok (.dup, 1) := dko_89 (dk_t 6 211 [89, 8, 16, 101, 85, 181, 0, 73] dwX11_init_205 rfl rfl)
theorem dX11_init_212 : decode cX11_init 212 = .ok (.iconst 5, 1) := dko_8 (dk_t 7 212 [8, 16, 101, 85, 181, 0, 73] dwX11_init_205 rfl rfl)
theorem dX11_init_213 : decode cX11_init 213 = .ok (.bipush 101, 2) := dko_16 (dk_t 8 213 [16, 101, 85, 181, 0, 73] dwX11_init_205 rfl rfl)
theorem dX11_init_215 : decode cX11_init 215 = .ok (.castore, 1) := dko_85 (dk_t 10 215 [85, 181, 0, 73] dwX11_init_205 rfl rfl)
theorem dX11_init_216 : decode cX11_init 216 = .ok (.putfield 73, 3) := dko_181 (dk_t 11 216 [181, 0, 73] dwX11_init_205 rfl rfl)
theorem dwX11_init_219 : dkW cX11_init 219 [42, 16, 6, 188, 5, 89, 3, 16, 114, 85, 89, 4, 16, 101] = true := by decide +kernel
theorem dX11_init_219 : decode cX11_init 219 = .ok (.aload_n 0, 1) := dko_42 dwX11_init_219
theorem dX11_init_220 : decode cX11_init 220 = .ok (.bipush 6, 2) := dko_16 (dk_t 1 220 [16, 6, 188, 5, 89, 3, 16, 114, 85, 89, 4, 16, 101] dwX11_init_219 rfl rfl)
theorem dX11_init_222 : decode cX11_init 222 = .ok (.newarray .char, 2) := dko_188_5 (dk_t 3 222 [188, 5, 89, 3, 16, 114, 85, 89, 4, 16, 101] dwX11_init_219 rfl rfl)
theorem dX11_init_224 : decode cX11_init 224 = .ok (.dup, 1) := dko_89 (dk_t 5 224 [89, 3, 16, 114, 85, 89, 4, 16, 101] dwX11_init_219 rfl rfl)
theorem dX11_init_225 : decode cX11_init 225 = .ok (.iconst 0, 1) := dko_3 (dk_t 6 225 [3, 16, 114, 85, 89, 4, 16, 101] dwX11_init_219 rfl rfl)
theorem dX11_init_226 : decode cX11_init 226 = .ok (.bipush 114, 2) := dko_16 (dk_t 7 226 [16, 114, 85, 89, 4, 16, 101] dwX11_init_219 rfl rfl)
theorem dX11_init_228 : decode cX11_init 228 = .ok (.castore, 1) := dko_85 (dk_t 9 228 [85, 89, 4, 16, 101] dwX11_init_219 rfl rfl)
theorem dX11_init_229 : decode cX11_init 229 = .ok (.dup, 1) := dko_89 (dk_t 10 229 [89, 4, 16, 101] dwX11_init_219 rfl rfl)
theorem dX11_init_230 : decode cX11_init 230 = .ok (.iconst 1, 1) := dko_4 (dk_t 11 230 [4, 16, 101] dwX11_init_219 rfl rfl)
theorem dX11_init_231 : decode cX11_init 231 = .ok (.bipush 101, 2) := dko_16 (dk_t 12 231 [16, 101] dwX11_init_219 rfl rfl)
theorem dwX11_init_233 : dkW cX11_init 233 [85, 89, 5, 16, 102, 85, 89, 6, 16, 101, 85, 89, 7] = true := by decide +kernel
theorem dX11_init_233 : decode cX11_init 233 = .ok (.castore, 1) := dko_85 dwX11_init_233
theorem dX11_init_234 : decode cX11_init 234 = .ok (.dup, 1) := dko_89 (dk_t 1 234 [89, 5, 16, 102, 85, 89, 6, 16, 101, 85, 89, 7] dwX11_init_233 rfl rfl)
theorem dX11_init_235 : decode cX11_init 235 = .ok (.iconst 2, 1) := dko_5 (dk_t 2 235 [5, 16, 102, 85, 89, 6, 16, 101, 85, 89, 7] dwX11_init_233 rfl rfl)
theorem dX11_init_236 : decode cX11_init 236 = .ok (.bipush 102, 2) := dko_16 (dk_t 3 236 [16, 102, 85, 89, 6, 16, 101, 85, 89, 7] dwX11_init_233 rfl rfl)
theorem dX11_init_238 : decode cX11_init 238 = .ok (.castore, 1) := dko_85 (dk_t 5 238 [85, 89, 6, 16, 101, 85, 89, 7] dwX11_init_233 rfl rfl)
theorem dX11_init_239 : decode cX11_init 239 = .ok (.dup, 1) := dko_89 (dk_t 6 239 [89, 6, 16, 101, 85, 89, 7] dwX11_init_233 rfl rfl)
theorem dX11_init_240 : decode cX11_init 240 = .ok (.iconst 3, 1) := dko_6 (dk_t 7 240 [6, 16, 101, 85, 89, 7] dwX11_init_233 rfl rfl)
theorem dX11_init_241 : decode cX11_init 241 = .ok (.bipush 101, 2) := dko_16 (dk_t 8 241 [16, 101, 85, 89, 7] dwX11_init_233 rfl rfl)
theorem dX11_init_243 : decode cX11_init 243 = .ok (.castore, 1) := dko_85 (dk_t 10 243 [85, 89, 7] dwX11_init_233 rfl rfl)
theorem dX11_init_244 : decode cX11_init 244 = .ok (.dup, 1) := dko_89 (dk_t 11 244 [89, 7] dwX11_init_233 rfl rfl)
theorem dX11_init_245 : decode cX11_init 245 = .ok (.iconst 4, 1) := dko_7 (dk_t 12 245 [7] dwX11_init_233 rfl rfl)
theorem dwX11_init_246 : dkW cX11_init 246 [16, 114, 85, 89, 8, 16, 115, 85, 181, 0, 76, 42, 8] = true := by decide +kernel
theorem dX11_init_246 : decode cX11_init 246 = .ok (.bipush 114, 2) := dko_16 dwX11_init_246
theorem dX11_init_248 : decode cX11_init 248 = .ok (.castore, 1) := dko_85 (dk_t 2 248 [85, 89, 8, 16, 115, 85, 181, 0, 76, 42, 8] dwX11_init_246 rfl rfl)
theorem dX11_init_249 : decode cX11_init 249 = .ok (.dup, 1) := dko_89 (dk_t 3 249 [89, 8, 16, 115, 85, 181, 0, 76, 42, 8] dwX11_init_246 rfl rfl)
theorem dX11_init_250 : decode cX11_init 250 = .ok (.iconst 5, 1) := dko_8 (dk_t 4 250 [8, 16, 115, 85, 181, 0, 76, 42, 8] dwX11_init_246 rfl rfl)
theorem dX11_init_251 : decode cX11_init 251 = .ok (.bipush 115, 2) := dko_16 (dk_t 5 251 [16, 115, 85, 181, 0, 76, 42, 8] dwX11_init_246 rfl rfl)
theorem dX11_init_253 : decode cX11_init 253 = .ok (.castore, 1) := dko_85 (dk_t 7 253 [85, 181, 0, 76, 42, 8] dwX11_init_246 rfl rfl)
theorem dX11_init_254 : decode cX11_init 254 = .ok (.putfield 76, 3) := dko_181 (dk_t 8 254 [181, 0, 76, 42, 8] dwX11_init_246 rfl rfl)
theorem dX11_init_257 : decode cX11_init 257 = .ok (.aload_n 0, 1) := dko_42 (dk_t 11 257 [42, 8] dwX11_init_246 rfl rfl)
theorem dX11_init_258 : decode cX11_init 258 = .ok (.iconst 5, 1) := dko_8 (dk_t 12 258 [8] dwX11_init_246 rfl rfl)
theorem dwX11_init_259 : dkW cX11_init 259 [188, 5, 89, 3, 16, 114, 85, 89, 4, 16, 97, 85, 89, 5] = true := by decide +kernel
theorem dX11_init_259 : decode cX11_init 259 = .ok (.newarray .char, 2) := dko_188_5 dwX11_init_259
theorem dX11_init_261 : decode cX11_init 261 = .ok (.dup, 1) := dko_89 (dk_t 2 261 [89, 3, 16, 114, 85, 89, 4, 16, 97, 85, 89, 5] dwX11_init_259 rfl rfl)
theorem dX11_init_262 : decode cX11_init 262 = .ok (.iconst 0, 1) := dko_3 (dk_t 3 262 [3, 16, 114, 85, 89, 4, 16, 97, 85, 89, 5] dwX11_init_259 rfl rfl)
theorem dX11_init_263 : decode cX11_init 263 = .ok (.bipush 114, 2) := dko_16 (dk_t 4 263 [16, 114, 85, 89, 4, 16, 97, 85, 89, 5] dwX11_init_259 rfl rfl)
theorem dX11_init_265 : decode cX11_init 265 = .ok (.castore, 1) := dko_85 (dk_t 6 265 [85, 89, 4, 16, 97, 85, 89, 5] dwX11_init_259 rfl rfl)
theorem dX11_init_266 : decode cX11_init 266 = .ok (.dup, 1) := dko_89 (dk_t 7 266 [89, 4, 16, 97, 85, 89, 5] dwX11_init_259 rfl rfl)
theorem dX11_init_267 : decode cX11_init 267 = .ok (.iconst 1, 1) := dko_4 (dk_t 8 267 [4, 16, 97, 85, 89, 5] dwX11_init_259 rfl rfl)
theorem dX11_init_268 : decode cX11_init 268 = .ok (.bipush 97, 2) := dko_16 (dk_t 9 268 [16, 97, 85, 89, 5] dwX11_init_259 rfl rfl)
theorem dX11_init_270 : decode cX11_init 270 = .ok (.castore, 1) := dko_85 (dk_t 11 270 [85, 89, 5] dwX11_init_259 rfl rfl)
theorem dX11_init_271 : decode cX11_init 271 = .ok (.dup, 1) := dko_89 (dk_t 12 271 [89, 5] dwX11_init_259 rfl rfl)
theorem dX11_init_272 : decode cX11_init 272 = .ok (.iconst 2, 1) := dko_5 (dk_t 13 272 [5] dwX11_init_259 rfl rfl)
theorem dwX11_init_273 : dkW cX11_init 273 [16, 110, 85, 89, 6, 16, 103, 85, 89, 7, 16, 101, 85] = true := by decide +kernel
theorem dX11_init_273 : decode cX11_init 273 = .ok (.bipush 110, 2) := dko_16 dwX11_init_273
theorem dX11_init_275 : decode cX11_init 275 = .ok (.castore, 1) := dko_85 (dk_t 2 275 [85, 89, 6, 16, 103, 85, 89, 7, 16, 101, 85] dwX11_init_273 rfl rfl)
theorem dX11_init_276 : decode cX11_init 276 = .ok (.dup, 1) := dko_89 (dk_t 3 276 [89, 6, 16, 103, 85, 89, 7, 16, 101, 85] dwX11_init_273 rfl rfl)
theorem dX11_init_277 : decode cX11_init 277 = .ok (.iconst 3, 1) := dko_6 (dk_t 4 277 [6, 16, 103, 85, 89, 7, 16, 101, 85] dwX11_init_273 rfl rfl)
theorem dX11_init_278 : decode cX11_init 278 = .ok (.bipush 103, 2) := dko_16 (dk_t 5 278 [16, 103, 85, 89, 7, 16, 101, 85] dwX11_init_273 rfl rfl)
theorem dX11_init_280 : decode cX11_init 280 = .ok (.castore, 1) := dko_85 (dk_t 7 280 [85, 89, 7, 16, 101, 85] dwX11_init_273 rfl rfl)
theorem dX11_init_281 : decode cX11_init 281 = .ok (.dup, 1) := dko_89 (dk_t 8 281 [89, 7, 16, 101, 85] dwX11_init_273 rfl rfl)
theorem dX11_init_282 : decode cX11_init 282 = .ok (.iconst 4, 1) := dko_7 (dk_t 9 282 [7, 16, 101, 85] dwX11_init_273 rfl rfl)
theorem dX11_init_283 : decode cX11_init 283 = .ok (.bipush 101, 2) := dko_16 (dk_t 10 283 [16, 101, 85] dwX11_init_273 rfl rfl)
theorem dX11_init_285 : decode cX11_init 285 = .ok (.castore, 1) := dko_85 (dk_t 12 285 [85] dwX11_init_273 rfl rfl)
theorem dwX11_init_286 : dkW cX11_init 286 [181, 0, 79, 42, 6, 188, 5, 89, 3, 16, 115, 85, 89, 4] = true := by decide +kernel
theorem dX11_init_286 : decode cX11_init 286 = .ok (.putfield 79, 3) := dko_181 dwX11_init_286
theorem dX11_init_289 : decode cX11_init 289 = .ok (.aload_n 0, 1) := dko_42 (dk_t 3 289 [42, 6, 188, 5, 89, 3, 16, 115, 85, 89, 4] dwX11_init_286 rfl rfl)
theorem dX11_init_290 : decode cX11_init 290 = .ok (.iconst 3, 1) := dko_6 (dk_t 4 290 [6, 188, 5, 89, 3, 16, 115, 85, 89, 4] dwX11_init_286 rfl rfl)
theorem dX11_init_291 : decode cX11_init 291 = .ok (.newarray .char, 2) := dko_188_5 (dk_t 5 291 [188, 5, 89, 3, 16, 115, 85, 89, 4] dwX11_init_286 rfl rfl)
theorem dX11_init_293 : decode cX11_init 293 = .ok (.dup, 1) := dko_89 (dk_t 7 293 [89, 3, 16, 115, 85, 89, 4] dwX11_init_286 rfl rfl)
theorem dX11_init_294 : decode cX11_init 294 = .ok (.iconst 0, 1) := dko_3 (dk_t 8 294 [3, 16, 115, 85, 89, 4] dwX11_init_286 rfl rfl)
theorem dX11_init_295 : decode cX11_init 295 = .ok (.bipush 115, 2) := dko_16 (dk_t 9 295 [16, 115, 85, 89, 4] dwX11_init_286 rfl rfl)
theorem dX11_init_297 : decode cX11_init 297 = .ok (.castore, 1) := dko_85 (dk_t 11 297 [85, 89, 4] dwX11_init_286 rfl rfl)
theorem dX11_init_298 : decode cX11_init 298 = .ok (.dup, 1) := dko_89 (dk_t 12 298 [89, 4] dwX11_init_286 rfl rfl)
theorem dX11_init_299 : decode cX11_init 299 = .ok (.iconst 1, 1) := dko_4 (dk_t 13 299 [4] dwX11_init_286 rfl rfl)
theorem dwX11_init_300 : dkW cX11_init 300 [16, 117, 85, 89, 5, 16, 109, 85, 181, 0, 82, 42, 8] = true := by decide +kernel
theorem dX11_init_300 : decode cX11_init 300 = .ok (.bipush 117, 2) := dko_16 dwX11_init_300
theorem dX11_init_302 : decode cX11_init 302 = .ok (.castore, 1) := dko_85 (dk_t 2 302 [85, 89, 5, 16, 109, 85, 181, 0, 82, 42, 8] dwX11_init_300 rfl rfl)
theorem dX11_init_303 : decode cX11_init 303 = .ok (.dup, 1) := dko_89 (dk_t 3 303 [89, 5, 16, 109, 85, 181, 0, 82, 42, 8] dwX11_init_300 rfl rfl)
theorem dX11_init_304 : decode cX11_init 304 = .ok (.iconst 2, 1) := dko_5 (dk_t 4 304 [5, 16, 109, 85, 181, 0, 82, 42, 8] dwX11_init_300 rfl rfl)
theorem dX11_init_305 : decode cX11_init 305 = .ok (.bipush 109, 2) := dko_16 (dk_t 5 305 [16, 109, 85, 181, 0, 82, 42, 8] dwX11_init_300 rfl rfl)
theorem dX11_init_307 : decode cX11_init 307 = .ok (.castore, 1) := dko_85 (dk_t 7 307 [85, 181, 0, 82, 42, 8] dwX11_init_300 rfl rfl)
theorem dX11_init_308 : decode cX11_init 308 = .ok (.putfield 82, 3) := dko_181 (dk_t 8 308 [181, 0, 82, 42, 8] dwX11_init_300 rfl rfl)
theorem dX11_init_311 : decode cX11_init 311 = .ok (.aload_n 0, 1) := dko_42 (dk_t 11 311 [42, 8] dwX11_init_300 rfl rfl)
theorem dX11_init_312 : decode cX11_init 312 = .ok (.iconst 5, 1) := dko_8 (dk_t 12 312 [8] dwX11_init_300 rfl rfl)
theorem dwX11_init_313 : dkW cX11_init 313 [188, 5, 89, 3, 16, 99, 85, 89, 4, 16, 111, 85, 89, 5] = true := by decide +kernel
theorem dX11_init_313 : decode cX11_init 313 = .ok (.newarray .char, 2) := dko_188_5 dwX11_init_313
theorem dX11_init_315 : decode cX11_init 315 = .ok (.dup, 1) := dko_89 (dk_t 2 315 [89, 3, 16, 99, 85, 89, 4, 16, 111, 85, 89, 5] dwX11_init_313 rfl rfl)
theorem dX11_init_316 : decode cX11_init 316 = .ok (.iconst 0, 1) := dko_3 (dk_t 3 316 [3, 16, 99, 85, 89, 4, 16, 111, 85, 89, 5] dwX11_init_313 rfl rfl)
theorem dX11_init_317 : decode cX11_init 317 = .ok (.bipush 99, 2) := dko_16 (dk_t 4 317 [16, 99, 85, 89, 4, 16, 111, 85, 89, 5] dwX11_init_313 rfl rfl)
theorem dX11_init_319 : decode cX11_init 319 = .ok (.castore, 1) := dko_85 (dk_t 6 319 [85, 89, 4, 16, 111, 85, 89, 5] dwX11_init_313 rfl rfl)
theorem dX11_init_320 : decode cX11_init 320 = .ok (.dup, 1) := dko_89 (dk_t 7 320 [89, 4, 16, 111, 85, 89, 5] dwX11_init_313 rfl rfl)
theorem dX11_init_321 : decode cX11_init 321 = .ok (.iconst 1, 1) := dko_4 (dk_t 8 321 [4, 16, 111, 85, 89, 5] dwX11_init_313 rfl rfl)
theorem dX11_init_322 : decode cX11_init 322 = .ok (.bipush 111, 2) := dko_16 (dk_t 9 322 [16, 111, 85, 89, 5] dwX11_init_313 rfl rfl)
theorem dX11_init_324 : decode cX11_init 324 = .ok (.castore, 1) := dko_85 (dk_t 11 324 [85, 89, 5] dwX11_init_313 rfl rfl)
theorem dX11_init_325 : decode cX11_init 325 = .ok (.dup, 1) := dko_89 (dk_t 12 325 [89, 5] dwX11_init_313 rfl rfl)
theorem dX11_init_326 : decode cX11_init 326 = .ok (.iconst 2, 1) := dko_5 (dk_t 13 326 [5] dwX11_init_313 rfl rfl)
theorem dwX11_init_327 : dkW cX11_init 327 [16, 117, 85, 89, 6, 16, 110, 85, 89, 7, 16, 116, 85] = true := by decide +kernel
theorem dX11_init_327 : decode cX11_init 327 = .ok (.bipush 117, 2) := dko_16 dwX11_init_327
theorem dX11_init_329 : decode cX11_init 329 = .ok (.castore, 1) := dko_85 (dk_t 2 329 [85, 89, 6, 16, 110, 85, 89, 7, 16, 116, 85] dwX11_init_327 rfl rfl)
theorem dX11_init_330 : decode cX11_init 330 = .ok (.dup, 1) := dko_89 (dk_t 3 330 [89, 6, 16, 110, 85, 89, 7, 16, 116, 85] dwX11_init_327 rfl rfl)
theorem dX11_init_331 : decode cX11_init 331 = .ok (.iconst 3, 1) := dko_6 (dk_t 4 331 [6, 16, 110, 85, 89, 7, 16, 116, 85] dwX11_init_327 rfl rfl)
theorem dX11_init_332 : decode cX11_init 332 = .ok (.bipush 110, 2) := dko_16 (dk_t 5 332 [16, 110, 85, 89, 7, 16, 116, 85] dwX11_init_327 rfl rfl)
theorem dX11_init_334 : decode cX11_init 334 = .ok (.castore, 1) := dko_85 (dk_t 7 334 [85, 89, 7, 16, 116, 85] dwX11_init_327 rfl rfl)
theorem dX11_init_335 : decode cX11_init 335 = .ok (.dup, 1) := dko_89 (dk_t 8 335 [89, 7, 16, 116, 85] dwX11_init_327 rfl rfl)
theorem dX11_init_336 : decode cX11_init 336 = .ok (.iconst 4, 1) := dko_7 (dk_t 9 336 [7, 16, 116, 85] dwX11_init_327 rfl rfl)
theorem dX11_init_337 : decode cX11_init 337 = .ok (.bipush 116, 2) := dko_16 (dk_t 10 337 [16, 116, 85] dwX11_init_327 rfl rfl)
theorem dX11_init_339 : decode cX11_init 339 = .ok (.castore, 1) := dko_85 (dk_t 12 339 [85] dwX11_init_327 rfl rfl)
theorem dwX11_init_340 : dkW cX11_init 340 [181, 0, 85, 42, 7, 188, 5, 89, 3, 16, 116, 85, 89, 4] = true := by decide +kernel
theorem dX11_init_340 : decode cX11_init 340 = .ok (.putfield 85, 3) := dko_181 dwX11_init_340
theorem dX11_init_343 : decode cX11_init 343 = .ok (.aload_n 0, 1) := dko_42 (dk_t 3 343 [42, 7, 188, 5, 89, 3, 16, 116, 85, 89, 4] dwX11_init_340 rfl rfl)
theorem dX11_init_344 : decode cX11_init 344 = .ok (.iconst 4, 1) := dko_7 (dk_t 4 344 [7, 188, 5, 89, 3, 16, 116, 85, 89, 4] dwX11_init_340 rfl rfl)
theorem dX11_init_345 : decode cX11_init 345 = .ok (.newarray .char, 2) := dko_188_5 (dk_t 5 345 [188, 5, 89, 3, 16, 116, 85, 89, 4] dwX11_init_340 rfl rfl)
theorem dX11_init_347 : decode cX11_init 347 = .ok (.dup, 1) := dko_89 (dk_t 7 347 [89, 3, 16, 116, 85, 89, 4] dwX11_init_340 rfl rfl)
theorem dX11_init_348 : decode cX11_init 348 = .ok (.iconst 0, 1) := dko_3 (dk_t 8 348 [3, 16, 116, 85, 89, 4] dwX11_init_340 rfl rfl)
theorem dX11_init_349 : decode cX11_init 349 = .ok (.bipush 116, 2) := dko_16 (dk_t 9 349 [16, 116, 85, 89, 4] dwX11_init_340 rfl rfl)
theorem dX11_init_351 : decode cX11_init 351 = .ok (.castore, 1) := dko_85 (dk_t 11 351 [85, 89, 4] dwX11_init_340 rfl rfl)
theorem dX11_init_352 : decode cX11_init 352 = .ok (.dup, 1) := dko_89 (dk_t 12 352 [89, 4] dwX11_init_340 rfl rfl)
theorem dX11_init_353 : decode cX11_init 353 = .ok (.iconst 1, 1) := dko_4 (dk_t 13 353 [4] dwX11_init_340 rfl rfl)
theorem dwX11_init_354 : dkW cX11_init 354 [16, 114, 85, 89, 5, 16, 101, 85, 89, 6, 16, 101, 85] = true := by decide +kernel
theorem dX11_init_354 : decode cX11_init 354 = .ok (.bipush 114, 2) := dko_16 dwX11_init_354
theorem dX11_init_356 : decode cX11_init 356 = .ok (.castore, 1) := dko_85 (dk_t 2 356 [85, 89, 5, 16, 101, 85, 89, 6, 16, 101, 85] dwX11_init_354 rfl rfl)
theorem dX11_init_357 : decode cX11_init 357 = .ok (.dup, 1) := dko_89 (dk_t 3 357 [89, 5, 16, 101, 85, 89, 6, 16, 101, 85] dwX11_init_354 rfl rfl)
theorem dX11_init_358 : decode cX11_init 358 = .ok (.iconst 2, 1) := dko_5 (dk_t 4 358 [5, 16, 101, 85, 89, 6, 16, 101, 85] dwX11_init_354 rfl rfl)
theorem dX11_init_359 : decode cX11_init 359 = .ok (.bipush 101, 2) := dko_16 (dk_t 5 359 [16, 101, 85, 89, 6, 16, 101, 85] dwX11_init_354 rfl rfl)
theorem dX11_init_361 : decode cX11_init 361 = .ok (.castore, 1) := dko_85 (dk_t 7 361 [85, 89, 6, 16, 101, 85] dwX11_init_354 rfl rfl)
theorem dX11_init_362 : decode cX11_init 362 = .ok (.dup, 1) := dko_89 (dk_t 8 362 [89, 6, 16, 101, 85] dwX11_init_354 rfl rfl)
theorem dX11_init_363 : decode cX11_init 363 = .ok (.iconst 3, 1) := dko_6 (dk_t 9 363 [6, 16, 101, 85] dwX11_init_354 rfl rfl)
theorem dX11_init_364 : decode cX11_init 364 = .ok (.bipush 101, 2) := dko_16 (dk_t 10 364 [16, 101, 85] dwX11_init_354 rfl rfl)
theorem dX11_init_366 : decode cX11_init 366 = .ok (.castore, 1) := dko_85 (dk_t 12 366 [85] dwX11_init_354 rfl rfl)
theorem dwX11_init_367 : dkW cX11_init 367 [181, 0, 88, 42, 16, 7, 188, 5, 89, 3, 16, 99, 85, 89] = true := by decide +kernel
theorem dX11_init_367 : decode cX11_init 367 = .ok (.putfield 88, 3) := dko_181 dwX11_init_367
theorem dX11_init_370 : decode cX11_init 370 = .ok (.aload_n 0, 1) := dko_42 (dk_t 3 370 [42, 16, 7, 188, 5, 89, 3, 16, 99, 85, 89] dwX11_init_367 rfl rfl)
theorem dX11_init_371 : decode cX11_init 371 = .ok (.bipush 7, 2) := dko_16 (dk_t 4 371 [16, 7, 188, 5, 89, 3, 16, 99, 85, 89] dwX11_init_367 rfl rfl)
theorem dX11_init_373 : decode cX11_init 373 = .ok (.newarray .char, 2) := dko_188_5 (dk_t 6 373 [188, 5, 89, 3, 16, 99, 85, 89] dwX11_init_367 rfl rfl)
theorem dX11_init_375 : decode cX11_init 375 = .ok (.dup, 1) := dko_89 (dk_t 8 375 [89, 3, 16, 99, 85, 89] dwX11_init_367 rfl rfl)
theorem dX11_init_376 : decode cX11_init 376 = .ok (.iconst 0, 1) := dko_3 (dk_t 9 376 [3, 16, 99, 85, 89] dwX11_init_367 rfl rfl)
theorem dX11_init_377 : decode cX11_init 377 = .ok (.bipush 99, 2) := dko_16 (dk_t 10 377 [16, 99, 85, 89] dwX11_init_367 rfl rfl)
theorem dX11_init_379 : decode cX11_init 379 = .ok (.castore, 1) := dko_85 (dk_t 12 379 [85, 89] dwX11_init_367 rfl rfl)
theorem dX11_init_380 : decode cX11_init 380 = .ok (.dup, 1) := dko_89 (dk_t 13 380 [89] dwX11_init_367 rfl rfl)
theorem dwX11_init_381 : dkW cX11_init 381 [4, 16, 97, 85, 89, 5, 16, 115, 85, 89, 6, 16, 99, 85] = true := by decide +kernel
theorem dX11_init_381 : decode cX11_init 381 = .ok (.iconst 1, 1) := dko_4 dwX11_init_381
theorem dX11_init_382 : decode cX11_init 382 = .ok (.bipush 97, 2) := dko_16 (dk_t 1 382 [16, 97, 85, 89, 5, 16, 115, 85, 89, 6, 16, 99, 85] dwX11_init_381 rfl rfl)
theorem dX11_init_384 : decode cX11_init 384 = .ok (.castore, 1) := dko_85 (dk_t 3 384 [85, 89, 5, 16, 115, 85, 89, 6, 16, 99, 85] dwX11_init_381 rfl rfl)
theorem dX11_init_385 : decode cX11_init 385 = .ok (.dup, 1) := dko_89 (dk_t 4 385 [89, 5, 16, 115, 85, 89, 6, 16, 99, 85] dwX11_init_381 rfl rfl)
theorem dX11_init_386 : decode cX11_init 386 = .ok (.iconst 2, 1) := dko_5 (dk_t 5 386 [5, 16, 115, 85, 89, 6, 16, 99, 85] dwX11_init_381 rfl rfl)
theorem dX11_init_387 : decode cX11_init 387 = .ok (.bipush 115, 2) := dko_16 (dk_t 6 387 [16, 115, 85, 89, 6, 16, 99, 85] dwX11_init_381 rfl rfl)
theorem dX11_init_389 : decode cX11_init 389 = .ok (.castore, 1) := dko_85 (dk_t 8 389 [85, 89, 6, 16, 99, 85] dwX11_init_381 rfl rfl)
theorem dX11_init_390 : decode cX11_init 390 = .ok (.dup, 1) := dko_89 (dk_t 9 390 [89, 6, 16, 99, 85] dwX11_init_381 rfl rfl)
theorem dX11_init_391 : decode cX11_init 391 = .ok (.iconst 3, 1) := dko_6 (dk_t 10 391 [6, 16, 99, 85] dwX11_init_381 rfl rfl)
theorem dX11_init_392 : decode cX11_init 392 = .ok (.bipush 99, 2) := dko_16 (dk_t 11 392 [16, 99, 85] dwX11_init_381 rfl rfl)
theorem dX11_init_394 : decode cX11_init 394 = .ok (.castore, 1) := dko_85 (dk_t 13 394 [85] dwX11_init_381 rfl rfl)
theorem dwX11_init_395 : dkW cX11_init 395 [89, 7, 16, 97, 85, 89, 8, 16, 100, 85, 89, 16, 6] = true := by decide +kernel
theorem dX11_init_395 : decode cX11_init 395 = .ok (.dup, 1) := dko_89 dwX11_init_395
theorem dX11_init_396 : decode cX11_init 396 = .ok (.iconst 4, 1) := dko_7 (dk_t 1 396 [7, 16, 97, 85, 89, 8, 16, 100, 85, 89, 16, 6] dwX11_init_395 rfl rfl)
theorem dX11_init_397 : decode cX11_init 397 = .ok (.bipush 97, 2) := dko_16 (dk_t 2 397 [16, 97, 85, 89, 8, 16, 100, 85, 89, 16, 6] dwX11_init_395 rfl rfl)
theorem dX11_init_399 : decode cX11_init 399 = .ok (.castore, 1) := dko_85 (dk_t 4 399 [85, 89, 8, 16, 100, 85, 89, 16, 6] dwX11_init_395 rfl rfl)
theorem dX11_init_400 : decode cX11_init 400 = .ok (.dup, 1) := dko_89 (dk_t 5 400 [89, 8, 16, 100, 85, 89, 16, 6] dwX11_init_395 rfl rfl)
theorem dX11_init_401 : decode cX11_init 401 = .ok (.iconst 5, 1) := dko_8 (dk_t 6 401 [8, 16, 100, 85, 89, 16, 6] dwX11_init_395 rfl rfl)
theorem dX11_init_402 : decode cX11_init 402 = .ok (.bipush 100, 2) := dko_16 (dk_t 7 402 [16, 100, 85, 89, 16, 6] dwX11_init_395 rfl rfl)
theorem dX11_init_404 : decode cX11_init 404 = .ok (.castore, 1) := dko_85 (dk_t 9 404 [85, 89, 16, 6] dwX11_init_395 rfl rfl)
theorem dX11_init_405 : decode cX11_init 405 = .ok (.dup, 1) := dko_89 (dk_t 10 405 [89, 16, 6] dwX11_init_395 rfl rfl)
theorem dX11_init_406 : decode cX11_init 406 = .ok (.bipush 6, 2) := dko_16 (dk_t 11 406 [16, 6] dwX11_init_395 rfl rfl)
theorem dwX11_init_408 : dkW cX11_init 408 [16, 101, 85, 181, 0, 91, 42, 8, 188, 5, 89, 3, 16, 99] = true := by decide +kernel
theorem dX11_init_408 : decode cX11_init 408 = .ok (.bipush 101, 2) := dko_16 dwX11_init_408
theorem dX11_init_410 : decode cX11_init 410 = .ok (.castore, 1) := dko_85 (dk_t 2 410 [85, 181, 0, 91, 42, 8, 188, 5, 89, 3, 16, 99] dwX11_init_408 rfl rfl)
theorem dX11_init_411 : decode cX11_init 411 = .ok (.putfield 91, 3) := dko_181 (dk_t 3 411 [181, 0, 91, 42, 8, 188, 5, 89, 3, 16, 99] dwX11_init_408 rfl rfl)
theorem dX11_init_414 : decode cX11_init 414 = .ok (.aload_n 0, 1) := dko_42 (dk_t 6 414 [42, 8, 188, 5, 89, 3, 16, 99] dwX11_init_408 rfl rfl)
theorem dX11_init_415 : decode cX11_init 415 = .ok (.iconst 5, 1) := dko_8 (dk_t 7 415 [8, 188, 5, 89, 3, 16, 99] dwX11_init_408 rfl rfl)
theorem dX11_init_416 : decode cX11_init 416 = .ok (.newarray .char, 2) := dko_188_5 (dk_t 8 416 [188, 5, 89, 3, 16, 99] dwX11_init_408 rfl rfl)
theorem dX11_init_418 : decode cX11_init 418 = .ok (.dup, 1) := dko_89 (dk_t 10 418 [89, 3, 16, 99] dwX11_init_408 rfl rfl)
theorem dX11_init_419 : decode cX11_init 419 = .ok (.iconst 0, 1) := dko_3 (dk_t 11 419 [3, 16, 99] dwX11_init_408 rfl rfl)
theorem dX11_init_420 : decode cX11_init 420 = .ok (.bipush 99, 2) := dko_16 (dk_t 12 420 [16, 99] dwX11_init_408 rfl rfl)
theorem dwX11_init_422 : dkW cX11_init 422 [85, 89, 4, 16, 108, 85, 89, 5, 16, 101, 85, 89, 6] = true := by decide +kernel
theorem dX11_init_422 : decode cX11_init 422 = .ok (.castore, 1) := dko_85 dwX11_init_422
theorem dX11_init_423 : decode cX11_init 423 = .ok (.dup, 1) := dko_89 (dk_t 1 423 [89, 4, 16, 108, 85, 89, 5, 16, 101, 85, 89, 6] dwX11_init_422 rfl rfl)
theorem dX11_init_424 : decode cX11_init 424 = .ok (.iconst 1, 1) := dko_4 (dk_t 2 424 [4, 16, 108, 85, 89, 5, 16, 101, 85, 89, 6] dwX11_init_422 rfl rfl)
theorem dX11_init_425 : decode cX11_init 425 = .ok (.bipush 108, 2) := dko_16 (dk_t 3 425 [16, 108, 85, 89, 5, 16, 101, 85, 89, 6] dwX11_init_422 rfl rfl)
theorem dX11_init_427 : decode cX11_init 427 = .ok (.castore, 1) := dko_85 (dk_t 5 427 [85, 89, 5, 16, 101, 85, 89, 6] dwX11_init_422 rfl rfl)
theorem dX11_init_428 : decode cX11_init 428 = .ok (.dup, 1) := dko_89 (dk_t 6 428 [89, 5, 16, 101, 85, 89, 6] dwX11_init_422 rfl rfl)
theorem dX11_init_429 : decode cX11_init 429 = .ok (.iconst 2, 1) := dko_5 (dk_t 7 429 [5, 16, 101, 85, 89, 6] dwX11_init_422 rfl rfl)
theorem dX11_init_430 : decode cX11_init 430 = .ok (.bipush 101, 2) := dko_16 (dk_t 8 430 [16, 101, 85, 89, 6] dwX11_init_422 rfl rfl)
theorem dX11_init_432 : decode cX11_init 432 = .ok (.castore, 1) := dko_85 (dk_t 10 432 [85, 89, 6] dwX11_init_422 rfl rfl)
theorem dX11_init_433 : decode cX11_init 433 = .ok (.dup, 1) := dko_89 (dk_t 11 433 [89, 6] dwX11_init_422 rfl rfl)
theorem dX11_init_434 : decode cX11_init 434 = .ok (.iconst 3, 1) := dko_6 (dk_t 12 434 [6] dwX11_init_422 rfl rfl)
theorem dwX11_init_435 : dkW cX11_init 435 [16, 97, 85, 89, 7, 16, 114, 85, 181, 0, 94, 42, 7] = true := by decide +kernel
theorem dX11_init_435 : decode cX11_init 435 = .ok (.bipush 97, 2) := dko_16 dwX11_init_435
theorem dX11_init_437 : decode cX11_init 437 = .ok (.castore, 1) := dko_85 (dk_t 2 437 [85, 89, 7, 16, 114, 85, 181, 0, 94, 42, 7] dwX11_init_435 rfl rfl)
theorem dX11_init_438 : decode cX11_init 438 = .ok (.dup, 1) := dko_89 (dk_t 3 438 [89, 7, 16, 114, 85, 181, 0, 94, 42, 7] dwX11_init_435 rfl rfl)
theorem dX11_init_439 : decode cX11_init 439 = .ok (.iconst 4, 1) := dko_7 (dk_t 4 439 [7, 16, 114, 85, 181, 0, 94, 42, 7] dwX11_init_435 rfl rfl)
theorem dX11_init_440 : decode cX11_init 440 = .ok (.bipush 114, 2) := dko_16 (dk_t 5 440 [16, 114, 85, 181, 0, 94, 42, 7] dwX11_init_435 rfl rfl)
theorem dX11_init_442 : decode cX11_init 442 = .ok (.castore, 1) := dko_85 (dk_t 7 442 [85, 181, 0, 94, 42, 7] dwX11_init_435 rfl rfl)
theorem dX11_init_443 : decode cX11_init 443 = .ok (.putfield 94, 3) := dko_181 (dk_t 8 443 [181, 0, 94, 42, 7] dwX11_init_435 rfl rfl)
theorem dX11_init_446 : decode cX11_init 446 = .ok (.aload_n 0, 1) := dko_42 (dk_t 11 446 [42, 7] dwX11_init_435 rfl rfl)
theorem dX11_init_447 : decode cX11_init 447 = .ok (.iconst 4, 1) := dko_7 (dk_t 12 447 [7] dwX11_init_435 rfl rfl)
theorem dwX11_init_448 : dkW cX11_init 448 [188, 5, 89, 3, 16, 108, 85, 89, 4, 16, 97, 85, 89, 5] = true := by decide +kernel
theorem dX11_init_448 : decode cX11_init 448 = .ok (.newarray .char, 2) := dko_188_5 dwX11_init_448
theorem dX11_init_450 : decode cX11_init 450 = .ok (.dup, 1) := dko_89 (dk_t 2 450 [89, 3, 16, 108, 85, 89, 4, 16, 97, 85, 89, 5] dwX11_init_448 rfl rfl)
theorem dX11_init_451 : decode cX11_init 451 = .ok (.iconst 0, 1) := dko_3 (dk_t 3 451 [3, 16, 108, 85, 89, 4, 16, 97, 85, 89, 5] dwX11_init_448 rfl rfl)
theorem dX11_init_452 : decode cX11_init 452 = .ok (.bipush 108, 2) := dko_16 (dk_t 4 452 [16, 108, 85, 89, 4, 16, 97, 85, 89, 5] dwX11_init_448 rfl rfl)
theorem dX11_init_454 : decode cX11_init 454 = .ok (.castore, 1) := dko_85 (dk_t 6 454 [85, 89, 4, 16, 97, 85, 89, 5] dwX11_init_448 rfl rfl)
theorem dX11_init_455 : decode cX11_init 455 = .ok (.dup, 1) := dko_89 (dk_t 7 455 [89, 4, 16, 97, 85, 89, 5] dwX11_init_448 rfl rfl)
theorem dX11_init_456 : decode cX11_init 456 = .ok (.iconst 1, 1) := dko_4 (dk_t 8 456 [4, 16, 97, 85, 89, 5] dwX11_init_448 rfl rfl)
theorem dX11_init_457 : decode cX11_init 457 = .ok (.bipush 97, 2) := dko_16 (dk_t 9 457 [16, 97, 85, 89, 5] dwX11_init_448 rfl rfl)
theorem dX11_init_459 : decode cX11_init 459 = .ok (.castore, 1) := dko_85 (dk_t 11 459 [85, 89, 5] dwX11_init_448 rfl rfl)
theorem dX11_init_460 : decode cX11_init 460 = .ok (.dup, 1) := dko_89 (dk_t 12 460 [89, 5] dwX11_init_448 rfl rfl)
theorem dX11_init_461 : decode cX11_init 461 = .ok (.iconst 2, 1) := dko_5 (dk_t 13 461 [5] dwX11_init_448 rfl rfl)
theorem dwX11_init_462 : dkW cX11_init 462 [16, 116, 85, 89, 6, 16, 101, 85, 181, 0, 97, 42, 7] = true := by decide +kernel
theorem dX11_init_462 : decode cX11_init 462 = .ok (.bipush 116, 2) := dko_16 dwX11_init_462
theorem dX11_init_464 : decode cX11_init 464 = .ok (.castore, 1) := dko_85 (dk_t 2 464 [85, 89, 6, 16, 101, 85, 181, 0, 97, 42, 7] dwX11_init_462 rfl rfl)
theorem dX11_init_465 : decode cX11_init 465 = .ok (.dup, 1) := dko_89 (dk_t 3 465 [89, 6, 16, 101, 85, 181, 0, 97, 42, 7] dwX11_init_462 rfl rfl)
theorem dX11_init_466 : decode cX11_init 466 = .ok (.iconst 3, 1) := dko_6 (dk_t 4 466 [6, 16, 101, 85, 181, 0, 97, 42, 7] dwX11_init_462 rfl rfl)
theorem dX11_init_467 : decode cX11_init 467 = .ok (.bipush 101, 2) := dko_16 (dk_t 5 467 [16, 101, 85, 181, 0, 97, 42, 7] dwX11_init_462 rfl rfl)
theorem dX11_init_469 : decode cX11_init 469 = .ok (.castore, 1) := dko_85 (dk_t 7 469 [85, 181, 0, 97, 42, 7] dwX11_init_462 rfl rfl)
theorem dX11_init_470 : decode cX11_init 470 = .ok (.putfield 97, 3) := dko_181 (dk_t 8 470 [181, 0, 97, 42, 7] dwX11_init_462 rfl rfl)
theorem dX11_init_473 : decode cX11_init 473 = .ok (.aload_n 0, 1) := dko_42 (dk_t 11 473 [42, 7] dwX11_init_462 rfl rfl)
theorem dX11_init_474 : decode cX11_init 474 = .ok (.iconst 4, 1) := dko_7 (dk_t 12 474 [7] dwX11_init_462 rfl rfl)
theorem dwX11_init_475 : dkW cX11_init 475 [188, 5, 89, 3, 16, 114, 85, 89, 4, 16, 97, 85, 89, 5] = true := by decide +kernel
theorem dX11_init_475 : decode cX11_init 475 = .ok (.newarray .char, 2) := dko_188_5 dwX11_init_475
theorem dX11_init_477 : decode cX11_init 477 = .ok (.dup, 1) := dko_89 (dk_t 2 477 [89, 3, 16, 114, 85, 89, 4, 16, 97, 85, 89, 5] dwX11_init_475 rfl rfl)
theorem dX11_init_478 : decode cX11_init 478 = .ok (.iconst 0, 1) := dko_3 (dk_t 3 478 [3, 16, 114, 85, 89, 4, 16, 97, 85, 89, 5] dwX11_init_475 rfl rfl)
theorem dX11_init_479 : decode cX11_init 479 = .ok (.bipush 114, 2) := dko_16 (dk_t 4 479 [16, 114, 85, 89, 4, 16, 97, 85, 89, 5] dwX11_init_475 rfl rfl)
theorem dX11_init_481 : decode cX11_init 481 = .ok (.castore, 1) := dko_85 (dk_t 6 481 [85, 89, 4, 16, 97, 85, 89, 5] dwX11_init_475 rfl rfl)
theorem dX11_init_482 : decode cX11_init 482 = .ok (.dup, 1) := dko_89 (dk_t 7 482 [89, 4, 16, 97, 85, 89, 5] dwX11_init_475 rfl rfl)
theorem dX11_init_483 : decode cX11_init 483 = .ok (.iconst 1, 1) := dko_4 (dk_t 8 483 [4, 16, 97, 85, 89, 5] dwX11_init_475 rfl rfl)
theorem dX11_init_484 : decode cX11_init 484 = .ok (.bipush 97, 2) := dko_16 (dk_t 9 484 [16, 97, 85, 89, 5] dwX11_init_475 rfl rfl)
theorem dX11_init_486 : decode cX11_init 486 = .ok (.castore, 1) := dko_85 (dk_t 11 486 [85, 89, 5] dwX11_init_475 rfl rfl)
theorem dX11_init_487 : decode cX11_init 487 = .ok (.dup, 1) := dko_89 (dk_t 12 487 [89, 5] dwX11_init_475 rfl rfl)
theorem dX11_init_488 : decode cX11_init 488 = .ok (.iconst 2, 1) := dko_5 (dk_t 13 488 [5] dwX11_init_475 rfl rfl)
theorem dwX11_init_489 : dkW cX11_init 489 [16, 110, 85, 89, 6, 16, 107, 85, 181, 0, 100, 42, 16, 80] = true := by decide +kernel
theorem dX11_init_489 : decode cX11_init 489 = .ok (.bipush 110, 2) := dko_16 dwX11_init_489
theorem dX11_init_491 : decode cX11_init 491 = .ok (.castore, 1) := dko_85 (dk_t 2 491 [85, 89, 6, 16, 107, 85, 181, 0, 100, 42, 16, 80] dwX11_init_489 rfl rfl)
theorem dX11_init_492 : decode cX11_init 492 = .ok (.dup, 1) := dko_89 (dk_t 3 492 [89, 6, 16, 107, 85, 181, 0, 100, 42, 16, 80] dwX11_init_489 rfl rfl)
theorem dX11_init_493 : decode cX11_init 493 = .ok (.iconst 3, 1) := dko_6 (dk_t 4 493 [6, 16, 107, 85, 181, 0, 100, 42, 16, 80] dwX11_init_489 rfl rfl)
theorem dX11_init_494 : decode cX11_init 494 = .ok (.bipush 107, 2) := dko_16 (dk_t 5 494 [16, 107, 85, 181, 0, 100, 42, 16, 80] dwX11_init_489 rfl rfl)
theorem dX11_init_496 : decode cX11_init 496 = .ok (.castore, 1) := dko_85 (dk_t 7 496 [85, 181, 0, 100, 42, 16, 80] dwX11_init_489 rfl rfl)
theorem dX11_init_497 : decode cX11_init 497 = .ok (.putfield 100, 3) := dko_181 (dk_t 8 497 [181, 0, 100, 42, 16, 80] dwX11_init_489 rfl rfl)
theorem dX11_init_500 : decode cX11_init 500 = .ok (.aload_n 0, 1) := dko_42 (dk_t 11 500 [42, 16, 80] dwX11_init_489 rfl rfl)
theorem dX11_init_501 : decode cX11_init 501 = .ok (.bipush 80, 2) := dko_16 (dk_t 12 501 [16, 80] dwX11_init_489 rfl rfl)
theorem dwX11_init_503 : dkW cX11_init 503 [188, 8, 181, 0, 103, 42, 16, 10, 188, 10, 181, 0, 106, 42] = true := by decide +kernel
theorem dX11_init_503 : decode cX11_init 503 = .ok (.newarray .byte, 2) := dko_188_8 dwX11_init_503
theorem dX11_init_505 : decode cX11_init 505 = .ok (.putfield 103, 3) := dko_181 (dk_t 2 505 [181, 0, 103, 42, 16, 10, 188, 10, 181, 0, 106, 42] dwX11_init_503 rfl rfl)
theorem dX11_init_508 : decode cX11_init 508 = .ok (.aload_n 0, 1) := dko_42 (dk_t 5 508 [42, 16, 10, 188, 10, 181, 0, 106, 42] dwX11_init_503 rfl rfl)
theorem dX11_init_509 : decode cX11_init 509 = .ok (.bipush 10, 2) := dko_16 (dk_t 6 509 [16, 10, 188, 10, 181, 0, 106, 42] dwX11_init_503 rfl rfl)
theorem dX11_init_511 : decode cX11_init 511 = .ok (.newarray .int, 2) := dko_188_10 (dk_t 8 511 [188, 10, 181, 0, 106, 42] dwX11_init_503 rfl rfl)
theorem dX11_init_513 : decode cX11_init 513 = .ok (.putfield 106, 3) := dko_181 (dk_t 10 513 [181, 0, 106, 42] dwX11_init_503 rfl rfl)
theorem dX11_init_516 : decode cX11_init 516 = .ok (.aload_n 0, 1) := dko_42 (dk_t 13 516 [42] dwX11_init_503 rfl rfl)
theorem dwX11_init_517 : dkW cX11_init 517 [17, 9, 96, 188, 10, 181, 0, 109, 42, 17, 9, 96, 188, 10] = true := by decide +kernel
theorem dX11_init_517 : decode cX11_init 517 = .ok (.sipush 2400, 3) := dko_17 dwX11_init_517
theorem dX11_init_520 : decode cX11_init 520 = .ok (.newarray .int, 2) := dko_188_10 (dk_t 3 520 [188, 10, 181, 0, 109, 42, 17, 9, 96, 188, 10] dwX11_init_517 rfl rfl)
theorem dX11_init_522 : decode cX11_init 522 = .ok (.putfield 109, 3) := dko_181 (dk_t 5 522 [181, 0, 109, 42, 17, 9, 96, 188, 10] dwX11_init_517 rfl rfl)
theorem dX11_init_525 : decode cX11_init 525 = .ok (.aload_n 0, 1) := dko_42 (dk_t 8 525 [42, 17, 9, 96, 188, 10] dwX11_init_517 rfl rfl)
theorem dX11_init_526 : decode cX11_init 526 = .ok (.sipush 2400, 3) := dko_17 (dk_t 9 526 [17, 9, 96, 188, 10] dwX11_init_517 rfl rfl)
theorem dX11_init_529 : decode cX11_init 529 = .ok (.newarray .int, 2) := dko_188_10 (dk_t 12 529 [188, 10] dwX11_init_517 rfl rfl)
theorem dwX11_init_531 : dkW cX11_init 531 [181, 0, 112, 42, 2, 181, 0, 115, 42, 16, 90, 188, 10] = true := by decide +kernel
theorem dX11_init_531 : decode cX11_init 531 = .ok (.putfield 112, 3) := dko_181 dwX11_init_531
theorem dX11_init_534 : decode cX11_init 534 = .ok (.aload_n 0, 1) := dko_42 (dk_t 3 534 [42, 2, 181, 0, 115, 42, 16, 90, 188, 10] dwX11_init_531 rfl rfl)
theorem dX11_init_535 : decode cX11_init 535 = .ok (.iconst (-1), 1) := dko_2 (dk_t 4 535 [2, 181, 0, 115, 42, 16, 90, 188, 10] dwX11_init_531 rfl rfl)
theorem dX11_init_536 : decode cX11_init 536 = .ok (.putfield 115, 3) := dko_181 (dk_t 5 536 [181, 0, 115, 42, 16, 90, 188, 10] dwX11_init_531 rfl rfl)
theorem dX11_init_539 : decode cX11_init 539 = .ok (.aload_n 0, 1) := dko_42 (dk_t 8 539 [42, 16, 90, 188, 10] dwX11_init_531 rfl rfl)
theorem dX11_init_540 : decode cX11_init 540 = .ok (.bipush 90, 2) := dko_16 (dk_t 9 540 [16, 90, 188, 10] dwX11_init_531 rfl rfl)
theorem dX11_init_542 : decode cX11_init 542 = .ok (.newarray .int, 2) := dko_188_10 (dk_t 11 542 [188, 10] dwX11_init_531 rfl rfl)
theorem dwX11_init_544 : dkW cX11_init 544 [181, 0, 118, 42, 16, 90, 188, 10, 181, 0, 121, 42, 16, 90] = true := by decide +kernel
theorem dX11_init_544 : decode cX11_init 544 = .ok (.putfield 118, 3) := dko_181 dwX11_init_544
theorem dX11_init_547 : decode cX11_init 547 = .ok (.aload_n 0, 1) := dko_42 (dk_t 3 547 [42, 16, 90, 188, 10, 181, 0, 121, 42, 16, 90] dwX11_init_544 rfl rfl)
theorem dX11_init_548 : decode cX11_init 548 = .ok (.bipush 90, 2) := dko_16 (dk_t 4 548 [16, 90, 188, 10, 181, 0, 121, 42, 16, 90] dwX11_init_544 rfl rfl)
theorem dX11_init_550 : decode cX11_init 550 = .ok (.newarray .int, 2) := dko_188_10 (dk_t 6 550 [188, 10, 181, 0, 121, 42, 16, 90] dwX11_init_544 rfl rfl)
theorem dX11_init_552 : decode cX11_init 552 = .ok (.putfield 121, 3) := dko_181 (dk_t 8 552 [181, 0, 121, 42, 16, 90] dwX11_init_544 rfl rfl)
theorem dX11_init_555 : decode cX11_init 555 = .ok (.aload_n 0, 1) := dko_42 (dk_t 11 555 [42, 16, 90] dwX11_init_544 rfl rfl)
theorem dX11_init_556 : decode cX11_init 556 = .ok (.bipush 90, 2) := dko_16 (dk_t 12 556 [16, 90] dwX11_init_544 rfl rfl)
theorem dwX11_init_558 : dkW cX11_init 558 [188, 10, 181, 0, 124, 42, 16, 90, 188, 10, 181, 0, 127, 42] = true := by decide +kernel
theorem dX11_init_558 : decode cX11_init 558 = .ok (.newarray .int, 2) := dko_188_10 dwX11_init_558
theorem dX11_init_560 : decode cX11_init 560 = .ok (.putfield 124, 3) := dko_181 (dk_t 2 560 [181, 0, 124, 42, 16, 90, 188, 10, 181, 0, 127, 42] dwX11_init_558 rfl rfl)
theorem dX11_init_563 : decode cX11_init 563 = .ok (.aload_n 0, 1) := dko_42 (dk_t 5 563 [42, 16, 90, 188, 10, 181, 0, 127, 42] dwX11_init_558 rfl rfl)
theorem dX11_init_564 : decode cX11_init 564 = .ok (.bipush 90, 2) := dko_16 (dk_t 6 564 [16, 90, 188, 10, 181, 0, 127, 42] dwX11_init_558 rfl rfl)
theorem dX11_init_566 : decode cX11_init 566 = .ok (.newarray .int, 2) := dko_188_10 (dk_t 8 566 [188, 10, 181, 0, 127, 42] dwX11_init_558 rfl rfl)
theorem dX11_init_568 : decode cX11_init 568 = .ok (.putfield 127, 3) := dko_181 (dk_t 10 568 [181, 0, 127, 42] dwX11_init_558 rfl rfl)
theorem dX11_init_571 : decode cX11_init 571 = .ok (.aload_n 0, 1) := dko_42 (dk_t 13 571 [42] dwX11_init_558 rfl rfl)
theorem dwX11_init_572 : dkW cX11_init 572 [16, 90, 188, 4, 181, 0, 130, 3, 60, 27, 16, 12] = true := by decide +kernel
theorem dX11_init_572 : decode cX11_init 572 = .ok (.bipush 90, 2) := dko_16 dwX11_init_572
theorem dX11_init_574 : decode cX11_init 574 = .ok (.newarray .boolean, 2) := dko_188_4 (dk_t 2 574 [188, 4, 181, 0, 130, 3, 60, 27, 16, 12] dwX11_init_572 rfl rfl)
theorem dX11_init_576 : decode cX11_init 576 = .ok (.putfield 130, 3) := dko_181 (dk_t 4 576 [181, 0, 130, 3, 60, 27, 16, 12] dwX11_init_572 rfl rfl)
theorem dX11_init_579 : decode cX11_init 579 = .ok (.iconst 0, 1) := dko_3 (dk_t 7 579 [3, 60, 27, 16, 12] dwX11_init_572 rfl rfl)
theorem dX11_init_580 : decode cX11_init 580 = .ok (.istore_n 1, 1) := dko_60 (dk_t 8 580 [60, 27, 16, 12] dwX11_init_572 rfl rfl)
theorem dX11_init_581 : decode cX11_init 581 = .ok (.iload_n 1, 1) := dko_27 (dk_t 9 581 [27, 16, 12] dwX11_init_572 rfl rfl)
theorem dX11_init_582 : decode cX11_init 582 = .ok (.bipush 12, 2) := dko_16 (dk_t 10 582 [16, 12] dwX11_init_572 rfl rfl)
theorem dwX11_init_584 : dkW cX11_init 584 [162, 0, 19, 42, 180, 0, 33, 16, 10, 27, 104, 2, 79] = true := by decide +kernel
theorem dX11_init_584 : decode cX11_init 584 = .ok (.if_icmp .ge 19, 3) := dko_162 dwX11_init_584
theorem dX11_init_587 : decode cX11_init 587 = .ok (.aload_n 0, 1) := dko_42 (dk_t 3 587 [42, 180, 0, 33, 16, 10, 27, 104, 2, 79] dwX11_init_584 rfl rfl)
theorem dX11_init_588 : decode cX11_init 588 = .ok (.getfield 33, 3) := dko_180 (dk_t 4 588 [180, 0, 33, 16, 10, 27, 104, 2, 79] dwX11_init_584 rfl rfl)
theorem dX11_init_591 : decode cX11_init 591 = .ok (.bipush 10, 2) := dko_16 (dk_t 7 591 [16, 10, 27, 104, 2, 79] dwX11_init_584 rfl rfl)
theorem dX11_init_593 : decode cX11_init 593 = .ok (.iload_n 1, 1) := dko_27 (dk_t 9 593 [27, 104, 2, 79] dwX11_init_584 rfl rfl)
theorem dX11_init_594 : decode cX11_init 594 = .ok (.imul, 1) := dko_104 (dk_t 10 594 [104, 2, 79] dwX11_init_584 rfl rfl)
theorem dX11_init_595 : decode cX11_init 595 = .ok (.iconst (-1), 1) := dko_2 (dk_t 11 595 [2, 79] dwX11_init_584 rfl rfl)
theorem dX11_init_596 : decode cX11_init 596 = .ok (.iastore, 1) := dko_79 (dk_t 12 596 [79] dwX11_init_584 rfl rfl)
theorem dwX11_init_597 : dkW cX11_init 597 [132, 1, 1, 167, 255, 237, 177] = true := by decide +kernel
theorem dX11_init_597 : decode cX11_init 597 = .ok (.iinc 1 1, 3) := dko_132 dwX11_init_597
theorem dX11_init_600 : decode cX11_init 600 = .ok (.goto (-19), 3) := dko_167 (dk_t 3 600 [167, 255, 237, 177] dwX11_init_597 rfl rfl)
theorem dX11_init_603 : decode cX11_init 603 = .ok (.return_, 1) := dko_177 (dk_t 6 603 [177] dwX11_init_597 rfl rfl)
theorem dwX11_in_0 : dkW cX11_in 0 [30, 32, 148, 155, 0, 14, 30, 22, 4, 148, 157, 0, 7, 4] = true := by decide +kernel
theorem dX11_in_0 : decode cX11_in 0 = .ok (.lload_n 0, 1) := dko_30 dwX11_in_0
theorem dX11_in_1 : decode cX11_in 1 = .ok (.lload_n 2, 1) := dko_32 (dk_t 1 1 [32, 148, 155, 0, 14, 30, 22, 4, 148, 157, 0, 7, 4] dwX11_in_0 rfl rfl)
theorem dX11_in_2 : decode cX11_in 2 = .ok (.lcmp, 1) := dko_148 (dk_t 2 2 [148, 155, 0, 14, 30, 22, 4, 148, 157, 0, 7, 4] dwX11_in_0 rfl rfl)
theorem dX11_in_3 : decode cX11_in 3 = .ok (.ifCond .lt 14, 3) := dko_155 (dk_t 3 3 [155, 0, 14, 30, 22, 4, 148, 157, 0, 7, 4] dwX11_in_0 rfl rfl)
theorem dX11_in_6 : decode cX11_in 6 = .ok (.lload_n 0, 1) := dko_30 (dk_t 6 6 [30, 22, 4, 148, 157, 0, 7, 4] dwX11_in_0 rfl rfl)
theorem dX11_in_7 : decode cX11_in 7 = .ok (.lload 4, 2) := dko_22 (dk_t 7 7 [22, 4, 148, 157, 0, 7, 4] dwX11_in_0 rfl rfl)
theorem dX11_in_9 : decode cX11_in 9 = .ok (.lcmp, 1) := dko_148 (dk_t 9 9 [148, 157, 0, 7, 4] dwX11_in_0 rfl rfl)
theorem dX11_in_10 : decode cX11_in 10 = .ok (.ifCond .gt 7, 3) := dko_157 (dk_t 10 10 [157, 0, 7, 4] dwX11_in_0 rfl rfl)
theorem dX11_in_13 : decode cX11_in 13 = .ok (.iconst 1, 1) := dko_4 (dk_t 13 13 [4] dwX11_in_0 rfl rfl)
theorem dwX11_in_14 : dkW cX11_in 14 [167, 0, 4, 3, 172] = true := by decide +kernel
theorem dX11_in_14 : decode cX11_in 14 = .ok (.goto 4, 3) := dko_167 dwX11_in_14
theorem dX11_in_17 : decode cX11_in 17 = .ok (.iconst 0, 1) := dko_3 (dk_t 3 17 [3, 172] dwX11_in_14 rfl rfl)
theorem dX11_in_18 : decode cX11_in 18 = .ok (.ireturn, 1) := dko_172 (dk_t 4 18 [172] dwX11_in_14 rfl rfl)
theorem dwX11_copy_0 : dkW cX11_copy 0 [3, 54, 4, 21, 4, 17, 1, 104, 162, 0, 21, 44, 29] = true := by decide +kernel
theorem dX11_copy_0 : decode cX11_copy 0 = .ok (.iconst 0, 1) := dko_3 dwX11_copy_0
theorem dX11_copy_1 : decode cX11_copy 1 = .ok (.istore 4, 2) := dko_54 (dk_t 1 1 [54, 4, 21, 4, 17, 1, 104, 162, 0, 21, 44, 29] dwX11_copy_0 rfl rfl)
theorem dX11_copy_3 : decode cX11_copy 3 = .ok (.iload 4, 2) := dko_21 (dk_t 3 3 [21, 4, 17, 1, 104, 162, 0, 21, 44, 29] dwX11_copy_0 rfl rfl)
theorem dX11_copy_5 : decode cX11_copy 5 = .ok (.sipush 360, 3) := dko_17 (dk_t 5 5 [17, 1, 104, 162, 0, 21, 44, 29] dwX11_copy_0 rfl rfl)
theorem dX11_copy_8 : decode cX11_copy 8 = .ok (.if_icmp .ge 21, 3) := dko_162 (dk_t 8 8 [162, 0, 21, 44, 29] dwX11_copy_0 rfl rfl)
theorem dX11_copy_11 : decode cX11_copy 11 = .ok (.aload_n 2, 1) := dko_44 (dk_t 11 11 [44, 29] dwX11_copy_0 rfl rfl)
theorem dX11_copy_12 : decode cX11_copy 12 = .ok (.iload_n 3, 1) := dko_29 (dk_t 12 12 [29] dwX11_copy_0 rfl rfl)
theorem dwX11_copy_13 : dkW cX11_copy 13 [21, 4, 96, 42, 27, 21, 4, 96, 46, 79, 132, 4, 1] = true := by decide +kernel
theorem dX11_copy_13 : decode cX11_copy 13 = .ok (.iload 4, 2) := dko_21 dwX11_copy_13
theorem dX11_copy_15 : decode cX11_copy 15 = .ok (.iadd, 1) := dko_96 (dk_t 2 15 [96, 42, 27, 21, 4, 96, 46, 79, 132, 4, 1] dwX11_copy_13 rfl rfl)
theorem dX11_copy_16 : decode cX11_copy 16 = .ok (.aload_n 0, 1) := dko_42 (dk_t 3 16 [42, 27, 21, 4, 96, 46, 79, 132, 4, 1] dwX11_copy_13 rfl rfl)
theorem dX11_copy_17 : decode cX11_copy 17 = .ok (.iload_n 1, 1) := dko_27 (dk_t 4 17 [27, 21, 4, 96, 46, 79, 132, 4, 1] dwX11_copy_13 rfl rfl)
theorem dX11_copy_18 : decode cX11_copy 18 = .ok (.iload 4, 2) := dko_21 (dk_t 5 18 [21, 4, 96, 46, 79, 132, 4, 1] dwX11_copy_13 rfl rfl)
theorem dX11_copy_20 : decode cX11_copy 20 = .ok (.iadd, 1) := dko_96 (dk_t 7 20 [96, 46, 79, 132, 4, 1] dwX11_copy_13 rfl rfl)
theorem dX11_copy_21 : decode cX11_copy 21 = .ok (.iaload, 1) := dko_46 (dk_t 8 21 [46, 79, 132, 4, 1] dwX11_copy_13 rfl rfl)
theorem dX11_copy_22 : decode cX11_copy 22 = .ok (.iastore, 1) := dko_79 (dk_t 9 22 [79, 132, 4, 1] dwX11_copy_13 rfl rfl)
theorem dX11_copy_23 : decode cX11_copy 23 = .ok (.iinc 4 1, 3) := dko_132 (dk_t 10 23 [132, 4, 1] dwX11_copy_13 rfl rfl)
theorem dwX11_copy_26 : dkW cX11_copy 26 [167, 255, 233, 177] = true := by decide +kernel
theorem dX11_copy_26 : decode cX11_copy 26 = .ok (.goto (-23), 3) := dko_167 dwX11_copy_26
theorem dX11_copy_29 : decode cX11_copy 29 = .ok (.return_, 1) := dko_177 (dk_t 3 29 [177] dwX11_copy_26 rfl rfl)
theorem dwX11_at_0 : dkW cX11_at 0 [7, 16, 30, 26, 104, 27, 96, 104, 172] = true := by decide +kernel
theorem dX11_at_0 : decode cX11_at 0 = .ok (.iconst 4, 1) := dko_7 dwX11_at_0
theorem dX11_at_1 : decode cX11_at 1 = .ok (.bipush 30, 2) := dko_16 (dk_t 1 1 [16, 30, 26, 104, 27, 96, 104, 172] dwX11_at_0 rfl rfl)
theorem dX11_at_3 : decode cX11_at 3 = .ok (.iload_n 0, 1) := dko_26 (dk_t 3 3 [26, 104, 27, 96, 104, 172] dwX11_at_0 rfl rfl)
theorem dX11_at_4 : decode cX11_at 4 = .ok (.imul, 1) := dko_104 (dk_t 4 4 [104, 27, 96, 104, 172] dwX11_at_0 rfl rfl)
theorem dX11_at_5 : decode cX11_at 5 = .ok (.iload_n 1, 1) := dko_27 (dk_t 5 5 [27, 96, 104, 172] dwX11_at_0 rfl rfl)
theorem dX11_at_6 : decode cX11_at 6 = .ok (.iadd, 1) := dko_96 (dk_t 6 6 [96, 104, 172] dwX11_at_0 rfl rfl)
theorem dX11_at_7 : decode cX11_at 7 = .ok (.imul, 1) := dko_104 (dk_t 7 7 [104, 172] dwX11_at_0 rfl rfl)
theorem dX11_at_8 : decode cX11_at 8 = .ok (.ireturn, 1) := dko_172 (dk_t 8 8 [172] dwX11_at_0 rfl rfl)
theorem dwX11_isTable_0 : dkW cX11_isTable 0 [26, 133, 9, 20, 0, 137, 184, 0, 139, 172] = true := by decide +kernel
theorem dX11_isTable_0 : decode cX11_isTable 0 = .ok (.iload_n 0, 1) := dko_26 dwX11_isTable_0
theorem dX11_isTable_1 : decode cX11_isTable 1 = .ok (.i2l, 1) := dko_133 (dk_t 1 1 [133, 9, 20, 0, 137, 184, 0, 139, 172] dwX11_isTable_0 rfl rfl)
theorem dX11_isTable_2 : decode cX11_isTable 2 = .ok (.lconst 0, 1) := dko_9 (dk_t 2 2 [9, 20, 0, 137, 184, 0, 139, 172] dwX11_isTable_0 rfl rfl)
theorem dX11_isTable_3 : decode cX11_isTable 3 = .ok (.ldc2_w 137, 3) := dko_20 (dk_t 3 3 [20, 0, 137, 184, 0, 139, 172] dwX11_isTable_0 rfl rfl)
theorem dX11_isTable_6 : decode cX11_isTable 6 = .ok (.invokestatic 139, 3) := dko_184 (dk_t 6 6 [184, 0, 139, 172] dwX11_isTable_0 rfl rfl)
theorem dX11_isTable_9 : decode cX11_isTable 9 = .ok (.ireturn, 1) := dko_172 (dk_t 9 9 [172] dwX11_isTable_0 rfl rfl)
theorem dwX11_isKey_0 : dkW cX11_isKey 0 [26, 133, 9, 20, 0, 143, 184, 0, 139, 172] = true := by decide +kernel
theorem dX11_isKey_0 : decode cX11_isKey 0 = .ok (.iload_n 0, 1) := dko_26 dwX11_isKey_0
theorem dX11_isKey_1 : decode cX11_isKey 1 = .ok (.i2l, 1) := dko_133 (dk_t 1 1 [133, 9, 20, 0, 143, 184, 0, 139, 172] dwX11_isKey_0 rfl rfl)
theorem dX11_isKey_2 : decode cX11_isKey 2 = .ok (.lconst 0, 1) := dko_9 (dk_t 2 2 [9, 20, 0, 143, 184, 0, 139, 172] dwX11_isKey_0 rfl rfl)
theorem dX11_isKey_3 : decode cX11_isKey 3 = .ok (.ldc2_w 143, 3) := dko_20 (dk_t 3 3 [20, 0, 143, 184, 0, 139, 172] dwX11_isKey_0 rfl rfl)
theorem dX11_isKey_6 : decode cX11_isKey 6 = .ok (.invokestatic 139, 3) := dko_184 (dk_t 6 6 [184, 0, 139, 172] dwX11_isKey_0 rfl rfl)
theorem dX11_isKey_9 : decode cX11_isKey 9 = .ok (.ireturn, 1) := dko_172 (dk_t 9 9 [172] dwX11_isKey_0 rfl rfl)
theorem dwX11_isColumn_0 : dkW cX11_isColumn 0 [26, 133, 9, 20, 0, 137, 184, 0, 139, 172] = true := by decide +kernel
theorem dX11_isColumn_0 : decode cX11_isColumn 0 = .ok (.iload_n 0, 1) := dko_26 dwX11_isColumn_0
theorem dX11_isColumn_1 : decode cX11_isColumn 1 = .ok (.i2l, 1) := dko_133 (dk_t 1 1 [133, 9, 20, 0, 137, 184, 0, 139, 172] dwX11_isColumn_0 rfl rfl)
theorem dX11_isColumn_2 : decode cX11_isColumn 2 = .ok (.lconst 0, 1) := dko_9 (dk_t 2 2 [9, 20, 0, 137, 184, 0, 139, 172] dwX11_isColumn_0 rfl rfl)
theorem dX11_isColumn_3 : decode cX11_isColumn 3 = .ok (.ldc2_w 137, 3) := dko_20 (dk_t 3 3 [20, 0, 137, 184, 0, 139, 172] dwX11_isColumn_0 rfl rfl)
theorem dX11_isColumn_6 : decode cX11_isColumn 6 = .ok (.invokestatic 139, 3) := dko_184 (dk_t 6 6 [184, 0, 139, 172] dwX11_isColumn_0 rfl rfl)
theorem dX11_isColumn_9 : decode cX11_isColumn 9 = .ok (.ireturn, 1) := dko_172 (dk_t 9 9 [172] dwX11_isColumn_0 rfl rfl)
theorem dwX11_isValue_0 : dkW cX11_isValue 0 [26, 17, 252, 24, 159, 0, 17, 26, 133, 20, 0, 145] = true := by decide +kernel
theorem dX11_isValue_0 : decode cX11_isValue 0 = .ok (.iload_n 0, 1) := dko_26 dwX11_isValue_0
theorem dX11_isValue_1 : decode cX11_isValue 1 = .ok (.sipush (-1000), 3) := dko_17 (dk_t 1 1 [17, 252, 24, 159, 0, 17, 26, 133, 20, 0, 145] dwX11_isValue_0 rfl rfl)
theorem dX11_isValue_4 : decode cX11_isValue 4 = .ok (.if_icmp .eq 17, 3) := dko_159 (dk_t 4 4 [159, 0, 17, 26, 133, 20, 0, 145] dwX11_isValue_0 rfl rfl)
theorem dX11_isValue_7 : decode cX11_isValue 7 = .ok (.iload_n 0, 1) := dko_26 (dk_t 7 7 [26, 133, 20, 0, 145] dwX11_isValue_0 rfl rfl)
theorem dX11_isValue_8 : decode cX11_isValue 8 = .ok (.i2l, 1) := dko_133 (dk_t 8 8 [133, 20, 0, 145] dwX11_isValue_0 rfl rfl)
theorem dX11_isValue_9 : decode cX11_isValue 9 = .ok (.ldc2_w 145, 3) := dko_20 (dk_t 9 9 [20, 0, 145] dwX11_isValue_0 rfl rfl)
theorem dwX11_isValue_12 : dkW cX11_isValue 12 [20, 0, 147, 184, 0, 139, 153, 0, 7, 4, 167, 0, 4, 3] = true := by decide +kernel
theorem dX11_isValue_12 : decode cX11_isValue 12 = .ok (.ldc2_w 147, 3) := dko_20 dwX11_isValue_12
theorem dX11_isValue_15 : decode cX11_isValue 15 = .ok (.invokestatic 139, 3) := dko_184 (dk_t 3 15 [184, 0, 139, 153, 0, 7, 4, 167, 0, 4, 3] dwX11_isValue_12 rfl rfl)
theorem dX11_isValue_18 : decode cX11_isValue 18 = .ok (.ifCond .eq 7, 3) := dko_153 (dk_t 6 18 [153, 0, 7, 4, 167, 0, 4, 3] dwX11_isValue_12 rfl rfl)
theorem dX11_isValue_21 : decode cX11_isValue 21 = .ok (.iconst 1, 1) := dko_4 (dk_t 9 21 [4, 167, 0, 4, 3] dwX11_isValue_12 rfl rfl)
theorem dX11_isValue_22 : decode cX11_isValue 22 = .ok (.goto 4, 3) := dko_167 (dk_t 10 22 [167, 0, 4, 3] dwX11_isValue_12 rfl rfl)
theorem dX11_isValue_25 : decode cX11_isValue 25 = .ok (.iconst 0, 1) := dko_3 (dk_t 13 25 [3] dwX11_isValue_12 rfl rfl)
theorem dwX11_isValue_26 : dkW cX11_isValue 26 [172] = true := by decide +kernel
theorem dX11_isValue_26 : decode cX11_isValue 26 = .ok (.ireturn, 1) := dko_172 dwX11_isValue_26
theorem dwX11_isRow_0 : dkW cX11_isRow 0 [27, 184, 0, 149, 153, 0, 28, 28, 184, 0, 153, 153, 0, 21] = true := by decide +kernel
theorem dX11_isRow_0 : decode cX11_isRow 0 = .ok (.iload_n 1, 1) := dko_27 dwX11_isRow_0
theorem dX11_isRow_1 : decode cX11_isRow 1 = .ok (.invokestatic 149, 3) := dko_184 (dk_t 1 1 [184, 0, 149, 153, 0, 28, 28, 184, 0, 153, 153, 0, 21] dwX11_isRow_0 rfl rfl)
theorem dX11_isRow_4 : decode cX11_isRow 4 = .ok (.ifCond .eq 28, 3) := dko_153 (dk_t 4 4 [153, 0, 28, 28, 184, 0, 153, 153, 0, 21] dwX11_isRow_0 rfl rfl)
theorem dX11_isRow_7 : decode cX11_isRow 7 = .ok (.iload_n 2, 1) := dko_28 (dk_t 7 7 [28, 184, 0, 153, 153, 0, 21] dwX11_isRow_0 rfl rfl)
theorem dX11_isRow_8 : decode cX11_isRow 8 = .ok (.invokestatic 153, 3) := dko_184 (dk_t 8 8 [184, 0, 153, 153, 0, 21] dwX11_isRow_0 rfl rfl)
theorem dX11_isRow_11 : decode cX11_isRow 11 = .ok (.ifCond .eq 21, 3) := dko_153 (dk_t 11 11 [153, 0, 21] dwX11_isRow_0 rfl rfl)
theorem dwX11_isRow_14 : dkW cX11_isRow 14 [42, 180, 0, 9, 27, 28, 184, 0, 156, 46, 4, 160, 0, 7] = true := by decide +kernel
theorem dX11_isRow_14 : decode cX11_isRow 14 = .ok (.aload_n 0, 1) := dko_42 dwX11_isRow_14
theorem dX11_isRow_15 : decode cX11_isRow 15 = .ok (.getfield 9, 3) := dko_180 (dk_t 1 15 [180, 0, 9, 27, 28, 184, 0, 156, 46, 4, 160, 0, 7] dwX11_isRow_14 rfl rfl)
theorem dX11_isRow_18 : decode cX11_isRow 18 = .ok (.iload_n 1, 1) := dko_27 (dk_t 4 18 [27, 28, 184, 0, 156, 46, 4, 160, 0, 7] dwX11_isRow_14 rfl rfl)
theorem dX11_isRow_19 : decode cX11_isRow 19 = .ok (.iload_n 2, 1) := dko_28 (dk_t 5 19 [28, 184, 0, 156, 46, 4, 160, 0, 7] dwX11_isRow_14 rfl rfl)
theorem dX11_isRow_20 : decode cX11_isRow 20 = .ok (.invokestatic 156, 3) := dko_184 (dk_t 6 20 [184, 0, 156, 46, 4, 160, 0, 7] dwX11_isRow_14 rfl rfl)
theorem dX11_isRow_23 : decode cX11_isRow 23 = .ok (.iaload, 1) := dko_46 (dk_t 9 23 [46, 4, 160, 0, 7] dwX11_isRow_14 rfl rfl)
theorem dX11_isRow_24 : decode cX11_isRow 24 = .ok (.iconst 1, 1) := dko_4 (dk_t 10 24 [4, 160, 0, 7] dwX11_isRow_14 rfl rfl)
theorem dX11_isRow_25 : decode cX11_isRow 25 = .ok (.if_icmp .ne 7, 3) := dko_160 (dk_t 11 25 [160, 0, 7] dwX11_isRow_14 rfl rfl)
theorem dwX11_isRow_28 : dkW cX11_isRow 28 [4, 167, 0, 4, 3, 172] = true := by decide +kernel
theorem dX11_isRow_28 : decode cX11_isRow 28 = .ok (.iconst 1, 1) := dko_4 dwX11_isRow_28
theorem dX11_isRow_29 : decode cX11_isRow 29 = .ok (.goto 4, 3) := dko_167 (dk_t 1 29 [167, 0, 4, 3, 172] dwX11_isRow_28 rfl rfl)
theorem dX11_isRow_32 : decode cX11_isRow 32 = .ok (.iconst 0, 1) := dko_3 (dk_t 4 32 [3, 172] dwX11_isRow_28 rfl rfl)
theorem dX11_isRow_33 : decode cX11_isRow 33 = .ok (.ireturn, 1) := dko_172 (dk_t 5 33 [172] dwX11_isRow_28 rfl rfl)
theorem dwX11_rowMany_0 : dkW cX11_rowMany 0 [3, 60, 3, 61, 28, 17, 1, 104, 162, 0, 18, 27, 42] = true := by decide +kernel
theorem dX11_rowMany_0 : decode cX11_rowMany 0 = .ok (.iconst 0, 1) := dko_3 dwX11_rowMany_0
theorem dX11_rowMany_1 : decode cX11_rowMany 1 = .ok (.istore_n 1, 1) := dko_60 (dk_t 1 1 [60, 3, 61, 28, 17, 1, 104, 162, 0, 18, 27, 42] dwX11_rowMany_0 rfl rfl)
theorem dX11_rowMany_2 : decode cX11_rowMany 2 = .ok (.iconst 0, 1) := dko_3 (dk_t 2 2 [3, 61, 28, 17, 1, 104, 162, 0, 18, 27, 42] dwX11_rowMany_0 rfl rfl)
theorem dX11_rowMany_3 : decode cX11_rowMany 3 = .ok (.istore_n 2, 1) := dko_61 (dk_t 3 3 [61, 28, 17, 1, 104, 162, 0, 18, 27, 42] dwX11_rowMany_0 rfl rfl)
theorem dX11_rowMany_4 : decode cX11_rowMany 4 = .ok (.iload_n 2, 1) := dko_28 (dk_t 4 4 [28, 17, 1, 104, 162, 0, 18, 27, 42] dwX11_rowMany_0 rfl rfl)
theorem dX11_rowMany_5 : decode cX11_rowMany 5 = .ok (.sipush 360, 3) := dko_17 (dk_t 5 5 [17, 1, 104, 162, 0, 18, 27, 42] dwX11_rowMany_0 rfl rfl)
theorem dX11_rowMany_8 : decode cX11_rowMany 8 = .ok (.if_icmp .ge 18, 3) := dko_162 (dk_t 8 8 [162, 0, 18, 27, 42] dwX11_rowMany_0 rfl rfl)
theorem dX11_rowMany_11 : decode cX11_rowMany 11 = .ok (.iload_n 1, 1) := dko_27 (dk_t 11 11 [27, 42] dwX11_rowMany_0 rfl rfl)
theorem dX11_rowMany_12 : decode cX11_rowMany 12 = .ok (.aload_n 0, 1) := dko_42 (dk_t 12 12 [42] dwX11_rowMany_0 rfl rfl)
theorem dwX11_rowMany_13 : dkW cX11_rowMany 13 [180, 0, 9, 28, 46, 96, 60, 132, 2, 4, 167, 255, 237, 27] = true := by decide +kernel
theorem dX11_rowMany_13 : decode cX11_rowMany 13 = .ok (.getfield 9, 3) := dko_180 dwX11_rowMany_13
theorem dX11_rowMany_16 : decode cX11_rowMany 16 = .ok (.iload_n 2, 1) := dko_28 (dk_t 3 16 [28, 46, 96, 60, 132, 2, 4, 167, 255, 237, 27] dwX11_rowMany_13 rfl rfl)
theorem dX11_rowMany_17 : decode cX11_rowMany 17 = .ok (.iaload, 1) := dko_46 (dk_t 4 17 [46, 96, 60, 132, 2, 4, 167, 255, 237, 27] dwX11_rowMany_13 rfl rfl)
theorem dX11_rowMany_18 : decode cX11_rowMany 18 = .ok (.iadd, 1) := dko_96 (dk_t 5 18 [96, 60, 132, 2, 4, 167, 255, 237, 27] dwX11_rowMany_13 rfl rfl)
theorem dX11_rowMany_19 : decode cX11_rowMany 19 = .ok (.istore_n 1, 1) := dko_60 (dk_t 6 19 [60, 132, 2, 4, 167, 255, 237, 27] dwX11_rowMany_13 rfl rfl)
theorem dX11_rowMany_20 : decode cX11_rowMany 20 = .ok (.iinc 2 4, 3) := dko_132 (dk_t 7 20 [132, 2, 4, 167, 255, 237, 27] dwX11_rowMany_13 rfl rfl)
theorem dX11_rowMany_23 : decode cX11_rowMany 23 = .ok (.goto (-19), 3) := dko_167 (dk_t 10 23 [167, 255, 237, 27] dwX11_rowMany_13 rfl rfl)
theorem dX11_rowMany_26 : decode cX11_rowMany 26 = .ok (.iload_n 1, 1) := dko_27 (dk_t 13 26 [27] dwX11_rowMany_13 rfl rfl)
theorem dwX11_rowMany_27 : dkW cX11_rowMany 27 [172] = true := by decide +kernel
theorem dX11_rowMany_27 : decode cX11_rowMany 27 = .ok (.ireturn, 1) := dko_172 dwX11_rowMany_27
theorem dwX11_isRule_0 : dkW cX11_isRule 0 [27, 133, 9, 20, 0, 160, 184, 0, 139, 153, 0, 20, 42] = true := by decide +kernel
theorem dX11_isRule_0 : decode cX11_isRule 0 = .ok (.iload_n 1, 1) := dko_27 dwX11_isRule_0
theorem dX11_isRule_1 : decode cX11_isRule 1 = .ok (.i2l, 1) := dko_133 (dk_t 1 1 [133, 9, 20, 0, 160, 184, 0, 139, 153, 0, 20, 42] dwX11_isRule_0 rfl rfl)
theorem dX11_isRule_2 : decode cX11_isRule 2 = .ok (.lconst 0, 1) := dko_9 (dk_t 2 2 [9, 20, 0, 160, 184, 0, 139, 153, 0, 20, 42] dwX11_isRule_0 rfl rfl)
theorem dX11_isRule_3 : decode cX11_isRule 3 = .ok (.ldc2_w 160, 3) := dko_20 (dk_t 3 3 [20, 0, 160, 184, 0, 139, 153, 0, 20, 42] dwX11_isRule_0 rfl rfl)
theorem dX11_isRule_6 : decode cX11_isRule 6 = .ok (.invokestatic 139, 3) := dko_184 (dk_t 6 6 [184, 0, 139, 153, 0, 20, 42] dwX11_isRule_0 rfl rfl)
theorem dX11_isRule_9 : decode cX11_isRule 9 = .ok (.ifCond .eq 20, 3) := dko_153 (dk_t 9 9 [153, 0, 20, 42] dwX11_isRule_0 rfl rfl)
theorem dX11_isRule_12 : decode cX11_isRule 12 = .ok (.aload_n 0, 1) := dko_42 (dk_t 12 12 [42] dwX11_isRule_0 rfl rfl)
theorem dwX11_isRule_13 : dkW cX11_isRule 13 [180, 0, 33, 16, 10, 27, 104, 46, 2, 159, 0, 7, 4] = true := by decide +kernel
theorem dX11_isRule_13 : decode cX11_isRule 13 = .ok (.getfield 33, 3) := dko_180 dwX11_isRule_13
theorem dX11_isRule_16 : decode cX11_isRule 16 = .ok (.bipush 10, 2) := dko_16 (dk_t 3 16 [16, 10, 27, 104, 46, 2, 159, 0, 7, 4] dwX11_isRule_13 rfl rfl)
theorem dX11_isRule_18 : decode cX11_isRule 18 = .ok (.iload_n 1, 1) := dko_27 (dk_t 5 18 [27, 104, 46, 2, 159, 0, 7, 4] dwX11_isRule_13 rfl rfl)
theorem dX11_isRule_19 : decode cX11_isRule 19 = .ok (.imul, 1) := dko_104 (dk_t 6 19 [104, 46, 2, 159, 0, 7, 4] dwX11_isRule_13 rfl rfl)
theorem dX11_isRule_20 : decode cX11_isRule 20 = .ok (.iaload, 1) := dko_46 (dk_t 7 20 [46, 2, 159, 0, 7, 4] dwX11_isRule_13 rfl rfl)
theorem dX11_isRule_21 : decode cX11_isRule 21 = .ok (.iconst (-1), 1) := dko_2 (dk_t 8 21 [2, 159, 0, 7, 4] dwX11_isRule_13 rfl rfl)
theorem dX11_isRule_22 : decode cX11_isRule 22 = .ok (.if_icmp .eq 7, 3) := dko_159 (dk_t 9 22 [159, 0, 7, 4] dwX11_isRule_13 rfl rfl)
theorem dX11_isRule_25 : decode cX11_isRule 25 = .ok (.iconst 1, 1) := dko_4 (dk_t 12 25 [4] dwX11_isRule_13 rfl rfl)
theorem dwX11_isRule_26 : dkW cX11_isRule 26 [167, 0, 4, 3, 172] = true := by decide +kernel
theorem dX11_isRule_26 : decode cX11_isRule 26 = .ok (.goto 4, 3) := dko_167 dwX11_isRule_26
theorem dX11_isRule_29 : decode cX11_isRule 29 = .ok (.iconst 0, 1) := dko_3 (dk_t 3 29 [3, 172] dwX11_isRule_26 rfl rfl)
theorem dX11_isRule_30 : decode cX11_isRule 30 = .ok (.ireturn, 1) := dko_172 (dk_t 4 30 [172] dwX11_isRule_26 rfl rfl)
theorem dwX11_of_0 : dkW cX11_of 0 [42, 180, 0, 33, 16, 10, 27, 104, 28, 96, 46, 172] = true := by decide +kernel
theorem dX11_of_0 : decode cX11_of 0 = .ok (.aload_n 0, 1) := dko_42 dwX11_of_0
theorem dX11_of_1 : decode cX11_of 1 = .ok (.getfield 33, 3) := dko_180 (dk_t 1 1 [180, 0, 33, 16, 10, 27, 104, 28, 96, 46, 172] dwX11_of_0 rfl rfl)
theorem dX11_of_4 : decode cX11_of 4 = .ok (.bipush 10, 2) := dko_16 (dk_t 4 4 [16, 10, 27, 104, 28, 96, 46, 172] dwX11_of_0 rfl rfl)
theorem dX11_of_6 : decode cX11_of 6 = .ok (.iload_n 1, 1) := dko_27 (dk_t 6 6 [27, 104, 28, 96, 46, 172] dwX11_of_0 rfl rfl)
theorem dX11_of_7 : decode cX11_of 7 = .ok (.imul, 1) := dko_104 (dk_t 7 7 [104, 28, 96, 46, 172] dwX11_of_0 rfl rfl)
theorem dX11_of_8 : decode cX11_of 8 = .ok (.iload_n 2, 1) := dko_28 (dk_t 8 8 [28, 96, 46, 172] dwX11_of_0 rfl rfl)
theorem dX11_of_9 : decode cX11_of 9 = .ok (.iadd, 1) := dko_96 (dk_t 9 9 [96, 46, 172] dwX11_of_0 rfl rfl)
theorem dX11_of_10 : decode cX11_of 10 = .ok (.iaload, 1) := dko_46 (dk_t 10 10 [46, 172] dwX11_of_0 rfl rfl)
theorem dX11_of_11 : decode cX11_of 11 = .ok (.ireturn, 1) := dko_172 (dk_t 11 11 [172] dwX11_of_0 rfl rfl)
theorem dwX11_ruleMany_0 : dkW cX11_ruleMany 0 [3, 60, 3, 61, 28, 16, 12, 162, 0, 25, 27, 42, 28] = true := by decide +kernel
theorem dX11_ruleMany_0 : decode cX11_ruleMany 0 = .ok (.iconst 0, 1) := dko_3 dwX11_ruleMany_0
theorem dX11_ruleMany_1 : decode cX11_ruleMany 1 = .ok (.istore_n 1, 1) := dko_60 (dk_t 1 1 [60, 3, 61, 28, 16, 12, 162, 0, 25, 27, 42, 28] dwX11_ruleMany_0 rfl rfl)
theorem dX11_ruleMany_2 : decode cX11_ruleMany 2 = .ok (.iconst 0, 1) := dko_3 (dk_t 2 2 [3, 61, 28, 16, 12, 162, 0, 25, 27, 42, 28] dwX11_ruleMany_0 rfl rfl)
theorem dX11_ruleMany_3 : decode cX11_ruleMany 3 = .ok (.istore_n 2, 1) := dko_61 (dk_t 3 3 [61, 28, 16, 12, 162, 0, 25, 27, 42, 28] dwX11_ruleMany_0 rfl rfl)
theorem dX11_ruleMany_4 : decode cX11_ruleMany 4 = .ok (.iload_n 2, 1) := dko_28 (dk_t 4 4 [28, 16, 12, 162, 0, 25, 27, 42, 28] dwX11_ruleMany_0 rfl rfl)
theorem dX11_ruleMany_5 : decode cX11_ruleMany 5 = .ok (.bipush 12, 2) := dko_16 (dk_t 5 5 [16, 12, 162, 0, 25, 27, 42, 28] dwX11_ruleMany_0 rfl rfl)
theorem dX11_ruleMany_7 : decode cX11_ruleMany 7 = .ok (.if_icmp .ge 25, 3) := dko_162 (dk_t 7 7 [162, 0, 25, 27, 42, 28] dwX11_ruleMany_0 rfl rfl)
theorem dX11_ruleMany_10 : decode cX11_ruleMany 10 = .ok (.iload_n 1, 1) := dko_27 (dk_t 10 10 [27, 42, 28] dwX11_ruleMany_0 rfl rfl)
theorem dX11_ruleMany_11 : decode cX11_ruleMany 11 = .ok (.aload_n 0, 1) := dko_42 (dk_t 11 11 [42, 28] dwX11_ruleMany_0 rfl rfl)
theorem dX11_ruleMany_12 : decode cX11_ruleMany 12 = .ok (.iload_n 2, 1) := dko_28 (dk_t 12 12 [28] dwX11_ruleMany_0 rfl rfl)
theorem dwX11_ruleMany_13 : dkW cX11_ruleMany 13 [182, 0, 162, 153, 0, 7, 4, 167, 0, 4, 3, 96, 60] = true := by decide +kernel
theorem dX11_ruleMany_13 : decode cX11_ruleMany 13 = .ok (.invokevirtual 162, 3) := dko_182 dwX11_ruleMany_13
theorem dX11_ruleMany_16 : decode cX11_ruleMany 16 = .ok (.ifCond .eq 7, 3) := dko_153 (dk_t 3 16 [153, 0, 7, 4, 167, 0, 4, 3, 96, 60] dwX11_ruleMany_13 rfl rfl)
theorem dX11_ruleMany_19 : decode cX11_ruleMany 19 = .ok (.iconst 1, 1) := dko_4 (dk_t 6 19 [4, 167, 0, 4, 3, 96, 60] dwX11_ruleMany_13 rfl rfl)
theorem dX11_ruleMany_20 : decode cX11_ruleMany 20 = .ok (.goto 4, 3) := dko_167 (dk_t 7 20 [167, 0, 4, 3, 96, 60] dwX11_ruleMany_13 rfl rfl)
theorem dX11_ruleMany_23 : decode cX11_ruleMany 23 = .ok (.iconst 0, 1) := dko_3 (dk_t 10 23 [3, 96, 60] dwX11_ruleMany_13 rfl rfl)
theorem dX11_ruleMany_24 : decode cX11_ruleMany 24 = .ok (.iadd, 1) := dko_96 (dk_t 11 24 [96, 60] dwX11_ruleMany_13 rfl rfl)
theorem dX11_ruleMany_25 : decode cX11_ruleMany 25 = .ok (.istore_n 1, 1) := dko_60 (dk_t 12 25 [60] dwX11_ruleMany_13 rfl rfl)
theorem dwX11_ruleMany_26 : dkW cX11_ruleMany 26 [132, 2, 1, 167, 255, 231, 27, 172] = true := by decide +kernel
theorem dX11_ruleMany_26 : decode cX11_ruleMany 26 = .ok (.iinc 2 1, 3) := dko_132 dwX11_ruleMany_26
theorem dX11_ruleMany_29 : decode cX11_ruleMany 29 = .ok (.goto (-25), 3) := dko_167 (dk_t 3 29 [167, 255, 231, 27, 172] dwX11_ruleMany_26 rfl rfl)
theorem dX11_ruleMany_32 : decode cX11_ruleMany 32 = .ok (.iload_n 1, 1) := dko_27 (dk_t 6 32 [27, 172] dwX11_ruleMany_26 rfl rfl)
theorem dX11_ruleMany_33 : decode cX11_ruleMany 33 = .ok (.ireturn, 1) := dko_172 (dk_t 7 33 [172] dwX11_ruleMany_26 rfl rfl)
theorem dwX11_ofKeys_0 : dkW cX11_ofKeys 0 [26, 5, 159, 0, 13, 26, 7, 159, 0, 8, 26, 8] = true := by decide +kernel
theorem dX11_ofKeys_0 : decode cX11_ofKeys 0 = .ok (.iload_n 0, 1) := dko_26 dwX11_ofKeys_0
theorem dX11_ofKeys_1 : decode cX11_ofKeys 1 = .ok (.iconst 2, 1) := dko_5 (dk_t 1 1 [5, 159, 0, 13, 26, 7, 159, 0, 8, 26, 8] dwX11_ofKeys_0 rfl rfl)
theorem dX11_ofKeys_2 : decode cX11_ofKeys 2 = .ok (.if_icmp .eq 13, 3) := dko_159 (dk_t 2 2 [159, 0, 13, 26, 7, 159, 0, 8, 26, 8] dwX11_ofKeys_0 rfl rfl)
theorem dX11_ofKeys_5 : decode cX11_ofKeys 5 = .ok (.iload_n 0, 1) := dko_26 (dk_t 5 5 [26, 7, 159, 0, 8, 26, 8] dwX11_ofKeys_0 rfl rfl)
theorem dX11_ofKeys_6 : decode cX11_ofKeys 6 = .ok (.iconst 4, 1) := dko_7 (dk_t 6 6 [7, 159, 0, 8, 26, 8] dwX11_ofKeys_0 rfl rfl)
theorem dX11_ofKeys_7 : decode cX11_ofKeys 7 = .ok (.if_icmp .eq 8, 3) := dko_159 (dk_t 7 7 [159, 0, 8, 26, 8] dwX11_ofKeys_0 rfl rfl)
theorem dX11_ofKeys_10 : decode cX11_ofKeys 10 = .ok (.iload_n 0, 1) := dko_26 (dk_t 10 10 [26, 8] dwX11_ofKeys_0 rfl rfl)
theorem dX11_ofKeys_11 : decode cX11_ofKeys 11 = .ok (.iconst 5, 1) := dko_8 (dk_t 11 11 [8] dwX11_ofKeys_0 rfl rfl)
theorem dwX11_ofKeys_12 : dkW cX11_ofKeys 12 [160, 0, 7, 4, 167, 0, 4, 3, 172] = true := by decide +kernel
theorem dX11_ofKeys_12 : decode cX11_ofKeys 12 = .ok (.if_icmp .ne 7, 3) := dko_160 dwX11_ofKeys_12
theorem dX11_ofKeys_15 : decode cX11_ofKeys 15 = .ok (.iconst 1, 1) := dko_4 (dk_t 3 15 [4, 167, 0, 4, 3, 172] dwX11_ofKeys_12 rfl rfl)
theorem dX11_ofKeys_16 : decode cX11_ofKeys 16 = .ok (.goto 4, 3) := dko_167 (dk_t 4 16 [167, 0, 4, 3, 172] dwX11_ofKeys_12 rfl rfl)
theorem dX11_ofKeys_19 : decode cX11_ofKeys 19 = .ok (.iconst 0, 1) := dko_3 (dk_t 7 19 [3, 172] dwX11_ofKeys_12 rfl rfl)
theorem dX11_ofKeys_20 : decode cX11_ofKeys 20 = .ok (.ireturn, 1) := dko_172 (dk_t 8 20 [172] dwX11_ofKeys_12 rfl rfl)
theorem dwX11_firstSubject_0 : dkW cX11_firstSubject 0 [42, 27, 3, 182, 0, 165, 184, 0, 168, 153, 0, 7, 3] = true := by decide +kernel
theorem dX11_firstSubject_0 : decode cX11_firstSubject 0 = .ok (.aload_n 0, 1) := dko_42 dwX11_firstSubject_0
theorem dX11_firstSubject_1 : decode cX11_firstSubject 1 = .ok (.iload_n 1, 1) := dko_27 (dk_t 1 1 [27, 3, 182, 0, 165, 184, 0, 168, 153, 0, 7, 3] dwX11_firstSubject_0 rfl rfl)
theorem dX11_firstSubject_2 : decode cX11_firstSubject 2 = .ok (.iconst 0, 1) := dko_3 (dk_t 2 2 [3, 182, 0, 165, 184, 0, 168, 153, 0, 7, 3] dwX11_firstSubject_0 rfl rfl)
theorem dX11_firstSubject_3 : decode cX11_firstSubject 3 = .ok (.invokevirtual 165, 3) := dko_182 (dk_t 3 3 [182, 0, 165, 184, 0, 168, 153, 0, 7, 3] dwX11_firstSubject_0 rfl rfl)
theorem dX11_firstSubject_6 : decode cX11_firstSubject 6 = .ok (.invokestatic 168, 3) := dko_184 (dk_t 6 6 [184, 0, 168, 153, 0, 7, 3] dwX11_firstSubject_0 rfl rfl)
theorem dX11_firstSubject_9 : decode cX11_firstSubject 9 = .ok (.ifCond .eq 7, 3) := dko_153 (dk_t 9 9 [153, 0, 7, 3] dwX11_firstSubject_0 rfl rfl)
theorem dX11_firstSubject_12 : decode cX11_firstSubject 12 = .ok (.iconst 0, 1) := dko_3 (dk_t 12 12 [3] dwX11_firstSubject_0 rfl rfl)
theorem dwX11_firstSubject_13 : dkW cX11_firstSubject 13 [167, 0, 5, 16, 157, 172] = true := by decide +kernel
theorem dX11_firstSubject_13 : decode cX11_firstSubject 13 = .ok (.goto 5, 3) := dko_167 dwX11_firstSubject_13
theorem dX11_firstSubject_16 : decode cX11_firstSubject 16 = .ok (.bipush (-99), 2) := dko_16 (dk_t 3 16 [16, 157, 172] dwX11_firstSubject_13 rfl rfl)
theorem dX11_firstSubject_18 : decode cX11_firstSubject 18 = .ok (.ireturn, 1) := dko_172 (dk_t 5 18 [172] dwX11_firstSubject_13 rfl rfl)
theorem dwX11_lastSubject_0 : dkW cX11_lastSubject 0 [42, 27, 3, 182, 0, 165, 184, 0, 168, 153, 0, 8, 16, 29] = true := by decide +kernel
theorem dX11_lastSubject_0 : decode cX11_lastSubject 0 = .ok (.aload_n 0, 1) := dko_42 dwX11_lastSubject_0
theorem dX11_lastSubject_1 : decode cX11_lastSubject 1 = .ok (.iload_n 1, 1) := dko_27 (dk_t 1 1 [27, 3, 182, 0, 165, 184, 0, 168, 153, 0, 8, 16, 29] dwX11_lastSubject_0 rfl rfl)
theorem dX11_lastSubject_2 : decode cX11_lastSubject 2 = .ok (.iconst 0, 1) := dko_3 (dk_t 2 2 [3, 182, 0, 165, 184, 0, 168, 153, 0, 8, 16, 29] dwX11_lastSubject_0 rfl rfl)
theorem dX11_lastSubject_3 : decode cX11_lastSubject 3 = .ok (.invokevirtual 165, 3) := dko_182 (dk_t 3 3 [182, 0, 165, 184, 0, 168, 153, 0, 8, 16, 29] dwX11_lastSubject_0 rfl rfl)
theorem dX11_lastSubject_6 : decode cX11_lastSubject 6 = .ok (.invokestatic 168, 3) := dko_184 (dk_t 6 6 [184, 0, 168, 153, 0, 8, 16, 29] dwX11_lastSubject_0 rfl rfl)
theorem dX11_lastSubject_9 : decode cX11_lastSubject 9 = .ok (.ifCond .eq 8, 3) := dko_153 (dk_t 9 9 [153, 0, 8, 16, 29] dwX11_lastSubject_0 rfl rfl)
theorem dX11_lastSubject_12 : decode cX11_lastSubject 12 = .ok (.bipush 29, 2) := dko_16 (dk_t 12 12 [16, 29] dwX11_lastSubject_0 rfl rfl)
theorem dwX11_lastSubject_14 : dkW cX11_lastSubject 14 [167, 0, 5, 16, 99, 172] = true := by decide +kernel
theorem dX11_lastSubject_14 : decode cX11_lastSubject 14 = .ok (.goto 5, 3) := dko_167 dwX11_lastSubject_14
theorem dX11_lastSubject_17 : decode cX11_lastSubject 17 = .ok (.bipush 99, 2) := dko_16 (dk_t 3 17 [16, 99, 172] dwX11_lastSubject_14 rfl rfl)
theorem dX11_lastSubject_19 : decode cX11_lastSubject 19 = .ok (.ireturn, 1) := dko_172 (dk_t 5 19 [172] dwX11_lastSubject_14 rfl rfl)
theorem dwX11_placeOf_0 : dkW cX11_placeOf 0 [17, 0, 199, 26, 104, 27, 96, 16, 99, 96, 172] = true := by decide +kernel
theorem dX11_placeOf_0 : decode cX11_placeOf 0 = .ok (.sipush 199, 3) := dko_17 dwX11_placeOf_0
theorem dX11_placeOf_3 : decode cX11_placeOf 3 = .ok (.iload_n 0, 1) := dko_26 (dk_t 3 3 [26, 104, 27, 96, 16, 99, 96, 172] dwX11_placeOf_0 rfl rfl)
theorem dX11_placeOf_4 : decode cX11_placeOf 4 = .ok (.imul, 1) := dko_104 (dk_t 4 4 [104, 27, 96, 16, 99, 96, 172] dwX11_placeOf_0 rfl rfl)
theorem dX11_placeOf_5 : decode cX11_placeOf 5 = .ok (.iload_n 1, 1) := dko_27 (dk_t 5 5 [27, 96, 16, 99, 96, 172] dwX11_placeOf_0 rfl rfl)
theorem dX11_placeOf_6 : decode cX11_placeOf 6 = .ok (.iadd, 1) := dko_96 (dk_t 6 6 [96, 16, 99, 96, 172] dwX11_placeOf_0 rfl rfl)
theorem dX11_placeOf_7 : decode cX11_placeOf 7 = .ok (.bipush 99, 2) := dko_16 (dk_t 7 7 [16, 99, 96, 172] dwX11_placeOf_0 rfl rfl)
theorem dX11_placeOf_9 : decode cX11_placeOf 9 = .ok (.iadd, 1) := dko_96 (dk_t 9 9 [96, 172] dwX11_placeOf_0 rfl rfl)
theorem dX11_placeOf_10 : decode cX11_placeOf 10 = .ok (.ireturn, 1) := dko_172 (dk_t 10 10 [172] dwX11_placeOf_0 rfl rfl)
theorem dwX11_many_0 : dkW cX11_many 0 [3, 54, 5, 3, 54, 6, 21, 6, 16, 30, 162, 0, 60, 29] = true := by decide +kernel
theorem dX11_many_0 : decode cX11_many 0 = .ok (.iconst 0, 1) := dko_3 dwX11_many_0
theorem dX11_many_1 : decode cX11_many 1 = .ok (.istore 5, 2) := dko_54 (dk_t 1 1 [54, 5, 3, 54, 6, 21, 6, 16, 30, 162, 0, 60, 29] dwX11_many_0 rfl rfl)
theorem dX11_many_3 : decode cX11_many 3 = .ok (.iconst 0, 1) := dko_3 (dk_t 3 3 [3, 54, 6, 21, 6, 16, 30, 162, 0, 60, 29] dwX11_many_0 rfl rfl)
theorem dX11_many_4 : decode cX11_many 4 = .ok (.istore 6, 2) := dko_54 (dk_t 4 4 [54, 6, 21, 6, 16, 30, 162, 0, 60, 29] dwX11_many_0 rfl rfl)
theorem dX11_many_6 : decode cX11_many 6 = .ok (.iload 6, 2) := dko_21 (dk_t 6 6 [21, 6, 16, 30, 162, 0, 60, 29] dwX11_many_0 rfl rfl)
theorem dX11_many_8 : decode cX11_many 8 = .ok (.bipush 30, 2) := dko_16 (dk_t 8 8 [16, 30, 162, 0, 60, 29] dwX11_many_0 rfl rfl)
theorem dX11_many_10 : decode cX11_many 10 = .ok (.if_icmp .ge 60, 3) := dko_162 (dk_t 10 10 [162, 0, 60, 29] dwX11_many_0 rfl rfl)
theorem dX11_many_13 : decode cX11_many 13 = .ok (.iload_n 3, 1) := dko_29 (dk_t 13 13 [29] dwX11_many_0 rfl rfl)
theorem dwX11_many_14 : dkW cX11_many 14 [42, 27, 4, 182, 0, 165, 21, 6, 184, 0, 156, 96, 54, 7] = true := by decide +kernel
theorem dX11_many_14 : decode cX11_many 14 = .ok (.aload_n 0, 1) := dko_42 dwX11_many_14
theorem dX11_many_15 : decode cX11_many 15 = .ok (.iload_n 1, 1) := dko_27 (dk_t 1 15 [27, 4, 182, 0, 165, 21, 6, 184, 0, 156, 96, 54, 7] dwX11_many_14 rfl rfl)
theorem dX11_many_16 : decode cX11_many 16 = .ok (.iconst 1, 1) := dko_4 (dk_t 2 16 [4, 182, 0, 165, 21, 6, 184, 0, 156, 96, 54, 7] dwX11_many_14 rfl rfl)
theorem dX11_many_17 : decode cX11_many 17 = .ok (.invokevirtual 165, 3) := dko_182 (dk_t 3 17 [182, 0, 165, 21, 6, 184, 0, 156, 96, 54, 7] dwX11_many_14 rfl rfl)
theorem dX11_many_20 : decode cX11_many 20 = .ok (.iload 6, 2) := dko_21 (dk_t 6 20 [21, 6, 184, 0, 156, 96, 54, 7] dwX11_many_14 rfl rfl)
theorem dX11_many_22 : decode cX11_many 22 = .ok (.invokestatic 156, 3) := dko_184 (dk_t 8 22 [184, 0, 156, 96, 54, 7] dwX11_many_14 rfl rfl)
theorem dX11_many_25 : decode cX11_many 25 = .ok (.iadd, 1) := dko_96 (dk_t 11 25 [96, 54, 7] dwX11_many_14 rfl rfl)
theorem dX11_many_26 : decode cX11_many 26 = .ok (.istore 7, 2) := dko_54 (dk_t 12 26 [54, 7] dwX11_many_14 rfl rfl)
theorem dwX11_many_28 : dkW cX11_many 28 [21, 5, 44, 21, 7, 46, 4, 160, 0, 25, 44, 21, 7, 4] = true := by decide +kernel
theorem dX11_many_28 : decode cX11_many 28 = .ok (.iload 5, 2) := dko_21 dwX11_many_28
theorem dX11_many_30 : decode cX11_many 30 = .ok (.aload_n 2, 1) := dko_44 (dk_t 2 30 [44, 21, 7, 46, 4, 160, 0, 25, 44, 21, 7, 4] dwX11_many_28 rfl rfl)
theorem dX11_many_31 : decode cX11_many 31 = .ok (.iload 7, 2) := dko_21 (dk_t 3 31 [21, 7, 46, 4, 160, 0, 25, 44, 21, 7, 4] dwX11_many_28 rfl rfl)
theorem dX11_many_33 : decode cX11_many 33 = .ok (.iaload, 1) := dko_46 (dk_t 5 33 [46, 4, 160, 0, 25, 44, 21, 7, 4] dwX11_many_28 rfl rfl)
theorem dX11_many_34 : decode cX11_many 34 = .ok (.iconst 1, 1) := dko_4 (dk_t 6 34 [4, 160, 0, 25, 44, 21, 7, 4] dwX11_many_28 rfl rfl)
theorem dX11_many_35 : decode cX11_many 35 = .ok (.if_icmp .ne 25, 3) := dko_160 (dk_t 7 35 [160, 0, 25, 44, 21, 7, 4] dwX11_many_28 rfl rfl)
theorem dX11_many_38 : decode cX11_many 38 = .ok (.aload_n 2, 1) := dko_44 (dk_t 10 38 [44, 21, 7, 4] dwX11_many_28 rfl rfl)
theorem dX11_many_39 : decode cX11_many 39 = .ok (.iload 7, 2) := dko_21 (dk_t 11 39 [21, 7, 4] dwX11_many_28 rfl rfl)
theorem dX11_many_41 : decode cX11_many 41 = .ok (.iconst 1, 1) := dko_4 (dk_t 13 41 [4] dwX11_many_28 rfl rfl)
theorem dwX11_many_42 : dkW cX11_many 42 [96, 42, 27, 5, 182, 0, 165, 96, 46, 21, 4, 160, 0, 7] = true := by decide +kernel
theorem dX11_many_42 : decode cX11_many 42 = .ok (.iadd, 1) := dko_96 dwX11_many_42
theorem dX11_many_43 : decode cX11_many 43 = .ok (.aload_n 0, 1) := dko_42 (dk_t 1 43 [42, 27, 5, 182, 0, 165, 96, 46, 21, 4, 160, 0, 7] dwX11_many_42 rfl rfl)
theorem dX11_many_44 : decode cX11_many 44 = .ok (.iload_n 1, 1) := dko_27 (dk_t 2 44 [27, 5, 182, 0, 165, 96, 46, 21, 4, 160, 0, 7] dwX11_many_42 rfl rfl)
theorem dX11_many_45 : decode cX11_many 45 = .ok (.iconst 2, 1) := dko_5 (dk_t 3 45 [5, 182, 0, 165, 96, 46, 21, 4, 160, 0, 7] dwX11_many_42 rfl rfl)
theorem dX11_many_46 : decode cX11_many 46 = .ok (.invokevirtual 165, 3) := dko_182 (dk_t 4 46 [182, 0, 165, 96, 46, 21, 4, 160, 0, 7] dwX11_many_42 rfl rfl)
theorem dX11_many_49 : decode cX11_many 49 = .ok (.iadd, 1) := dko_96 (dk_t 7 49 [96, 46, 21, 4, 160, 0, 7] dwX11_many_42 rfl rfl)
theorem dX11_many_50 : decode cX11_many 50 = .ok (.iaload, 1) := dko_46 (dk_t 8 50 [46, 21, 4, 160, 0, 7] dwX11_many_42 rfl rfl)
theorem dX11_many_51 : decode cX11_many 51 = .ok (.iload 4, 2) := dko_21 (dk_t 9 51 [21, 4, 160, 0, 7] dwX11_many_42 rfl rfl)
theorem dX11_many_53 : decode cX11_many 53 = .ok (.if_icmp .ne 7, 3) := dko_160 (dk_t 11 53 [160, 0, 7] dwX11_many_42 rfl rfl)
theorem dwX11_many_56 : dkW cX11_many 56 [4, 167, 0, 4, 3, 96, 54, 5, 132, 6, 1, 167, 255, 195] = true := by decide +kernel
theorem dX11_many_56 : decode cX11_many 56 = .ok (.iconst 1, 1) := dko_4 dwX11_many_56
theorem dX11_many_57 : decode cX11_many 57 = .ok (.goto 4, 3) := dko_167 (dk_t 1 57 [167, 0, 4, 3, 96, 54, 5, 132, 6, 1, 167, 255, 195] dwX11_many_56 rfl rfl)
theorem dX11_many_60 : decode cX11_many 60 = .ok (.iconst 0, 1) := dko_3 (dk_t 4 60 [3, 96, 54, 5, 132, 6, 1, 167, 255, 195] dwX11_many_56 rfl rfl)
theorem dX11_many_61 : decode cX11_many 61 = .ok (.iadd, 1) := dko_96 (dk_t 5 61 [96, 54, 5, 132, 6, 1, 167, 255, 195] dwX11_many_56 rfl rfl)
theorem dX11_many_62 : decode cX11_many 62 = .ok (.istore 5, 2) := dko_54 (dk_t 6 62 [54, 5, 132, 6, 1, 167, 255, 195] dwX11_many_56 rfl rfl)
theorem dX11_many_64 : decode cX11_many 64 = .ok (.iinc 6 1, 3) := dko_132 (dk_t 8 64 [132, 6, 1, 167, 255, 195] dwX11_many_56 rfl rfl)
theorem dX11_many_67 : decode cX11_many 67 = .ok (.goto (-61), 3) := dko_167 (dk_t 11 67 [167, 255, 195] dwX11_many_56 rfl rfl)
theorem dwX11_many_70 : dkW cX11_many 70 [21, 5, 172] = true := by decide +kernel
theorem dX11_many_70 : decode cX11_many 70 = .ok (.iload 5, 2) := dko_21 dwX11_many_70
theorem dX11_many_72 : decode cX11_many 72 = .ok (.ireturn, 1) := dko_172 (dk_t 2 72 [172] dwX11_many_70 rfl rfl)
theorem dwX11_sumOf_0 : dkW cX11_sumOf 0 [3, 54, 5, 3, 54, 6, 21, 6, 16, 30, 162, 0, 96, 29] = true := by decide +kernel
theorem dX11_sumOf_0 : decode cX11_sumOf 0 = .ok (.iconst 0, 1) := dko_3 dwX11_sumOf_0
theorem dX11_sumOf_1 : decode cX11_sumOf 1 = .ok (.istore 5, 2) := dko_54 (dk_t 1 1 [54, 5, 3, 54, 6, 21, 6, 16, 30, 162, 0, 96, 29] dwX11_sumOf_0 rfl rfl)
theorem dX11_sumOf_3 : decode cX11_sumOf 3 = .ok (.iconst 0, 1) := dko_3 (dk_t 3 3 [3, 54, 6, 21, 6, 16, 30, 162, 0, 96, 29] dwX11_sumOf_0 rfl rfl)
theorem dX11_sumOf_4 : decode cX11_sumOf 4 = .ok (.istore 6, 2) := dko_54 (dk_t 4 4 [54, 6, 21, 6, 16, 30, 162, 0, 96, 29] dwX11_sumOf_0 rfl rfl)
theorem dX11_sumOf_6 : decode cX11_sumOf 6 = .ok (.iload 6, 2) := dko_21 (dk_t 6 6 [21, 6, 16, 30, 162, 0, 96, 29] dwX11_sumOf_0 rfl rfl)
theorem dX11_sumOf_8 : decode cX11_sumOf 8 = .ok (.bipush 30, 2) := dko_16 (dk_t 8 8 [16, 30, 162, 0, 96, 29] dwX11_sumOf_0 rfl rfl)
theorem dX11_sumOf_10 : decode cX11_sumOf 10 = .ok (.if_icmp .ge 96, 3) := dko_162 (dk_t 10 10 [162, 0, 96, 29] dwX11_sumOf_0 rfl rfl)
theorem dX11_sumOf_13 : decode cX11_sumOf 13 = .ok (.iload_n 3, 1) := dko_29 (dk_t 13 13 [29] dwX11_sumOf_0 rfl rfl)
theorem dwX11_sumOf_14 : dkW cX11_sumOf 14 [42, 27, 4, 182, 0, 165, 21, 6, 184, 0, 156, 96, 54, 7] = true := by decide +kernel
theorem dX11_sumOf_14 : decode cX11_sumOf 14 = .ok (.aload_n 0, 1) := dko_42 dwX11_sumOf_14
theorem dX11_sumOf_15 : decode cX11_sumOf 15 = .ok (.iload_n 1, 1) := dko_27 (dk_t 1 15 [27, 4, 182, 0, 165, 21, 6, 184, 0, 156, 96, 54, 7] dwX11_sumOf_14 rfl rfl)
theorem dX11_sumOf_16 : decode cX11_sumOf 16 = .ok (.iconst 1, 1) := dko_4 (dk_t 2 16 [4, 182, 0, 165, 21, 6, 184, 0, 156, 96, 54, 7] dwX11_sumOf_14 rfl rfl)
theorem dX11_sumOf_17 : decode cX11_sumOf 17 = .ok (.invokevirtual 165, 3) := dko_182 (dk_t 3 17 [182, 0, 165, 21, 6, 184, 0, 156, 96, 54, 7] dwX11_sumOf_14 rfl rfl)
theorem dX11_sumOf_20 : decode cX11_sumOf 20 = .ok (.iload 6, 2) := dko_21 (dk_t 6 20 [21, 6, 184, 0, 156, 96, 54, 7] dwX11_sumOf_14 rfl rfl)
theorem dX11_sumOf_22 : decode cX11_sumOf 22 = .ok (.invokestatic 156, 3) := dko_184 (dk_t 8 22 [184, 0, 156, 96, 54, 7] dwX11_sumOf_14 rfl rfl)
theorem dX11_sumOf_25 : decode cX11_sumOf 25 = .ok (.iadd, 1) := dko_96 (dk_t 11 25 [96, 54, 7] dwX11_sumOf_14 rfl rfl)
theorem dX11_sumOf_26 : decode cX11_sumOf 26 = .ok (.istore 7, 2) := dko_54 (dk_t 12 26 [54, 7] dwX11_sumOf_14 rfl rfl)
theorem dwX11_sumOf_28 : dkW cX11_sumOf 28 [44, 21, 7, 46, 4, 160, 0, 25, 44, 21, 7, 4, 96, 42] = true := by decide +kernel
theorem dX11_sumOf_28 : decode cX11_sumOf 28 = .ok (.aload_n 2, 1) := dko_44 dwX11_sumOf_28
theorem dX11_sumOf_29 : decode cX11_sumOf 29 = .ok (.iload 7, 2) := dko_21 (dk_t 1 29 [21, 7, 46, 4, 160, 0, 25, 44, 21, 7, 4, 96, 42] dwX11_sumOf_28 rfl rfl)
theorem dX11_sumOf_31 : decode cX11_sumOf 31 = .ok (.iaload, 1) := dko_46 (dk_t 3 31 [46, 4, 160, 0, 25, 44, 21, 7, 4, 96, 42] dwX11_sumOf_28 rfl rfl)
theorem dX11_sumOf_32 : decode cX11_sumOf 32 = .ok (.iconst 1, 1) := dko_4 (dk_t 4 32 [4, 160, 0, 25, 44, 21, 7, 4, 96, 42] dwX11_sumOf_28 rfl rfl)
theorem dX11_sumOf_33 : decode cX11_sumOf 33 = .ok (.if_icmp .ne 25, 3) := dko_160 (dk_t 5 33 [160, 0, 25, 44, 21, 7, 4, 96, 42] dwX11_sumOf_28 rfl rfl)
theorem dX11_sumOf_36 : decode cX11_sumOf 36 = .ok (.aload_n 2, 1) := dko_44 (dk_t 8 36 [44, 21, 7, 4, 96, 42] dwX11_sumOf_28 rfl rfl)
theorem dX11_sumOf_37 : decode cX11_sumOf 37 = .ok (.iload 7, 2) := dko_21 (dk_t 9 37 [21, 7, 4, 96, 42] dwX11_sumOf_28 rfl rfl)
theorem dX11_sumOf_39 : decode cX11_sumOf 39 = .ok (.iconst 1, 1) := dko_4 (dk_t 11 39 [4, 96, 42] dwX11_sumOf_28 rfl rfl)
theorem dX11_sumOf_40 : decode cX11_sumOf 40 = .ok (.iadd, 1) := dko_96 (dk_t 12 40 [96, 42] dwX11_sumOf_28 rfl rfl)
theorem dX11_sumOf_41 : decode cX11_sumOf 41 = .ok (.aload_n 0, 1) := dko_42 (dk_t 13 41 [42] dwX11_sumOf_28 rfl rfl)
theorem dwX11_sumOf_42 : dkW cX11_sumOf 42 [27, 5, 182, 0, 165, 96, 46, 21, 4, 160, 0, 7, 4] = true := by decide +kernel
theorem dX11_sumOf_42 : decode cX11_sumOf 42 = .ok (.iload_n 1, 1) := dko_27 dwX11_sumOf_42
theorem dX11_sumOf_43 : decode cX11_sumOf 43 = .ok (.iconst 2, 1) := dko_5 (dk_t 1 43 [5, 182, 0, 165, 96, 46, 21, 4, 160, 0, 7, 4] dwX11_sumOf_42 rfl rfl)
theorem dX11_sumOf_44 : decode cX11_sumOf 44 = .ok (.invokevirtual 165, 3) := dko_182 (dk_t 2 44 [182, 0, 165, 96, 46, 21, 4, 160, 0, 7, 4] dwX11_sumOf_42 rfl rfl)
theorem dX11_sumOf_47 : decode cX11_sumOf 47 = .ok (.iadd, 1) := dko_96 (dk_t 5 47 [96, 46, 21, 4, 160, 0, 7, 4] dwX11_sumOf_42 rfl rfl)
theorem dX11_sumOf_48 : decode cX11_sumOf 48 = .ok (.iaload, 1) := dko_46 (dk_t 6 48 [46, 21, 4, 160, 0, 7, 4] dwX11_sumOf_42 rfl rfl)
theorem dX11_sumOf_49 : decode cX11_sumOf 49 = .ok (.iload 4, 2) := dko_21 (dk_t 7 49 [21, 4, 160, 0, 7, 4] dwX11_sumOf_42 rfl rfl)
theorem dX11_sumOf_51 : decode cX11_sumOf 51 = .ok (.if_icmp .ne 7, 3) := dko_160 (dk_t 9 51 [160, 0, 7, 4] dwX11_sumOf_42 rfl rfl)
theorem dX11_sumOf_54 : decode cX11_sumOf 54 = .ok (.iconst 1, 1) := dko_4 (dk_t 12 54 [4] dwX11_sumOf_42 rfl rfl)
theorem dwX11_sumOf_55 : dkW cX11_sumOf 55 [167, 0, 4, 3, 54, 8, 44, 21, 7, 4, 96, 42, 27, 6] = true := by decide +kernel
theorem dX11_sumOf_55 : decode cX11_sumOf 55 = .ok (.goto 4, 3) := dko_167 dwX11_sumOf_55
theorem dX11_sumOf_58 : decode cX11_sumOf 58 = .ok (.iconst 0, 1) := dko_3 (dk_t 3 58 [3, 54, 8, 44, 21, 7, 4, 96, 42, 27, 6] dwX11_sumOf_55 rfl rfl)
theorem dX11_sumOf_59 : decode cX11_sumOf 59 = .ok (.istore 8, 2) := dko_54 (dk_t 4 59 [54, 8, 44, 21, 7, 4, 96, 42, 27, 6] dwX11_sumOf_55 rfl rfl)
theorem dX11_sumOf_61 : decode cX11_sumOf 61 = .ok (.aload_n 2, 1) := dko_44 (dk_t 6 61 [44, 21, 7, 4, 96, 42, 27, 6] dwX11_sumOf_55 rfl rfl)
theorem dX11_sumOf_62 : decode cX11_sumOf 62 = .ok (.iload 7, 2) := dko_21 (dk_t 7 62 [21, 7, 4, 96, 42, 27, 6] dwX11_sumOf_55 rfl rfl)
theorem dX11_sumOf_64 : decode cX11_sumOf 64 = .ok (.iconst 1, 1) := dko_4 (dk_t 9 64 [4, 96, 42, 27, 6] dwX11_sumOf_55 rfl rfl)
theorem dX11_sumOf_65 : decode cX11_sumOf 65 = .ok (.iadd, 1) := dko_96 (dk_t 10 65 [96, 42, 27, 6] dwX11_sumOf_55 rfl rfl)
theorem dX11_sumOf_66 : decode cX11_sumOf 66 = .ok (.aload_n 0, 1) := dko_42 (dk_t 11 66 [42, 27, 6] dwX11_sumOf_55 rfl rfl)
theorem dX11_sumOf_67 : decode cX11_sumOf 67 = .ok (.iload_n 1, 1) := dko_27 (dk_t 12 67 [27, 6] dwX11_sumOf_55 rfl rfl)
theorem dX11_sumOf_68 : decode cX11_sumOf 68 = .ok (.iconst 3, 1) := dko_6 (dk_t 13 68 [6] dwX11_sumOf_55 rfl rfl)
theorem dwX11_sumOf_69 : dkW cX11_sumOf 69 [182, 0, 165, 96, 46, 54, 9, 21, 5, 21, 8, 153, 0, 16] = true := by decide +kernel
theorem dX11_sumOf_69 : decode cX11_sumOf 69 = .ok (.invokevirtual 165, 3) := dko_182 dwX11_sumOf_69
theorem dX11_sumOf_72 : decode cX11_sumOf 72 = .ok (.iadd, 1) := dko_96 (dk_t 3 72 [96, 46, 54, 9, 21, 5, 21, 8, 153, 0, 16] dwX11_sumOf_69 rfl rfl)
theorem dX11_sumOf_73 : decode cX11_sumOf 73 = .ok (.iaload, 1) := dko_46 (dk_t 4 73 [46, 54, 9, 21, 5, 21, 8, 153, 0, 16] dwX11_sumOf_69 rfl rfl)
theorem dX11_sumOf_74 : decode cX11_sumOf 74 = .ok (.istore 9, 2) := dko_54 (dk_t 5 74 [54, 9, 21, 5, 21, 8, 153, 0, 16] dwX11_sumOf_69 rfl rfl)
theorem dX11_sumOf_76 : decode cX11_sumOf 76 = .ok (.iload 5, 2) := dko_21 (dk_t 7 76 [21, 5, 21, 8, 153, 0, 16] dwX11_sumOf_69 rfl rfl)
theorem dX11_sumOf_78 : decode cX11_sumOf 78 = .ok (.iload 8, 2) := dko_21 (dk_t 9 78 [21, 8, 153, 0, 16] dwX11_sumOf_69 rfl rfl)
theorem dX11_sumOf_80 : decode cX11_sumOf 80 = .ok (.ifCond .eq 16, 3) := dko_153 (dk_t 11 80 [153, 0, 16] dwX11_sumOf_69 rfl rfl)
theorem dwX11_sumOf_83 : dkW cX11_sumOf 83 [21, 9, 17, 252, 24, 159, 0, 8, 21, 9, 167, 0, 4, 3] = true := by decide +kernel
theorem dX11_sumOf_83 : decode cX11_sumOf 83 = .ok (.iload 9, 2) := dko_21 dwX11_sumOf_83
theorem dX11_sumOf_85 : decode cX11_sumOf 85 = .ok (.sipush (-1000), 3) := dko_17 (dk_t 2 85 [17, 252, 24, 159, 0, 8, 21, 9, 167, 0, 4, 3] dwX11_sumOf_83 rfl rfl)
theorem dX11_sumOf_88 : decode cX11_sumOf 88 = .ok (.if_icmp .eq 8, 3) := dko_159 (dk_t 5 88 [159, 0, 8, 21, 9, 167, 0, 4, 3] dwX11_sumOf_83 rfl rfl)
theorem dX11_sumOf_91 : decode cX11_sumOf 91 = .ok (.iload 9, 2) := dko_21 (dk_t 8 91 [21, 9, 167, 0, 4, 3] dwX11_sumOf_83 rfl rfl)
theorem dX11_sumOf_93 : decode cX11_sumOf 93 = .ok (.goto 4, 3) := dko_167 (dk_t 10 93 [167, 0, 4, 3] dwX11_sumOf_83 rfl rfl)
theorem dX11_sumOf_96 : decode cX11_sumOf 96 = .ok (.iconst 0, 1) := dko_3 (dk_t 13 96 [3] dwX11_sumOf_83 rfl rfl)
theorem dwX11_sumOf_97 : dkW cX11_sumOf 97 [96, 54, 5, 132, 6, 1, 167, 255, 159, 21, 5, 172] = true := by decide +kernel
theorem dX11_sumOf_97 : decode cX11_sumOf 97 = .ok (.iadd, 1) := dko_96 dwX11_sumOf_97
theorem dX11_sumOf_98 : decode cX11_sumOf 98 = .ok (.istore 5, 2) := dko_54 (dk_t 1 98 [54, 5, 132, 6, 1, 167, 255, 159, 21, 5, 172] dwX11_sumOf_97 rfl rfl)
theorem dX11_sumOf_100 : decode cX11_sumOf 100 = .ok (.iinc 6 1, 3) := dko_132 (dk_t 3 100 [132, 6, 1, 167, 255, 159, 21, 5, 172] dwX11_sumOf_97 rfl rfl)
theorem dX11_sumOf_103 : decode cX11_sumOf 103 = .ok (.goto (-97), 3) := dko_167 (dk_t 6 103 [167, 255, 159, 21, 5, 172] dwX11_sumOf_97 rfl rfl)
theorem dX11_sumOf_106 : decode cX11_sumOf 106 = .ok (.iload 5, 2) := dko_21 (dk_t 9 106 [21, 5, 172] dwX11_sumOf_97 rfl rfl)
theorem dX11_sumOf_108 : decode cX11_sumOf 108 = .ok (.ireturn, 1) := dko_172 (dk_t 11 108 [172] dwX11_sumOf_97 rfl rfl)
theorem dwX11_stateOf_0 : dkW cX11_stateOf 0 [42, 27, 3, 182, 0, 165, 54, 5, 21, 5, 5, 159, 0, 9] = true := by decide +kernel
theorem dX11_stateOf_0 : decode cX11_stateOf 0 = .ok (.aload_n 0, 1) := dko_42 dwX11_stateOf_0
theorem dX11_stateOf_1 : decode cX11_stateOf 1 = .ok (.iload_n 1, 1) := dko_27 (dk_t 1 1 [27, 3, 182, 0, 165, 54, 5, 21, 5, 5, 159, 0, 9] dwX11_stateOf_0 rfl rfl)
theorem dX11_stateOf_2 : decode cX11_stateOf 2 = .ok (.iconst 0, 1) := dko_3 (dk_t 2 2 [3, 182, 0, 165, 54, 5, 21, 5, 5, 159, 0, 9] dwX11_stateOf_0 rfl rfl)
theorem dX11_stateOf_3 : decode cX11_stateOf 3 = .ok (.invokevirtual 165, 3) := dko_182 (dk_t 3 3 [182, 0, 165, 54, 5, 21, 5, 5, 159, 0, 9] dwX11_stateOf_0 rfl rfl)
theorem dX11_stateOf_6 : decode cX11_stateOf 6 = .ok (.istore 5, 2) := dko_54 (dk_t 6 6 [54, 5, 21, 5, 5, 159, 0, 9] dwX11_stateOf_0 rfl rfl)
theorem dX11_stateOf_8 : decode cX11_stateOf 8 = .ok (.iload 5, 2) := dko_21 (dk_t 8 8 [21, 5, 5, 159, 0, 9] dwX11_stateOf_0 rfl rfl)
theorem dX11_stateOf_10 : decode cX11_stateOf 10 = .ok (.iconst 2, 1) := dko_5 (dk_t 10 10 [5, 159, 0, 9] dwX11_stateOf_0 rfl rfl)
theorem dX11_stateOf_11 : decode cX11_stateOf 11 = .ok (.if_icmp .eq 9, 3) := dko_159 (dk_t 11 11 [159, 0, 9] dwX11_stateOf_0 rfl rfl)
theorem dwX11_stateOf_14 : dkW cX11_stateOf 14 [21, 5, 8, 160, 0, 46, 21, 4, 42, 27, 4, 182, 0, 165] = true := by decide +kernel
theorem dX11_stateOf_14 : decode cX11_stateOf 14 = .ok (.iload 5, 2) := dko_21 dwX11_stateOf_14
theorem dX11_stateOf_16 : decode cX11_stateOf 16 = .ok (.iconst 5, 1) := dko_8 (dk_t 2 16 [8, 160, 0, 46, 21, 4, 42, 27, 4, 182, 0, 165] dwX11_stateOf_14 rfl rfl)
theorem dX11_stateOf_17 : decode cX11_stateOf 17 = .ok (.if_icmp .ne 46, 3) := dko_160 (dk_t 3 17 [160, 0, 46, 21, 4, 42, 27, 4, 182, 0, 165] dwX11_stateOf_14 rfl rfl)
theorem dX11_stateOf_20 : decode cX11_stateOf 20 = .ok (.iload 4, 2) := dko_21 (dk_t 6 20 [21, 4, 42, 27, 4, 182, 0, 165] dwX11_stateOf_14 rfl rfl)
theorem dX11_stateOf_22 : decode cX11_stateOf 22 = .ok (.aload_n 0, 1) := dko_42 (dk_t 8 22 [42, 27, 4, 182, 0, 165] dwX11_stateOf_14 rfl rfl)
theorem dX11_stateOf_23 : decode cX11_stateOf 23 = .ok (.iload_n 1, 1) := dko_27 (dk_t 9 23 [27, 4, 182, 0, 165] dwX11_stateOf_14 rfl rfl)
theorem dX11_stateOf_24 : decode cX11_stateOf 24 = .ok (.iconst 1, 1) := dko_4 (dk_t 10 24 [4, 182, 0, 165] dwX11_stateOf_14 rfl rfl)
theorem dX11_stateOf_25 : decode cX11_stateOf 25 = .ok (.invokevirtual 165, 3) := dko_182 (dk_t 11 25 [182, 0, 165] dwX11_stateOf_14 rfl rfl)
theorem dwX11_stateOf_28 : dkW cX11_stateOf 28 [28, 184, 0, 156, 96, 54, 6, 45, 21, 6, 46, 4] = true := by decide +kernel
theorem dX11_stateOf_28 : decode cX11_stateOf 28 = .ok (.iload_n 2, 1) := dko_28 dwX11_stateOf_28
theorem dX11_stateOf_29 : decode cX11_stateOf 29 = .ok (.invokestatic 156, 3) := dko_184 (dk_t 1 29 [184, 0, 156, 96, 54, 6, 45, 21, 6, 46, 4] dwX11_stateOf_28 rfl rfl)
theorem dX11_stateOf_32 : decode cX11_stateOf 32 = .ok (.iadd, 1) := dko_96 (dk_t 4 32 [96, 54, 6, 45, 21, 6, 46, 4] dwX11_stateOf_28 rfl rfl)
theorem dX11_stateOf_33 : decode cX11_stateOf 33 = .ok (.istore 6, 2) := dko_54 (dk_t 5 33 [54, 6, 45, 21, 6, 46, 4] dwX11_stateOf_28 rfl rfl)
theorem dX11_stateOf_35 : decode cX11_stateOf 35 = .ok (.aload_n 3, 1) := dko_45 (dk_t 7 35 [45, 21, 6, 46, 4] dwX11_stateOf_28 rfl rfl)
theorem dX11_stateOf_36 : decode cX11_stateOf 36 = .ok (.iload 6, 2) := dko_21 (dk_t 8 36 [21, 6, 46, 4] dwX11_stateOf_28 rfl rfl)
theorem dX11_stateOf_38 : decode cX11_stateOf 38 = .ok (.iaload, 1) := dko_46 (dk_t 10 38 [46, 4] dwX11_stateOf_28 rfl rfl)
theorem dX11_stateOf_39 : decode cX11_stateOf 39 = .ok (.iconst 1, 1) := dko_4 (dk_t 11 39 [4] dwX11_stateOf_28 rfl rfl)
theorem dwX11_stateOf_40 : dkW cX11_stateOf 40 [160, 0, 19, 45, 21, 6, 4, 96, 42, 27, 5, 182, 0, 165] = true := by decide +kernel
theorem dX11_stateOf_40 : decode cX11_stateOf 40 = .ok (.if_icmp .ne 19, 3) := dko_160 dwX11_stateOf_40
theorem dX11_stateOf_43 : decode cX11_stateOf 43 = .ok (.aload_n 3, 1) := dko_45 (dk_t 3 43 [45, 21, 6, 4, 96, 42, 27, 5, 182, 0, 165] dwX11_stateOf_40 rfl rfl)
theorem dX11_stateOf_44 : decode cX11_stateOf 44 = .ok (.iload 6, 2) := dko_21 (dk_t 4 44 [21, 6, 4, 96, 42, 27, 5, 182, 0, 165] dwX11_stateOf_40 rfl rfl)
theorem dX11_stateOf_46 : decode cX11_stateOf 46 = .ok (.iconst 1, 1) := dko_4 (dk_t 6 46 [4, 96, 42, 27, 5, 182, 0, 165] dwX11_stateOf_40 rfl rfl)
theorem dX11_stateOf_47 : decode cX11_stateOf 47 = .ok (.iadd, 1) := dko_96 (dk_t 7 47 [96, 42, 27, 5, 182, 0, 165] dwX11_stateOf_40 rfl rfl)
theorem dX11_stateOf_48 : decode cX11_stateOf 48 = .ok (.aload_n 0, 1) := dko_42 (dk_t 8 48 [42, 27, 5, 182, 0, 165] dwX11_stateOf_40 rfl rfl)
theorem dX11_stateOf_49 : decode cX11_stateOf 49 = .ok (.iload_n 1, 1) := dko_27 (dk_t 9 49 [27, 5, 182, 0, 165] dwX11_stateOf_40 rfl rfl)
theorem dX11_stateOf_50 : decode cX11_stateOf 50 = .ok (.iconst 2, 1) := dko_5 (dk_t 10 50 [5, 182, 0, 165] dwX11_stateOf_40 rfl rfl)
theorem dX11_stateOf_51 : decode cX11_stateOf 51 = .ok (.invokevirtual 165, 3) := dko_182 (dk_t 11 51 [182, 0, 165] dwX11_stateOf_40 rfl rfl)
theorem dwX11_stateOf_54 : dkW cX11_stateOf 54 [96, 46, 167, 0, 6, 17, 248, 48, 172, 42, 27, 45, 21, 4] = true := by decide +kernel
theorem dX11_stateOf_54 : decode cX11_stateOf 54 = .ok (.iadd, 1) := dko_96 dwX11_stateOf_54
theorem dX11_stateOf_55 : decode cX11_stateOf 55 = .ok (.iaload, 1) := dko_46 (dk_t 1 55 [46, 167, 0, 6, 17, 248, 48, 172, 42, 27, 45, 21, 4] dwX11_stateOf_54 rfl rfl)
theorem dX11_stateOf_56 : decode cX11_stateOf 56 = .ok (.goto 6, 3) := dko_167 (dk_t 2 56 [167, 0, 6, 17, 248, 48, 172, 42, 27, 45, 21, 4] dwX11_stateOf_54 rfl rfl)
theorem dX11_stateOf_59 : decode cX11_stateOf 59 = .ok (.sipush (-2000), 3) := dko_17 (dk_t 5 59 [17, 248, 48, 172, 42, 27, 45, 21, 4] dwX11_stateOf_54 rfl rfl)
theorem dX11_stateOf_62 : decode cX11_stateOf 62 = .ok (.ireturn, 1) := dko_172 (dk_t 8 62 [172, 42, 27, 45, 21, 4] dwX11_stateOf_54 rfl rfl)
theorem dX11_stateOf_63 : decode cX11_stateOf 63 = .ok (.aload_n 0, 1) := dko_42 (dk_t 9 63 [42, 27, 45, 21, 4] dwX11_stateOf_54 rfl rfl)
theorem dX11_stateOf_64 : decode cX11_stateOf 64 = .ok (.iload_n 1, 1) := dko_27 (dk_t 10 64 [27, 45, 21, 4] dwX11_stateOf_54 rfl rfl)
theorem dX11_stateOf_65 : decode cX11_stateOf 65 = .ok (.aload_n 3, 1) := dko_45 (dk_t 11 65 [45, 21, 4] dwX11_stateOf_54 rfl rfl)
theorem dX11_stateOf_66 : decode cX11_stateOf 66 = .ok (.iload 4, 2) := dko_21 (dk_t 12 66 [21, 4] dwX11_stateOf_54 rfl rfl)
theorem dwX11_stateOf_68 : dkW cX11_stateOf 68 [28, 182, 0, 171, 54, 6, 21, 5, 154, 0, 6, 21, 6, 172] = true := by decide +kernel
theorem dX11_stateOf_68 : decode cX11_stateOf 68 = .ok (.iload_n 2, 1) := dko_28 dwX11_stateOf_68
theorem dX11_stateOf_69 : decode cX11_stateOf 69 = .ok (.invokevirtual 171, 3) := dko_182 (dk_t 1 69 [182, 0, 171, 54, 6, 21, 5, 154, 0, 6, 21, 6, 172] dwX11_stateOf_68 rfl rfl)
theorem dX11_stateOf_72 : decode cX11_stateOf 72 = .ok (.istore 6, 2) := dko_54 (dk_t 4 72 [54, 6, 21, 5, 154, 0, 6, 21, 6, 172] dwX11_stateOf_68 rfl rfl)
theorem dX11_stateOf_74 : decode cX11_stateOf 74 = .ok (.iload 5, 2) := dko_21 (dk_t 6 74 [21, 5, 154, 0, 6, 21, 6, 172] dwX11_stateOf_68 rfl rfl)
theorem dX11_stateOf_76 : decode cX11_stateOf 76 = .ok (.ifCond .ne 6, 3) := dko_154 (dk_t 8 76 [154, 0, 6, 21, 6, 172] dwX11_stateOf_68 rfl rfl)
theorem dX11_stateOf_79 : decode cX11_stateOf 79 = .ok (.iload 6, 2) := dko_21 (dk_t 11 79 [21, 6, 172] dwX11_stateOf_68 rfl rfl)
theorem dX11_stateOf_81 : decode cX11_stateOf 81 = .ok (.ireturn, 1) := dko_172 (dk_t 13 81 [172] dwX11_stateOf_68 rfl rfl)
theorem dwX11_stateOf_82 : dkW cX11_stateOf 82 [21, 5, 6, 160, 0, 23, 21, 6, 154, 0, 8, 18, 175] = true := by decide +kernel
theorem dX11_stateOf_82 : decode cX11_stateOf 82 = .ok (.iload 5, 2) := dko_21 dwX11_stateOf_82
theorem dX11_stateOf_84 : decode cX11_stateOf 84 = .ok (.iconst 3, 1) := dko_6 (dk_t 2 84 [6, 160, 0, 23, 21, 6, 154, 0, 8, 18, 175] dwX11_stateOf_82 rfl rfl)
theorem dX11_stateOf_85 : decode cX11_stateOf 85 = .ok (.if_icmp .ne 23, 3) := dko_160 (dk_t 3 85 [160, 0, 23, 21, 6, 154, 0, 8, 18, 175] dwX11_stateOf_82 rfl rfl)
theorem dX11_stateOf_88 : decode cX11_stateOf 88 = .ok (.iload 6, 2) := dko_21 (dk_t 6 88 [21, 6, 154, 0, 8, 18, 175] dwX11_stateOf_82 rfl rfl)
theorem dX11_stateOf_90 : decode cX11_stateOf 90 = .ok (.ifCond .ne 8, 3) := dko_154 (dk_t 8 90 [154, 0, 8, 18, 175] dwX11_stateOf_82 rfl rfl)
theorem dX11_stateOf_93 : decode cX11_stateOf 93 = .ok (.ldc 175, 2) := dko_18 (dk_t 11 93 [18, 175] dwX11_stateOf_82 rfl rfl)
theorem dwX11_stateOf_95 : dkW cX11_stateOf 95 [167, 0, 12, 42, 27, 45, 21, 4, 28, 182, 0, 176, 172, 5] = true := by decide +kernel
theorem dX11_stateOf_95 : decode cX11_stateOf 95 = .ok (.goto 12, 3) := dko_167 dwX11_stateOf_95
theorem dX11_stateOf_98 : decode cX11_stateOf 98 = .ok (.aload_n 0, 1) := dko_42 (dk_t 3 98 [42, 27, 45, 21, 4, 28, 182, 0, 176, 172, 5] dwX11_stateOf_95 rfl rfl)
theorem dX11_stateOf_99 : decode cX11_stateOf 99 = .ok (.iload_n 1, 1) := dko_27 (dk_t 4 99 [27, 45, 21, 4, 28, 182, 0, 176, 172, 5] dwX11_stateOf_95 rfl rfl)
theorem dX11_stateOf_100 : decode cX11_stateOf 100 = .ok (.aload_n 3, 1) := dko_45 (dk_t 5 100 [45, 21, 4, 28, 182, 0, 176, 172, 5] dwX11_stateOf_95 rfl rfl)
theorem dX11_stateOf_101 : decode cX11_stateOf 101 = .ok (.iload 4, 2) := dko_21 (dk_t 6 101 [21, 4, 28, 182, 0, 176, 172, 5] dwX11_stateOf_95 rfl rfl)
theorem dX11_stateOf_103 : decode cX11_stateOf 103 = .ok (.iload_n 2, 1) := dko_28 (dk_t 8 103 [28, 182, 0, 176, 172, 5] dwX11_stateOf_95 rfl rfl)
theorem dX11_stateOf_104 : decode cX11_stateOf 104 = .ok (.invokevirtual 176, 3) := dko_182 (dk_t 9 104 [182, 0, 176, 172, 5] dwX11_stateOf_95 rfl rfl)
theorem dX11_stateOf_107 : decode cX11_stateOf 107 = .ok (.ireturn, 1) := dko_172 (dk_t 12 107 [172, 5] dwX11_stateOf_95 rfl rfl)
theorem dX11_stateOf_108 : decode cX11_stateOf 108 = .ok (.iconst 2, 1) := dko_5 (dk_t 13 108 [5] dwX11_stateOf_95 rfl rfl)
theorem dwX11_stateOf_109 : dkW cX11_stateOf 109 [21, 6, 104, 28, 184, 0, 153, 153, 0, 21, 45, 21, 4, 42] = true := by decide +kernel
theorem dX11_stateOf_109 : decode cX11_stateOf 109 = .ok (.iload 6, 2) := dko_21 dwX11_stateOf_109
theorem dX11_stateOf_111 : decode cX11_stateOf 111 = .ok (.imul, 1) := dko_104 (dk_t 2 111 [104, 28, 184, 0, 153, 153, 0, 21, 45, 21, 4, 42] dwX11_stateOf_109 rfl rfl)
theorem dX11_stateOf_112 : decode cX11_stateOf 112 = .ok (.iload_n 2, 1) := dko_28 (dk_t 3 112 [28, 184, 0, 153, 153, 0, 21, 45, 21, 4, 42] dwX11_stateOf_109 rfl rfl)
theorem dX11_stateOf_113 : decode cX11_stateOf 113 = .ok (.invokestatic 153, 3) := dko_184 (dk_t 4 113 [184, 0, 153, 153, 0, 21, 45, 21, 4, 42] dwX11_stateOf_109 rfl rfl)
theorem dX11_stateOf_116 : decode cX11_stateOf 116 = .ok (.ifCond .eq 21, 3) := dko_153 (dk_t 7 116 [153, 0, 21, 45, 21, 4, 42] dwX11_stateOf_109 rfl rfl)
theorem dX11_stateOf_119 : decode cX11_stateOf 119 = .ok (.aload_n 3, 1) := dko_45 (dk_t 10 119 [45, 21, 4, 42] dwX11_stateOf_109 rfl rfl)
theorem dX11_stateOf_120 : decode cX11_stateOf 120 = .ok (.iload 4, 2) := dko_21 (dk_t 11 120 [21, 4, 42] dwX11_stateOf_109 rfl rfl)
theorem dX11_stateOf_122 : decode cX11_stateOf 122 = .ok (.aload_n 0, 1) := dko_42 (dk_t 13 122 [42] dwX11_stateOf_109 rfl rfl)
theorem dwX11_stateOf_123 : dkW cX11_stateOf 123 [27, 6, 182, 0, 165, 28, 184, 0, 156, 96, 46, 167, 0, 4] = true := by decide +kernel
theorem dX11_stateOf_123 : decode cX11_stateOf 123 = .ok (.iload_n 1, 1) := dko_27 dwX11_stateOf_123
theorem dX11_stateOf_124 : decode cX11_stateOf 124 = .ok (.iconst 3, 1) := dko_6 (dk_t 1 124 [6, 182, 0, 165, 28, 184, 0, 156, 96, 46, 167, 0, 4] dwX11_stateOf_123 rfl rfl)
theorem dX11_stateOf_125 : decode cX11_stateOf 125 = .ok (.invokevirtual 165, 3) := dko_182 (dk_t 2 125 [182, 0, 165, 28, 184, 0, 156, 96, 46, 167, 0, 4] dwX11_stateOf_123 rfl rfl)
theorem dX11_stateOf_128 : decode cX11_stateOf 128 = .ok (.iload_n 2, 1) := dko_28 (dk_t 5 128 [28, 184, 0, 156, 96, 46, 167, 0, 4] dwX11_stateOf_123 rfl rfl)
theorem dX11_stateOf_129 : decode cX11_stateOf 129 = .ok (.invokestatic 156, 3) := dko_184 (dk_t 6 129 [184, 0, 156, 96, 46, 167, 0, 4] dwX11_stateOf_123 rfl rfl)
theorem dX11_stateOf_132 : decode cX11_stateOf 132 = .ok (.iadd, 1) := dko_96 (dk_t 9 132 [96, 46, 167, 0, 4] dwX11_stateOf_123 rfl rfl)
theorem dX11_stateOf_133 : decode cX11_stateOf 133 = .ok (.iaload, 1) := dko_46 (dk_t 10 133 [46, 167, 0, 4] dwX11_stateOf_123 rfl rfl)
theorem dX11_stateOf_134 : decode cX11_stateOf 134 = .ok (.goto 4, 3) := dko_167 (dk_t 11 134 [167, 0, 4] dwX11_stateOf_123 rfl rfl)
theorem dwX11_stateOf_137 : dkW cX11_stateOf 137 [3, 96, 172] = true := by decide +kernel
theorem dX11_stateOf_137 : decode cX11_stateOf 137 = .ok (.iconst 0, 1) := dko_3 dwX11_stateOf_137
theorem dX11_stateOf_138 : decode cX11_stateOf 138 = .ok (.iadd, 1) := dko_96 (dk_t 1 138 [96, 172] dwX11_stateOf_137 rfl rfl)
theorem dX11_stateOf_139 : decode cX11_stateOf 139 = .ok (.ireturn, 1) := dko_172 (dk_t 2 139 [172] dwX11_stateOf_137 rfl rfl)
theorem dwX11_layStates_0 : dkW cX11_layStates 0 [3, 54, 4, 21, 4, 16, 12, 162, 0, 62, 42, 21, 4] = true := by decide +kernel
theorem dX11_layStates_0 : decode cX11_layStates 0 = .ok (.iconst 0, 1) := dko_3 dwX11_layStates_0
theorem dX11_layStates_1 : decode cX11_layStates 1 = .ok (.istore 4, 2) := dko_54 (dk_t 1 1 [54, 4, 21, 4, 16, 12, 162, 0, 62, 42, 21, 4] dwX11_layStates_0 rfl rfl)
theorem dX11_layStates_3 : decode cX11_layStates 3 = .ok (.iload 4, 2) := dko_21 (dk_t 3 3 [21, 4, 16, 12, 162, 0, 62, 42, 21, 4] dwX11_layStates_0 rfl rfl)
theorem dX11_layStates_5 : decode cX11_layStates 5 = .ok (.bipush 12, 2) := dko_16 (dk_t 5 5 [16, 12, 162, 0, 62, 42, 21, 4] dwX11_layStates_0 rfl rfl)
theorem dX11_layStates_7 : decode cX11_layStates 7 = .ok (.if_icmp .ge 62, 3) := dko_162 (dk_t 7 7 [162, 0, 62, 42, 21, 4] dwX11_layStates_0 rfl rfl)
theorem dX11_layStates_10 : decode cX11_layStates 10 = .ok (.aload_n 0, 1) := dko_42 (dk_t 10 10 [42, 21, 4] dwX11_layStates_0 rfl rfl)
theorem dX11_layStates_11 : decode cX11_layStates 11 = .ok (.iload 4, 2) := dko_21 (dk_t 11 11 [21, 4] dwX11_layStates_0 rfl rfl)
theorem dwX11_layStates_13 : dkW cX11_layStates 13 [182, 0, 162, 153, 0, 47, 42, 21, 4, 182, 0, 179, 54, 5] = true := by decide +kernel
theorem dX11_layStates_13 : decode cX11_layStates 13 = .ok (.invokevirtual 162, 3) := dko_182 dwX11_layStates_13
theorem dX11_layStates_16 : decode cX11_layStates 16 = .ok (.ifCond .eq 47, 3) := dko_153 (dk_t 3 16 [153, 0, 47, 42, 21, 4, 182, 0, 179, 54, 5] dwX11_layStates_13 rfl rfl)
theorem dX11_layStates_19 : decode cX11_layStates 19 = .ok (.aload_n 0, 1) := dko_42 (dk_t 6 19 [42, 21, 4, 182, 0, 179, 54, 5] dwX11_layStates_13 rfl rfl)
theorem dX11_layStates_20 : decode cX11_layStates 20 = .ok (.iload 4, 2) := dko_21 (dk_t 7 20 [21, 4, 182, 0, 179, 54, 5] dwX11_layStates_13 rfl rfl)
theorem dX11_layStates_22 : decode cX11_layStates 22 = .ok (.invokevirtual 179, 3) := dko_182 (dk_t 9 22 [182, 0, 179, 54, 5] dwX11_layStates_13 rfl rfl)
theorem dX11_layStates_25 : decode cX11_layStates 25 = .ok (.istore 5, 2) := dko_54 (dk_t 12 25 [54, 5] dwX11_layStates_13 rfl rfl)
theorem dwX11_layStates_27 : dkW cX11_layStates 27 [21, 5, 42, 21, 4, 182, 0, 183, 163, 0, 28, 43, 21, 4] = true := by decide +kernel
theorem dX11_layStates_27 : decode cX11_layStates 27 = .ok (.iload 5, 2) := dko_21 dwX11_layStates_27
theorem dX11_layStates_29 : decode cX11_layStates 29 = .ok (.aload_n 0, 1) := dko_42 (dk_t 2 29 [42, 21, 4, 182, 0, 183, 163, 0, 28, 43, 21, 4] dwX11_layStates_27 rfl rfl)
theorem dX11_layStates_30 : decode cX11_layStates 30 = .ok (.iload 4, 2) := dko_21 (dk_t 3 30 [21, 4, 182, 0, 183, 163, 0, 28, 43, 21, 4] dwX11_layStates_27 rfl rfl)
theorem dX11_layStates_32 : decode cX11_layStates 32 = .ok (.invokevirtual 183, 3) := dko_182 (dk_t 5 32 [182, 0, 183, 163, 0, 28, 43, 21, 4] dwX11_layStates_27 rfl rfl)
theorem dX11_layStates_35 : decode cX11_layStates 35 = .ok (.if_icmp .gt 28, 3) := dko_163 (dk_t 8 35 [163, 0, 28, 43, 21, 4] dwX11_layStates_27 rfl rfl)
theorem dX11_layStates_38 : decode cX11_layStates 38 = .ok (.aload_n 1, 1) := dko_43 (dk_t 11 38 [43, 21, 4] dwX11_layStates_27 rfl rfl)
theorem dX11_layStates_39 : decode cX11_layStates 39 = .ok (.iload 4, 2) := dko_21 (dk_t 12 39 [21, 4] dwX11_layStates_27 rfl rfl)
theorem dwX11_layStates_41 : dkW cX11_layStates 41 [21, 5, 184, 0, 186, 42, 21, 4, 21, 5, 44, 29] = true := by decide +kernel
theorem dX11_layStates_41 : decode cX11_layStates 41 = .ok (.iload 5, 2) := dko_21 dwX11_layStates_41
theorem dX11_layStates_43 : decode cX11_layStates 43 = .ok (.invokestatic 186, 3) := dko_184 (dk_t 2 43 [184, 0, 186, 42, 21, 4, 21, 5, 44, 29] dwX11_layStates_41 rfl rfl)
theorem dX11_layStates_46 : decode cX11_layStates 46 = .ok (.aload_n 0, 1) := dko_42 (dk_t 5 46 [42, 21, 4, 21, 5, 44, 29] dwX11_layStates_41 rfl rfl)
theorem dX11_layStates_47 : decode cX11_layStates 47 = .ok (.iload 4, 2) := dko_21 (dk_t 6 47 [21, 4, 21, 5, 44, 29] dwX11_layStates_41 rfl rfl)
theorem dX11_layStates_49 : decode cX11_layStates 49 = .ok (.iload 5, 2) := dko_21 (dk_t 8 49 [21, 5, 44, 29] dwX11_layStates_41 rfl rfl)
theorem dX11_layStates_51 : decode cX11_layStates 51 = .ok (.aload_n 2, 1) := dko_44 (dk_t 10 51 [44, 29] dwX11_layStates_41 rfl rfl)
theorem dX11_layStates_52 : decode cX11_layStates 52 = .ok (.iload_n 3, 1) := dko_29 (dk_t 11 52 [29] dwX11_layStates_41 rfl rfl)
theorem dwX11_layStates_53 : dkW cX11_layStates 53 [182, 0, 189, 79, 132, 5, 1, 167, 255, 223, 132, 4, 1] = true := by decide +kernel
theorem dX11_layStates_53 : decode cX11_layStates 53 = .ok (.invokevirtual 189, 3) := dko_182 dwX11_layStates_53
theorem dX11_layStates_56 : decode cX11_layStates 56 = .ok (.iastore, 1) := dko_79 (dk_t 3 56 [79, 132, 5, 1, 167, 255, 223, 132, 4, 1] dwX11_layStates_53 rfl rfl)
theorem dX11_layStates_57 : decode cX11_layStates 57 = .ok (.iinc 5 1, 3) := dko_132 (dk_t 4 57 [132, 5, 1, 167, 255, 223, 132, 4, 1] dwX11_layStates_53 rfl rfl)
theorem dX11_layStates_60 : decode cX11_layStates 60 = .ok (.goto (-33), 3) := dko_167 (dk_t 7 60 [167, 255, 223, 132, 4, 1] dwX11_layStates_53 rfl rfl)
theorem dX11_layStates_63 : decode cX11_layStates 63 = .ok (.iinc 4 1, 3) := dko_132 (dk_t 10 63 [132, 4, 1] dwX11_layStates_53 rfl rfl)
theorem dwX11_layStates_66 : dkW cX11_layStates 66 [167, 255, 193, 177] = true := by decide +kernel
theorem dX11_layStates_66 : decode cX11_layStates 66 = .ok (.goto (-63), 3) := dko_167 dwX11_layStates_66
theorem dX11_layStates_69 : decode cX11_layStates 69 = .ok (.return_, 1) := dko_177 (dk_t 3 69 [177] dwX11_layStates_66 rfl rfl)
theorem dwX11_isRing_0 : dkW cX11_isRing 0 [28, 54, 5, 3, 54, 6, 21, 6, 16, 30, 162, 0, 99] = true := by decide +kernel
theorem dX11_isRing_0 : decode cX11_isRing 0 = .ok (.iload_n 2, 1) := dko_28 dwX11_isRing_0
theorem dX11_isRing_1 : decode cX11_isRing 1 = .ok (.istore 5, 2) := dko_54 (dk_t 1 1 [54, 5, 3, 54, 6, 21, 6, 16, 30, 162, 0, 99] dwX11_isRing_0 rfl rfl)
theorem dX11_isRing_3 : decode cX11_isRing 3 = .ok (.iconst 0, 1) := dko_3 (dk_t 3 3 [3, 54, 6, 21, 6, 16, 30, 162, 0, 99] dwX11_isRing_0 rfl rfl)
theorem dX11_isRing_4 : decode cX11_isRing 4 = .ok (.istore 6, 2) := dko_54 (dk_t 4 4 [54, 6, 21, 6, 16, 30, 162, 0, 99] dwX11_isRing_0 rfl rfl)
theorem dX11_isRing_6 : decode cX11_isRing 6 = .ok (.iload 6, 2) := dko_21 (dk_t 6 6 [21, 6, 16, 30, 162, 0, 99] dwX11_isRing_0 rfl rfl)
theorem dX11_isRing_8 : decode cX11_isRing 8 = .ok (.bipush 30, 2) := dko_16 (dk_t 8 8 [16, 30, 162, 0, 99] dwX11_isRing_0 rfl rfl)
theorem dX11_isRing_10 : decode cX11_isRing 10 = .ok (.if_icmp .ge 99, 3) := dko_162 (dk_t 10 10 [162, 0, 99] dwX11_isRing_0 rfl rfl)
theorem dwX11_isRing_13 : dkW cX11_isRing 13 [21, 4, 42, 27, 4, 182, 0, 165, 21, 5, 184, 0, 156, 96] = true := by decide +kernel
theorem dX11_isRing_13 : decode cX11_isRing 13 = .ok (.iload 4, 2) := dko_21 dwX11_isRing_13
theorem dX11_isRing_15 : decode cX11_isRing 15 = .ok (.aload_n 0, 1) := dko_42 (dk_t 2 15 [42, 27, 4, 182, 0, 165, 21, 5, 184, 0, 156, 96] dwX11_isRing_13 rfl rfl)
theorem dX11_isRing_16 : decode cX11_isRing 16 = .ok (.iload_n 1, 1) := dko_27 (dk_t 3 16 [27, 4, 182, 0, 165, 21, 5, 184, 0, 156, 96] dwX11_isRing_13 rfl rfl)
theorem dX11_isRing_17 : decode cX11_isRing 17 = .ok (.iconst 1, 1) := dko_4 (dk_t 4 17 [4, 182, 0, 165, 21, 5, 184, 0, 156, 96] dwX11_isRing_13 rfl rfl)
theorem dX11_isRing_18 : decode cX11_isRing 18 = .ok (.invokevirtual 165, 3) := dko_182 (dk_t 5 18 [182, 0, 165, 21, 5, 184, 0, 156, 96] dwX11_isRing_13 rfl rfl)
theorem dX11_isRing_21 : decode cX11_isRing 21 = .ok (.iload 5, 2) := dko_21 (dk_t 8 21 [21, 5, 184, 0, 156, 96] dwX11_isRing_13 rfl rfl)
theorem dX11_isRing_23 : decode cX11_isRing 23 = .ok (.invokestatic 156, 3) := dko_184 (dk_t 10 23 [184, 0, 156, 96] dwX11_isRing_13 rfl rfl)
theorem dX11_isRing_26 : decode cX11_isRing 26 = .ok (.iadd, 1) := dko_96 (dk_t 13 26 [96] dwX11_isRing_13 rfl rfl)
theorem dwX11_isRing_27 : dkW cX11_isRing 27 [54, 7, 45, 21, 7, 46, 4, 160, 0, 19, 45, 21, 7, 4] = true := by decide +kernel
theorem dX11_isRing_27 : decode cX11_isRing 27 = .ok (.istore 7, 2) := dko_54 dwX11_isRing_27
theorem dX11_isRing_29 : decode cX11_isRing 29 = .ok (.aload_n 3, 1) := dko_45 (dk_t 2 29 [45, 21, 7, 46, 4, 160, 0, 19, 45, 21, 7, 4] dwX11_isRing_27 rfl rfl)
theorem dX11_isRing_30 : decode cX11_isRing 30 = .ok (.iload 7, 2) := dko_21 (dk_t 3 30 [21, 7, 46, 4, 160, 0, 19, 45, 21, 7, 4] dwX11_isRing_27 rfl rfl)
theorem dX11_isRing_32 : decode cX11_isRing 32 = .ok (.iaload, 1) := dko_46 (dk_t 5 32 [46, 4, 160, 0, 19, 45, 21, 7, 4] dwX11_isRing_27 rfl rfl)
theorem dX11_isRing_33 : decode cX11_isRing 33 = .ok (.iconst 1, 1) := dko_4 (dk_t 6 33 [4, 160, 0, 19, 45, 21, 7, 4] dwX11_isRing_27 rfl rfl)
theorem dX11_isRing_34 : decode cX11_isRing 34 = .ok (.if_icmp .ne 19, 3) := dko_160 (dk_t 7 34 [160, 0, 19, 45, 21, 7, 4] dwX11_isRing_27 rfl rfl)
theorem dX11_isRing_37 : decode cX11_isRing 37 = .ok (.aload_n 3, 1) := dko_45 (dk_t 10 37 [45, 21, 7, 4] dwX11_isRing_27 rfl rfl)
theorem dX11_isRing_38 : decode cX11_isRing 38 = .ok (.iload 7, 2) := dko_21 (dk_t 11 38 [21, 7, 4] dwX11_isRing_27 rfl rfl)
theorem dX11_isRing_40 : decode cX11_isRing 40 = .ok (.iconst 1, 1) := dko_4 (dk_t 13 40 [4] dwX11_isRing_27 rfl rfl)
theorem dwX11_isRing_41 : dkW cX11_isRing 41 [96, 42, 27, 5, 182, 0, 165, 96, 46, 167, 0, 6] = true := by decide +kernel
theorem dX11_isRing_41 : decode cX11_isRing 41 = .ok (.iadd, 1) := dko_96 dwX11_isRing_41
theorem dX11_isRing_42 : decode cX11_isRing 42 = .ok (.aload_n 0, 1) := dko_42 (dk_t 1 42 [42, 27, 5, 182, 0, 165, 96, 46, 167, 0, 6] dwX11_isRing_41 rfl rfl)
theorem dX11_isRing_43 : decode cX11_isRing 43 = .ok (.iload_n 1, 1) := dko_27 (dk_t 2 43 [27, 5, 182, 0, 165, 96, 46, 167, 0, 6] dwX11_isRing_41 rfl rfl)
theorem dX11_isRing_44 : decode cX11_isRing 44 = .ok (.iconst 2, 1) := dko_5 (dk_t 3 44 [5, 182, 0, 165, 96, 46, 167, 0, 6] dwX11_isRing_41 rfl rfl)
theorem dX11_isRing_45 : decode cX11_isRing 45 = .ok (.invokevirtual 165, 3) := dko_182 (dk_t 4 45 [182, 0, 165, 96, 46, 167, 0, 6] dwX11_isRing_41 rfl rfl)
theorem dX11_isRing_48 : decode cX11_isRing 48 = .ok (.iadd, 1) := dko_96 (dk_t 7 48 [96, 46, 167, 0, 6] dwX11_isRing_41 rfl rfl)
theorem dX11_isRing_49 : decode cX11_isRing 49 = .ok (.iaload, 1) := dko_46 (dk_t 8 49 [46, 167, 0, 6] dwX11_isRing_41 rfl rfl)
theorem dX11_isRing_50 : decode cX11_isRing 50 = .ok (.goto 6, 3) := dko_167 (dk_t 9 50 [167, 0, 6] dwX11_isRing_41 rfl rfl)
theorem dwX11_isRing_53 : dkW cX11_isRing 53 [17, 252, 24, 54, 8, 21, 8, 184, 0, 153, 154, 0, 5, 3] = true := by decide +kernel
theorem dX11_isRing_53 : decode cX11_isRing 53 = .ok (.sipush (-1000), 3) := dko_17 dwX11_isRing_53
theorem dX11_isRing_56 : decode cX11_isRing 56 = .ok (.istore 8, 2) := dko_54 (dk_t 3 56 [54, 8, 21, 8, 184, 0, 153, 154, 0, 5, 3] dwX11_isRing_53 rfl rfl)
theorem dX11_isRing_58 : decode cX11_isRing 58 = .ok (.iload 8, 2) := dko_21 (dk_t 5 58 [21, 8, 184, 0, 153, 154, 0, 5, 3] dwX11_isRing_53 rfl rfl)
theorem dX11_isRing_60 : decode cX11_isRing 60 = .ok (.invokestatic 153, 3) := dko_184 (dk_t 7 60 [184, 0, 153, 154, 0, 5, 3] dwX11_isRing_53 rfl rfl)
theorem dX11_isRing_63 : decode cX11_isRing 63 = .ok (.ifCond .ne 5, 3) := dko_154 (dk_t 10 63 [154, 0, 5, 3] dwX11_isRing_53 rfl rfl)
theorem dX11_isRing_66 : decode cX11_isRing 66 = .ok (.iconst 0, 1) := dko_3 (dk_t 13 66 [3] dwX11_isRing_53 rfl rfl)
theorem dwX11_isRing_67 : dkW cX11_isRing 67 [172, 21, 8, 28, 160, 0, 28, 45, 21, 4, 42, 27, 4] = true := by decide +kernel
theorem dX11_isRing_67 : decode cX11_isRing 67 = .ok (.ireturn, 1) := dko_172 dwX11_isRing_67
theorem dX11_isRing_68 : decode cX11_isRing 68 = .ok (.iload 8, 2) := dko_21 (dk_t 1 68 [21, 8, 28, 160, 0, 28, 45, 21, 4, 42, 27, 4] dwX11_isRing_67 rfl rfl)
theorem dX11_isRing_70 : decode cX11_isRing 70 = .ok (.iload_n 2, 1) := dko_28 (dk_t 3 70 [28, 160, 0, 28, 45, 21, 4, 42, 27, 4] dwX11_isRing_67 rfl rfl)
theorem dX11_isRing_71 : decode cX11_isRing 71 = .ok (.if_icmp .ne 28, 3) := dko_160 (dk_t 4 71 [160, 0, 28, 45, 21, 4, 42, 27, 4] dwX11_isRing_67 rfl rfl)
theorem dX11_isRing_74 : decode cX11_isRing 74 = .ok (.aload_n 3, 1) := dko_45 (dk_t 7 74 [45, 21, 4, 42, 27, 4] dwX11_isRing_67 rfl rfl)
theorem dX11_isRing_75 : decode cX11_isRing 75 = .ok (.iload 4, 2) := dko_21 (dk_t 8 75 [21, 4, 42, 27, 4] dwX11_isRing_67 rfl rfl)
theorem dX11_isRing_77 : decode cX11_isRing 77 = .ok (.aload_n 0, 1) := dko_42 (dk_t 10 77 [42, 27, 4] dwX11_isRing_67 rfl rfl)
theorem dX11_isRing_78 : decode cX11_isRing 78 = .ok (.iload_n 1, 1) := dko_27 (dk_t 11 78 [27, 4] dwX11_isRing_67 rfl rfl)
theorem dX11_isRing_79 : decode cX11_isRing 79 = .ok (.iconst 1, 1) := dko_4 (dk_t 12 79 [4] dwX11_isRing_67 rfl rfl)
theorem dwX11_isRing_80 : dkW cX11_isRing 80 [182, 0, 165, 28, 184, 0, 156, 96, 46, 4, 160, 0, 7, 4] = true := by decide +kernel
theorem dX11_isRing_80 : decode cX11_isRing 80 = .ok (.invokevirtual 165, 3) := dko_182 dwX11_isRing_80
theorem dX11_isRing_83 : decode cX11_isRing 83 = .ok (.iload_n 2, 1) := dko_28 (dk_t 3 83 [28, 184, 0, 156, 96, 46, 4, 160, 0, 7, 4] dwX11_isRing_80 rfl rfl)
theorem dX11_isRing_84 : decode cX11_isRing 84 = .ok (.invokestatic 156, 3) := dko_184 (dk_t 4 84 [184, 0, 156, 96, 46, 4, 160, 0, 7, 4] dwX11_isRing_80 rfl rfl)
theorem dX11_isRing_87 : decode cX11_isRing 87 = .ok (.iadd, 1) := dko_96 (dk_t 7 87 [96, 46, 4, 160, 0, 7, 4] dwX11_isRing_80 rfl rfl)
theorem dX11_isRing_88 : decode cX11_isRing 88 = .ok (.iaload, 1) := dko_46 (dk_t 8 88 [46, 4, 160, 0, 7, 4] dwX11_isRing_80 rfl rfl)
theorem dX11_isRing_89 : decode cX11_isRing 89 = .ok (.iconst 1, 1) := dko_4 (dk_t 9 89 [4, 160, 0, 7, 4] dwX11_isRing_80 rfl rfl)
theorem dX11_isRing_90 : decode cX11_isRing 90 = .ok (.if_icmp .ne 7, 3) := dko_160 (dk_t 10 90 [160, 0, 7, 4] dwX11_isRing_80 rfl rfl)
theorem dX11_isRing_93 : decode cX11_isRing 93 = .ok (.iconst 1, 1) := dko_4 (dk_t 13 93 [4] dwX11_isRing_80 rfl rfl)
theorem dwX11_isRing_94 : dkW cX11_isRing 94 [167, 0, 4, 3, 172, 21, 8, 54, 5, 132, 6, 1] = true := by decide +kernel
theorem dX11_isRing_94 : decode cX11_isRing 94 = .ok (.goto 4, 3) := dko_167 dwX11_isRing_94
theorem dX11_isRing_97 : decode cX11_isRing 97 = .ok (.iconst 0, 1) := dko_3 (dk_t 3 97 [3, 172, 21, 8, 54, 5, 132, 6, 1] dwX11_isRing_94 rfl rfl)
theorem dX11_isRing_98 : decode cX11_isRing 98 = .ok (.ireturn, 1) := dko_172 (dk_t 4 98 [172, 21, 8, 54, 5, 132, 6, 1] dwX11_isRing_94 rfl rfl)
theorem dX11_isRing_99 : decode cX11_isRing 99 = .ok (.iload 8, 2) := dko_21 (dk_t 5 99 [21, 8, 54, 5, 132, 6, 1] dwX11_isRing_94 rfl rfl)
theorem dX11_isRing_101 : decode cX11_isRing 101 = .ok (.istore 5, 2) := dko_54 (dk_t 7 101 [54, 5, 132, 6, 1] dwX11_isRing_94 rfl rfl)
theorem dX11_isRing_103 : decode cX11_isRing 103 = .ok (.iinc 6 1, 3) := dko_132 (dk_t 9 103 [132, 6, 1] dwX11_isRing_94 rfl rfl)
theorem dwX11_isRing_106 : dkW cX11_isRing 106 [167, 255, 156, 3, 172] = true := by decide +kernel
theorem dX11_isRing_106 : decode cX11_isRing 106 = .ok (.goto (-100), 3) := dko_167 dwX11_isRing_106
theorem dX11_isRing_109 : decode cX11_isRing 109 = .ok (.iconst 0, 1) := dko_3 (dk_t 3 109 [3, 172] dwX11_isRing_106 rfl rfl)
theorem dX11_isRing_110 : decode cX11_isRing 110 = .ok (.ireturn, 1) := dko_172 (dk_t 4 110 [172] dwX11_isRing_106 rfl rfl)
theorem dwX11_fails_0 : dkW cX11_fails 0 [42, 27, 3, 182, 0, 165, 54, 5, 21, 5, 8, 160, 0, 13] = true := by decide +kernel
theorem dX11_fails_0 : decode cX11_fails 0 = .ok (.aload_n 0, 1) := dko_42 dwX11_fails_0
theorem dX11_fails_1 : decode cX11_fails 1 = .ok (.iload_n 1, 1) := dko_27 (dk_t 1 1 [27, 3, 182, 0, 165, 54, 5, 21, 5, 8, 160, 0, 13] dwX11_fails_0 rfl rfl)
theorem dX11_fails_2 : decode cX11_fails 2 = .ok (.iconst 0, 1) := dko_3 (dk_t 2 2 [3, 182, 0, 165, 54, 5, 21, 5, 8, 160, 0, 13] dwX11_fails_0 rfl rfl)
theorem dX11_fails_3 : decode cX11_fails 3 = .ok (.invokevirtual 165, 3) := dko_182 (dk_t 3 3 [182, 0, 165, 54, 5, 21, 5, 8, 160, 0, 13] dwX11_fails_0 rfl rfl)
theorem dX11_fails_6 : decode cX11_fails 6 = .ok (.istore 5, 2) := dko_54 (dk_t 6 6 [54, 5, 21, 5, 8, 160, 0, 13] dwX11_fails_0 rfl rfl)
theorem dX11_fails_8 : decode cX11_fails 8 = .ok (.iload 5, 2) := dko_21 (dk_t 8 8 [21, 5, 8, 160, 0, 13] dwX11_fails_0 rfl rfl)
theorem dX11_fails_10 : decode cX11_fails 10 = .ok (.iconst 5, 1) := dko_8 (dk_t 10 10 [8, 160, 0, 13] dwX11_fails_0 rfl rfl)
theorem dX11_fails_11 : decode cX11_fails 11 = .ok (.if_icmp .ne 13, 3) := dko_160 (dk_t 11 11 [160, 0, 13] dwX11_fails_0 rfl rfl)
theorem dwX11_fails_14 : dkW cX11_fails 14 [42, 27, 28, 45, 21, 4, 182, 0, 193, 172, 42, 27, 28, 45] = true := by decide +kernel
theorem dX11_fails_14 : decode cX11_fails 14 = .ok (.aload_n 0, 1) := dko_42 dwX11_fails_14
theorem dX11_fails_15 : decode cX11_fails 15 = .ok (.iload_n 1, 1) := dko_27 (dk_t 1 15 [27, 28, 45, 21, 4, 182, 0, 193, 172, 42, 27, 28, 45] dwX11_fails_14 rfl rfl)
theorem dX11_fails_16 : decode cX11_fails 16 = .ok (.iload_n 2, 1) := dko_28 (dk_t 2 16 [28, 45, 21, 4, 182, 0, 193, 172, 42, 27, 28, 45] dwX11_fails_14 rfl rfl)
theorem dX11_fails_17 : decode cX11_fails 17 = .ok (.aload_n 3, 1) := dko_45 (dk_t 3 17 [45, 21, 4, 182, 0, 193, 172, 42, 27, 28, 45] dwX11_fails_14 rfl rfl)
theorem dX11_fails_18 : decode cX11_fails 18 = .ok (.iload 4, 2) := dko_21 (dk_t 4 18 [21, 4, 182, 0, 193, 172, 42, 27, 28, 45] dwX11_fails_14 rfl rfl)
theorem dX11_fails_20 : decode cX11_fails 20 = .ok (.invokevirtual 193, 3) := dko_182 (dk_t 6 20 [182, 0, 193, 172, 42, 27, 28, 45] dwX11_fails_14 rfl rfl)
theorem dX11_fails_23 : decode cX11_fails 23 = .ok (.ireturn, 1) := dko_172 (dk_t 9 23 [172, 42, 27, 28, 45] dwX11_fails_14 rfl rfl)
theorem dX11_fails_24 : decode cX11_fails 24 = .ok (.aload_n 0, 1) := dko_42 (dk_t 10 24 [42, 27, 28, 45] dwX11_fails_14 rfl rfl)
theorem dX11_fails_25 : decode cX11_fails 25 = .ok (.iload_n 1, 1) := dko_27 (dk_t 11 25 [27, 28, 45] dwX11_fails_14 rfl rfl)
theorem dX11_fails_26 : decode cX11_fails 26 = .ok (.iload_n 2, 1) := dko_28 (dk_t 12 26 [28, 45] dwX11_fails_14 rfl rfl)
theorem dX11_fails_27 : decode cX11_fails 27 = .ok (.aload_n 3, 1) := dko_45 (dk_t 13 27 [45] dwX11_fails_14 rfl rfl)
theorem dwX11_fails_28 : dkW cX11_fails 28 [21, 4, 182, 0, 189, 54, 6, 21, 6, 133, 42, 27, 7] = true := by decide +kernel
theorem dX11_fails_28 : decode cX11_fails 28 = .ok (.iload 4, 2) := dko_21 dwX11_fails_28
theorem dX11_fails_30 : decode cX11_fails 30 = .ok (.invokevirtual 189, 3) := dko_182 (dk_t 2 30 [182, 0, 189, 54, 6, 21, 6, 133, 42, 27, 7] dwX11_fails_28 rfl rfl)
theorem dX11_fails_33 : decode cX11_fails 33 = .ok (.istore 6, 2) := dko_54 (dk_t 5 33 [54, 6, 21, 6, 133, 42, 27, 7] dwX11_fails_28 rfl rfl)
theorem dX11_fails_35 : decode cX11_fails 35 = .ok (.iload 6, 2) := dko_21 (dk_t 7 35 [21, 6, 133, 42, 27, 7] dwX11_fails_28 rfl rfl)
theorem dX11_fails_37 : decode cX11_fails 37 = .ok (.i2l, 1) := dko_133 (dk_t 9 37 [133, 42, 27, 7] dwX11_fails_28 rfl rfl)
theorem dX11_fails_38 : decode cX11_fails 38 = .ok (.aload_n 0, 1) := dko_42 (dk_t 10 38 [42, 27, 7] dwX11_fails_28 rfl rfl)
theorem dX11_fails_39 : decode cX11_fails 39 = .ok (.iload_n 1, 1) := dko_27 (dk_t 11 39 [27, 7] dwX11_fails_28 rfl rfl)
theorem dX11_fails_40 : decode cX11_fails 40 = .ok (.iconst 4, 1) := dko_7 (dk_t 12 40 [7] dwX11_fails_28 rfl rfl)
theorem dwX11_fails_41 : dkW cX11_fails 41 [182, 0, 165, 133, 42, 27, 8, 182, 0, 165, 133, 184, 0, 139] = true := by decide +kernel
theorem dX11_fails_41 : decode cX11_fails 41 = .ok (.invokevirtual 165, 3) := dko_182 dwX11_fails_41
theorem dX11_fails_44 : decode cX11_fails 44 = .ok (.i2l, 1) := dko_133 (dk_t 3 44 [133, 42, 27, 8, 182, 0, 165, 133, 184, 0, 139] dwX11_fails_41 rfl rfl)
theorem dX11_fails_45 : decode cX11_fails 45 = .ok (.aload_n 0, 1) := dko_42 (dk_t 4 45 [42, 27, 8, 182, 0, 165, 133, 184, 0, 139] dwX11_fails_41 rfl rfl)
theorem dX11_fails_46 : decode cX11_fails 46 = .ok (.iload_n 1, 1) := dko_27 (dk_t 5 46 [27, 8, 182, 0, 165, 133, 184, 0, 139] dwX11_fails_41 rfl rfl)
theorem dX11_fails_47 : decode cX11_fails 47 = .ok (.iconst 5, 1) := dko_8 (dk_t 6 47 [8, 182, 0, 165, 133, 184, 0, 139] dwX11_fails_41 rfl rfl)
theorem dX11_fails_48 : decode cX11_fails 48 = .ok (.invokevirtual 165, 3) := dko_182 (dk_t 7 48 [182, 0, 165, 133, 184, 0, 139] dwX11_fails_41 rfl rfl)
theorem dX11_fails_51 : decode cX11_fails 51 = .ok (.i2l, 1) := dko_133 (dk_t 10 51 [133, 184, 0, 139] dwX11_fails_41 rfl rfl)
theorem dX11_fails_52 : decode cX11_fails 52 = .ok (.invokestatic 139, 3) := dko_184 (dk_t 11 52 [184, 0, 139] dwX11_fails_41 rfl rfl)
theorem dwX11_fails_55 : dkW cX11_fails 55 [54, 7, 21, 5] = true := by decide +kernel
theorem dX11_fails_55 : decode cX11_fails 55 = .ok (.istore 7, 2) := dko_54 dwX11_fails_55
theorem dX11_fails_57 : decode cX11_fails 57 = .ok (.iload 5, 2) := dko_21 (dk_t 2 57 [21, 5] dwX11_fails_55 rfl rfl)
theorem dX11_fails_59 : decode cX11_fails 59 = .ok (.tableswitch 104 0 3 #[29, 41, 59, 86], 29) := by decide +kernel
theorem dwX11_fails_88 : dkW cX11_fails 88 [21, 6, 4, 164, 0, 7, 4, 167, 0, 4, 3, 172, 21, 6] = true := by decide +kernel
theorem dX11_fails_88 : decode cX11_fails 88 = .ok (.iload 6, 2) := dko_21 dwX11_fails_88
theorem dX11_fails_90 : decode cX11_fails 90 = .ok (.iconst 1, 1) := dko_4 (dk_t 2 90 [4, 164, 0, 7, 4, 167, 0, 4, 3, 172, 21, 6] dwX11_fails_88 rfl rfl)
theorem dX11_fails_91 : decode cX11_fails 91 = .ok (.if_icmp .le 7, 3) := dko_164 (dk_t 3 91 [164, 0, 7, 4, 167, 0, 4, 3, 172, 21, 6] dwX11_fails_88 rfl rfl)
theorem dX11_fails_94 : decode cX11_fails 94 = .ok (.iconst 1, 1) := dko_4 (dk_t 6 94 [4, 167, 0, 4, 3, 172, 21, 6] dwX11_fails_88 rfl rfl)
theorem dX11_fails_95 : decode cX11_fails 95 = .ok (.goto 4, 3) := dko_167 (dk_t 7 95 [167, 0, 4, 3, 172, 21, 6] dwX11_fails_88 rfl rfl)
theorem dX11_fails_98 : decode cX11_fails 98 = .ok (.iconst 0, 1) := dko_3 (dk_t 10 98 [3, 172, 21, 6] dwX11_fails_88 rfl rfl)
theorem dX11_fails_99 : decode cX11_fails 99 = .ok (.ireturn, 1) := dko_172 (dk_t 11 99 [172, 21, 6] dwX11_fails_88 rfl rfl)
theorem dX11_fails_100 : decode cX11_fails 100 = .ok (.iload 6, 2) := dko_21 (dk_t 12 100 [21, 6] dwX11_fails_88 rfl rfl)
theorem dwX11_fails_102 : dkW cX11_fails 102 [158, 0, 14, 21, 6, 5, 112, 154, 0, 7, 4, 167, 0, 4] = true := by decide +kernel
theorem dX11_fails_102 : decode cX11_fails 102 = .ok (.ifCond .le 14, 3) := dko_158 dwX11_fails_102
theorem dX11_fails_105 : decode cX11_fails 105 = .ok (.iload 6, 2) := dko_21 (dk_t 3 105 [21, 6, 5, 112, 154, 0, 7, 4, 167, 0, 4] dwX11_fails_102 rfl rfl)
theorem dX11_fails_107 : decode cX11_fails 107 = .ok (.iconst 2, 1) := dko_5 (dk_t 5 107 [5, 112, 154, 0, 7, 4, 167, 0, 4] dwX11_fails_102 rfl rfl)
theorem dX11_fails_108 : decode cX11_fails 108 = .ok (.irem, 1) := dko_112 (dk_t 6 108 [112, 154, 0, 7, 4, 167, 0, 4] dwX11_fails_102 rfl rfl)
theorem dX11_fails_109 : decode cX11_fails 109 = .ok (.ifCond .ne 7, 3) := dko_154 (dk_t 7 109 [154, 0, 7, 4, 167, 0, 4] dwX11_fails_102 rfl rfl)
theorem dX11_fails_112 : decode cX11_fails 112 = .ok (.iconst 1, 1) := dko_4 (dk_t 10 112 [4, 167, 0, 4] dwX11_fails_102 rfl rfl)
theorem dX11_fails_113 : decode cX11_fails 113 = .ok (.goto 4, 3) := dko_167 (dk_t 11 113 [167, 0, 4] dwX11_fails_102 rfl rfl)
theorem dwX11_fails_116 : dkW cX11_fails 116 [3, 172, 21, 6, 17, 252, 24, 159, 0, 20, 21, 6] = true := by decide +kernel
theorem dX11_fails_116 : decode cX11_fails 116 = .ok (.iconst 0, 1) := dko_3 dwX11_fails_116
theorem dX11_fails_117 : decode cX11_fails 117 = .ok (.ireturn, 1) := dko_172 (dk_t 1 117 [172, 21, 6, 17, 252, 24, 159, 0, 20, 21, 6] dwX11_fails_116 rfl rfl)
theorem dX11_fails_118 : decode cX11_fails 118 = .ok (.iload 6, 2) := dko_21 (dk_t 2 118 [21, 6, 17, 252, 24, 159, 0, 20, 21, 6] dwX11_fails_116 rfl rfl)
theorem dX11_fails_120 : decode cX11_fails 120 = .ok (.sipush (-1000), 3) := dko_17 (dk_t 4 120 [17, 252, 24, 159, 0, 20, 21, 6] dwX11_fails_116 rfl rfl)
theorem dX11_fails_123 : decode cX11_fails 123 = .ok (.if_icmp .eq 20, 3) := dko_159 (dk_t 7 123 [159, 0, 20, 21, 6] dwX11_fails_116 rfl rfl)
theorem dX11_fails_126 : decode cX11_fails 126 = .ok (.iload 6, 2) := dko_21 (dk_t 10 126 [21, 6] dwX11_fails_116 rfl rfl)
theorem dwX11_fails_128 : dkW cX11_fails 128 [17, 248, 48, 159, 0, 12, 21, 7, 154, 0, 7, 4] = true := by decide +kernel
theorem dX11_fails_128 : decode cX11_fails 128 = .ok (.sipush (-2000), 3) := dko_17 dwX11_fails_128
theorem dX11_fails_131 : decode cX11_fails 131 = .ok (.if_icmp .eq 12, 3) := dko_159 (dk_t 3 131 [159, 0, 12, 21, 7, 154, 0, 7, 4] dwX11_fails_128 rfl rfl)
theorem dX11_fails_134 : decode cX11_fails 134 = .ok (.iload 7, 2) := dko_21 (dk_t 6 134 [21, 7, 154, 0, 7, 4] dwX11_fails_128 rfl rfl)
theorem dX11_fails_136 : decode cX11_fails 136 = .ok (.ifCond .ne 7, 3) := dko_154 (dk_t 8 136 [154, 0, 7, 4] dwX11_fails_128 rfl rfl)
theorem dX11_fails_139 : decode cX11_fails 139 = .ok (.iconst 1, 1) := dko_4 (dk_t 11 139 [4] dwX11_fails_128 rfl rfl)
theorem dwX11_fails_140 : dkW cX11_fails 140 [167, 0, 4, 3, 172, 21, 6, 18, 175, 159, 0, 12, 21, 7] = true := by decide +kernel
theorem dX11_fails_140 : decode cX11_fails 140 = .ok (.goto 4, 3) := dko_167 dwX11_fails_140
theorem dX11_fails_143 : decode cX11_fails 143 = .ok (.iconst 0, 1) := dko_3 (dk_t 3 143 [3, 172, 21, 6, 18, 175, 159, 0, 12, 21, 7] dwX11_fails_140 rfl rfl)
theorem dX11_fails_144 : decode cX11_fails 144 = .ok (.ireturn, 1) := dko_172 (dk_t 4 144 [172, 21, 6, 18, 175, 159, 0, 12, 21, 7] dwX11_fails_140 rfl rfl)
theorem dX11_fails_145 : decode cX11_fails 145 = .ok (.iload 6, 2) := dko_21 (dk_t 5 145 [21, 6, 18, 175, 159, 0, 12, 21, 7] dwX11_fails_140 rfl rfl)
theorem dX11_fails_147 : decode cX11_fails 147 = .ok (.ldc 175, 2) := dko_18 (dk_t 7 147 [18, 175, 159, 0, 12, 21, 7] dwX11_fails_140 rfl rfl)
theorem dX11_fails_149 : decode cX11_fails 149 = .ok (.if_icmp .eq 12, 3) := dko_159 (dk_t 9 149 [159, 0, 12, 21, 7] dwX11_fails_140 rfl rfl)
theorem dX11_fails_152 : decode cX11_fails 152 = .ok (.iload 7, 2) := dko_21 (dk_t 12 152 [21, 7] dwX11_fails_140 rfl rfl)
theorem dwX11_fails_154 : dkW cX11_fails 154 [154, 0, 7, 4, 167, 0, 4, 3, 172, 21, 6, 5, 112, 4] = true := by decide +kernel
theorem dX11_fails_154 : decode cX11_fails 154 = .ok (.ifCond .ne 7, 3) := dko_154 dwX11_fails_154
theorem dX11_fails_157 : decode cX11_fails 157 = .ok (.iconst 1, 1) := dko_4 (dk_t 3 157 [4, 167, 0, 4, 3, 172, 21, 6, 5, 112, 4] dwX11_fails_154 rfl rfl)
theorem dX11_fails_158 : decode cX11_fails 158 = .ok (.goto 4, 3) := dko_167 (dk_t 4 158 [167, 0, 4, 3, 172, 21, 6, 5, 112, 4] dwX11_fails_154 rfl rfl)
theorem dX11_fails_161 : decode cX11_fails 161 = .ok (.iconst 0, 1) := dko_3 (dk_t 7 161 [3, 172, 21, 6, 5, 112, 4] dwX11_fails_154 rfl rfl)
theorem dX11_fails_162 : decode cX11_fails 162 = .ok (.ireturn, 1) := dko_172 (dk_t 8 162 [172, 21, 6, 5, 112, 4] dwX11_fails_154 rfl rfl)
theorem dX11_fails_163 : decode cX11_fails 163 = .ok (.iload 6, 2) := dko_21 (dk_t 9 163 [21, 6, 5, 112, 4] dwX11_fails_154 rfl rfl)
theorem dX11_fails_165 : decode cX11_fails 165 = .ok (.iconst 2, 1) := dko_5 (dk_t 11 165 [5, 112, 4] dwX11_fails_154 rfl rfl)
theorem dX11_fails_166 : decode cX11_fails 166 = .ok (.irem, 1) := dko_112 (dk_t 12 166 [112, 4] dwX11_fails_154 rfl rfl)
theorem dX11_fails_167 : decode cX11_fails 167 = .ok (.iconst 1, 1) := dko_4 (dk_t 13 167 [4] dwX11_fails_154 rfl rfl)
theorem dwX11_fails_168 : dkW cX11_fails 168 [160, 0, 32, 21, 6, 5, 108, 133, 42, 27, 7, 182, 0, 165] = true := by decide +kernel
theorem dX11_fails_168 : decode cX11_fails 168 = .ok (.if_icmp .ne 32, 3) := dko_160 dwX11_fails_168
theorem dX11_fails_171 : decode cX11_fails 171 = .ok (.iload 6, 2) := dko_21 (dk_t 3 171 [21, 6, 5, 108, 133, 42, 27, 7, 182, 0, 165] dwX11_fails_168 rfl rfl)
theorem dX11_fails_173 : decode cX11_fails 173 = .ok (.iconst 2, 1) := dko_5 (dk_t 5 173 [5, 108, 133, 42, 27, 7, 182, 0, 165] dwX11_fails_168 rfl rfl)
theorem dX11_fails_174 : decode cX11_fails 174 = .ok (.idiv, 1) := dko_108 (dk_t 6 174 [108, 133, 42, 27, 7, 182, 0, 165] dwX11_fails_168 rfl rfl)
theorem dX11_fails_175 : decode cX11_fails 175 = .ok (.i2l, 1) := dko_133 (dk_t 7 175 [133, 42, 27, 7, 182, 0, 165] dwX11_fails_168 rfl rfl)
theorem dX11_fails_176 : decode cX11_fails 176 = .ok (.aload_n 0, 1) := dko_42 (dk_t 8 176 [42, 27, 7, 182, 0, 165] dwX11_fails_168 rfl rfl)
theorem dX11_fails_177 : decode cX11_fails 177 = .ok (.iload_n 1, 1) := dko_27 (dk_t 9 177 [27, 7, 182, 0, 165] dwX11_fails_168 rfl rfl)
theorem dX11_fails_178 : decode cX11_fails 178 = .ok (.iconst 4, 1) := dko_7 (dk_t 10 178 [7, 182, 0, 165] dwX11_fails_168 rfl rfl)
theorem dX11_fails_179 : decode cX11_fails 179 = .ok (.invokevirtual 165, 3) := dko_182 (dk_t 11 179 [182, 0, 165] dwX11_fails_168 rfl rfl)
theorem dwX11_fails_182 : dkW cX11_fails 182 [133, 42, 27, 8, 182, 0, 165, 133, 184, 0, 139, 154, 0, 7] = true := by decide +kernel
theorem dX11_fails_182 : decode cX11_fails 182 = .ok (.i2l, 1) := dko_133 dwX11_fails_182
theorem dX11_fails_183 : decode cX11_fails 183 = .ok (.aload_n 0, 1) := dko_42 (dk_t 1 183 [42, 27, 8, 182, 0, 165, 133, 184, 0, 139, 154, 0, 7] dwX11_fails_182 rfl rfl)
theorem dX11_fails_184 : decode cX11_fails 184 = .ok (.iload_n 1, 1) := dko_27 (dk_t 2 184 [27, 8, 182, 0, 165, 133, 184, 0, 139, 154, 0, 7] dwX11_fails_182 rfl rfl)
theorem dX11_fails_185 : decode cX11_fails 185 = .ok (.iconst 5, 1) := dko_8 (dk_t 3 185 [8, 182, 0, 165, 133, 184, 0, 139, 154, 0, 7] dwX11_fails_182 rfl rfl)
theorem dX11_fails_186 : decode cX11_fails 186 = .ok (.invokevirtual 165, 3) := dko_182 (dk_t 4 186 [182, 0, 165, 133, 184, 0, 139, 154, 0, 7] dwX11_fails_182 rfl rfl)
theorem dX11_fails_189 : decode cX11_fails 189 = .ok (.i2l, 1) := dko_133 (dk_t 7 189 [133, 184, 0, 139, 154, 0, 7] dwX11_fails_182 rfl rfl)
theorem dX11_fails_190 : decode cX11_fails 190 = .ok (.invokestatic 139, 3) := dko_184 (dk_t 8 190 [184, 0, 139, 154, 0, 7] dwX11_fails_182 rfl rfl)
theorem dX11_fails_193 : decode cX11_fails 193 = .ok (.ifCond .ne 7, 3) := dko_154 (dk_t 11 193 [154, 0, 7] dwX11_fails_182 rfl rfl)
theorem dwX11_fails_196 : dkW cX11_fails 196 [4, 167, 0, 4, 3, 172] = true := by decide +kernel
theorem dX11_fails_196 : decode cX11_fails 196 = .ok (.iconst 1, 1) := dko_4 dwX11_fails_196
theorem dX11_fails_197 : decode cX11_fails 197 = .ok (.goto 4, 3) := dko_167 (dk_t 1 197 [167, 0, 4, 3, 172] dwX11_fails_196 rfl rfl)
theorem dX11_fails_200 : decode cX11_fails 200 = .ok (.iconst 0, 1) := dko_3 (dk_t 4 200 [3, 172] dwX11_fails_196 rfl rfl)
theorem dX11_fails_201 : decode cX11_fails 201 = .ok (.ireturn, 1) := dko_172 (dk_t 5 201 [172] dwX11_fails_196 rfl rfl)
theorem dwX11_layOrder_0 : dkW cX11_layOrder 0 [42, 3, 181, 0, 197, 3, 60, 27, 16, 12, 162, 0, 87, 42] = true := by decide +kernel
theorem dX11_layOrder_0 : decode cX11_layOrder 0 = .ok (.aload_n 0, 1) := dko_42 dwX11_layOrder_0
theorem dX11_layOrder_1 : decode cX11_layOrder 1 = .ok (.iconst 0, 1) := dko_3 (dk_t 1 1 [3, 181, 0, 197, 3, 60, 27, 16, 12, 162, 0, 87, 42] dwX11_layOrder_0 rfl rfl)
theorem dX11_layOrder_2 : decode cX11_layOrder 2 = .ok (.putfield 197, 3) := dko_181 (dk_t 2 2 [181, 0, 197, 3, 60, 27, 16, 12, 162, 0, 87, 42] dwX11_layOrder_0 rfl rfl)
theorem dX11_layOrder_5 : decode cX11_layOrder 5 = .ok (.iconst 0, 1) := dko_3 (dk_t 5 5 [3, 60, 27, 16, 12, 162, 0, 87, 42] dwX11_layOrder_0 rfl rfl)
theorem dX11_layOrder_6 : decode cX11_layOrder 6 = .ok (.istore_n 1, 1) := dko_60 (dk_t 6 6 [60, 27, 16, 12, 162, 0, 87, 42] dwX11_layOrder_0 rfl rfl)
theorem dX11_layOrder_7 : decode cX11_layOrder 7 = .ok (.iload_n 1, 1) := dko_27 (dk_t 7 7 [27, 16, 12, 162, 0, 87, 42] dwX11_layOrder_0 rfl rfl)
theorem dX11_layOrder_8 : decode cX11_layOrder 8 = .ok (.bipush 12, 2) := dko_16 (dk_t 8 8 [16, 12, 162, 0, 87, 42] dwX11_layOrder_0 rfl rfl)
theorem dX11_layOrder_10 : decode cX11_layOrder 10 = .ok (.if_icmp .ge 87, 3) := dko_162 (dk_t 10 10 [162, 0, 87, 42] dwX11_layOrder_0 rfl rfl)
theorem dX11_layOrder_13 : decode cX11_layOrder 13 = .ok (.aload_n 0, 1) := dko_42 (dk_t 13 13 [42] dwX11_layOrder_0 rfl rfl)
theorem dwX11_layOrder_14 : dkW cX11_layOrder 14 [27, 182, 0, 162, 153, 0, 73, 42, 180, 0, 197, 61, 28] = true := by decide +kernel
theorem dX11_layOrder_14 : decode cX11_layOrder 14 = .ok (.iload_n 1, 1) := dko_27 dwX11_layOrder_14
theorem dX11_layOrder_15 : decode cX11_layOrder 15 = .ok (.invokevirtual 162, 3) := dko_182 (dk_t 1 15 [182, 0, 162, 153, 0, 73, 42, 180, 0, 197, 61, 28] dwX11_layOrder_14 rfl rfl)
theorem dX11_layOrder_18 : decode cX11_layOrder 18 = .ok (.ifCond .eq 73, 3) := dko_153 (dk_t 4 18 [153, 0, 73, 42, 180, 0, 197, 61, 28] dwX11_layOrder_14 rfl rfl)
theorem dX11_layOrder_21 : decode cX11_layOrder 21 = .ok (.aload_n 0, 1) := dko_42 (dk_t 7 21 [42, 180, 0, 197, 61, 28] dwX11_layOrder_14 rfl rfl)
theorem dX11_layOrder_22 : decode cX11_layOrder 22 = .ok (.getfield 197, 3) := dko_180 (dk_t 8 22 [180, 0, 197, 61, 28] dwX11_layOrder_14 rfl rfl)
theorem dX11_layOrder_25 : decode cX11_layOrder 25 = .ok (.istore_n 2, 1) := dko_61 (dk_t 11 25 [61, 28] dwX11_layOrder_14 rfl rfl)
theorem dX11_layOrder_26 : decode cX11_layOrder 26 = .ok (.iload_n 2, 1) := dko_28 (dk_t 12 26 [28] dwX11_layOrder_14 rfl rfl)
theorem dwX11_layOrder_27 : dkW cX11_layOrder 27 [158, 0, 47, 42, 42, 180, 0, 48, 28, 4, 100, 46, 16, 7] = true := by decide +kernel
theorem dX11_layOrder_27 : decode cX11_layOrder 27 = .ok (.ifCond .le 47, 3) := dko_158 dwX11_layOrder_27
theorem dX11_layOrder_30 : decode cX11_layOrder 30 = .ok (.aload_n 0, 1) := dko_42 (dk_t 3 30 [42, 42, 180, 0, 48, 28, 4, 100, 46, 16, 7] dwX11_layOrder_27 rfl rfl)
theorem dX11_layOrder_31 : decode cX11_layOrder 31 = .ok (.aload_n 0, 1) := dko_42 (dk_t 4 31 [42, 180, 0, 48, 28, 4, 100, 46, 16, 7] dwX11_layOrder_27 rfl rfl)
theorem dX11_layOrder_32 : decode cX11_layOrder 32 = .ok (.getfield 48, 3) := dko_180 (dk_t 5 32 [180, 0, 48, 28, 4, 100, 46, 16, 7] dwX11_layOrder_27 rfl rfl)
theorem dX11_layOrder_35 : decode cX11_layOrder 35 = .ok (.iload_n 2, 1) := dko_28 (dk_t 8 35 [28, 4, 100, 46, 16, 7] dwX11_layOrder_27 rfl rfl)
theorem dX11_layOrder_36 : decode cX11_layOrder 36 = .ok (.iconst 1, 1) := dko_4 (dk_t 9 36 [4, 100, 46, 16, 7] dwX11_layOrder_27 rfl rfl)
theorem dX11_layOrder_37 : decode cX11_layOrder 37 = .ok (.isub, 1) := dko_100 (dk_t 10 37 [100, 46, 16, 7] dwX11_layOrder_27 rfl rfl)
theorem dX11_layOrder_38 : decode cX11_layOrder 38 = .ok (.iaload, 1) := dko_46 (dk_t 11 38 [46, 16, 7] dwX11_layOrder_27 rfl rfl)
theorem dX11_layOrder_39 : decode cX11_layOrder 39 = .ok (.bipush 7, 2) := dko_16 (dk_t 12 39 [16, 7] dwX11_layOrder_27 rfl rfl)
theorem dwX11_layOrder_41 : dkW cX11_layOrder 41 [182, 0, 165, 42, 27, 16, 7, 182, 0, 165, 164, 0, 23, 42] = true := by decide +kernel
theorem dX11_layOrder_41 : decode cX11_layOrder 41 = .ok (.invokevirtual 165, 3) := dko_182 dwX11_layOrder_41
theorem dX11_layOrder_44 : decode cX11_layOrder 44 = .ok (.aload_n 0, 1) := dko_42 (dk_t 3 44 [42, 27, 16, 7, 182, 0, 165, 164, 0, 23, 42] dwX11_layOrder_41 rfl rfl)
theorem dX11_layOrder_45 : decode cX11_layOrder 45 = .ok (.iload_n 1, 1) := dko_27 (dk_t 4 45 [27, 16, 7, 182, 0, 165, 164, 0, 23, 42] dwX11_layOrder_41 rfl rfl)
theorem dX11_layOrder_46 : decode cX11_layOrder 46 = .ok (.bipush 7, 2) := dko_16 (dk_t 5 46 [16, 7, 182, 0, 165, 164, 0, 23, 42] dwX11_layOrder_41 rfl rfl)
theorem dX11_layOrder_48 : decode cX11_layOrder 48 = .ok (.invokevirtual 165, 3) := dko_182 (dk_t 7 48 [182, 0, 165, 164, 0, 23, 42] dwX11_layOrder_41 rfl rfl)
theorem dX11_layOrder_51 : decode cX11_layOrder 51 = .ok (.if_icmp .le 23, 3) := dko_164 (dk_t 10 51 [164, 0, 23, 42] dwX11_layOrder_41 rfl rfl)
theorem dX11_layOrder_54 : decode cX11_layOrder 54 = .ok (.aload_n 0, 1) := dko_42 (dk_t 13 54 [42] dwX11_layOrder_41 rfl rfl)
theorem dwX11_layOrder_55 : dkW cX11_layOrder 55 [180, 0, 48, 28, 42, 180, 0, 48, 28, 4, 100, 46, 79] = true := by decide +kernel
theorem dX11_layOrder_55 : decode cX11_layOrder 55 = .ok (.getfield 48, 3) := dko_180 dwX11_layOrder_55
theorem dX11_layOrder_58 : decode cX11_layOrder 58 = .ok (.iload_n 2, 1) := dko_28 (dk_t 3 58 [28, 42, 180, 0, 48, 28, 4, 100, 46, 79] dwX11_layOrder_55 rfl rfl)
theorem dX11_layOrder_59 : decode cX11_layOrder 59 = .ok (.aload_n 0, 1) := dko_42 (dk_t 4 59 [42, 180, 0, 48, 28, 4, 100, 46, 79] dwX11_layOrder_55 rfl rfl)
theorem dX11_layOrder_60 : decode cX11_layOrder 60 = .ok (.getfield 48, 3) := dko_180 (dk_t 5 60 [180, 0, 48, 28, 4, 100, 46, 79] dwX11_layOrder_55 rfl rfl)
theorem dX11_layOrder_63 : decode cX11_layOrder 63 = .ok (.iload_n 2, 1) := dko_28 (dk_t 8 63 [28, 4, 100, 46, 79] dwX11_layOrder_55 rfl rfl)
theorem dX11_layOrder_64 : decode cX11_layOrder 64 = .ok (.iconst 1, 1) := dko_4 (dk_t 9 64 [4, 100, 46, 79] dwX11_layOrder_55 rfl rfl)
theorem dX11_layOrder_65 : decode cX11_layOrder 65 = .ok (.isub, 1) := dko_100 (dk_t 10 65 [100, 46, 79] dwX11_layOrder_55 rfl rfl)
theorem dX11_layOrder_66 : decode cX11_layOrder 66 = .ok (.iaload, 1) := dko_46 (dk_t 11 66 [46, 79] dwX11_layOrder_55 rfl rfl)
theorem dX11_layOrder_67 : decode cX11_layOrder 67 = .ok (.iastore, 1) := dko_79 (dk_t 12 67 [79] dwX11_layOrder_55 rfl rfl)
theorem dwX11_layOrder_68 : dkW cX11_layOrder 68 [132, 2, 255, 167, 255, 211, 42, 180, 0, 48, 28, 27, 79, 42] = true := by decide +kernel
theorem dX11_layOrder_68 : decode cX11_layOrder 68 = .ok (.iinc 2 (-1), 3) := dko_132 dwX11_layOrder_68
theorem dX11_layOrder_71 : decode cX11_layOrder 71 = .ok (.goto (-45), 3) := dko_167 (dk_t 3 71 [167, 255, 211, 42, 180, 0, 48, 28, 27, 79, 42] dwX11_layOrder_68 rfl rfl)
theorem dX11_layOrder_74 : decode cX11_layOrder 74 = .ok (.aload_n 0, 1) := dko_42 (dk_t 6 74 [42, 180, 0, 48, 28, 27, 79, 42] dwX11_layOrder_68 rfl rfl)
theorem dX11_layOrder_75 : decode cX11_layOrder 75 = .ok (.getfield 48, 3) := dko_180 (dk_t 7 75 [180, 0, 48, 28, 27, 79, 42] dwX11_layOrder_68 rfl rfl)
theorem dX11_layOrder_78 : decode cX11_layOrder 78 = .ok (.iload_n 2, 1) := dko_28 (dk_t 10 78 [28, 27, 79, 42] dwX11_layOrder_68 rfl rfl)
theorem dX11_layOrder_79 : decode cX11_layOrder 79 = .ok (.iload_n 1, 1) := dko_27 (dk_t 11 79 [27, 79, 42] dwX11_layOrder_68 rfl rfl)
theorem dX11_layOrder_80 : decode cX11_layOrder 80 = .ok (.iastore, 1) := dko_79 (dk_t 12 80 [79, 42] dwX11_layOrder_68 rfl rfl)
theorem dX11_layOrder_81 : decode cX11_layOrder 81 = .ok (.aload_n 0, 1) := dko_42 (dk_t 13 81 [42] dwX11_layOrder_68 rfl rfl)
theorem dwX11_layOrder_82 : dkW cX11_layOrder 82 [89, 180, 0, 197, 4, 96, 181, 0, 197, 132, 1, 1] = true := by decide +kernel
theorem dX11_layOrder_82 : decode cX11_layOrder 82 = .ok (.dup, 1) := dko_89 dwX11_layOrder_82
theorem dX11_layOrder_83 : decode cX11_layOrder 83 = .ok (.getfield 197, 3) := dko_180 (dk_t 1 83 [180, 0, 197, 4, 96, 181, 0, 197, 132, 1, 1] dwX11_layOrder_82 rfl rfl)
theorem dX11_layOrder_86 : decode cX11_layOrder 86 = .ok (.iconst 1, 1) := dko_4 (dk_t 4 86 [4, 96, 181, 0, 197, 132, 1, 1] dwX11_layOrder_82 rfl rfl)
theorem dX11_layOrder_87 : decode cX11_layOrder 87 = .ok (.iadd, 1) := dko_96 (dk_t 5 87 [96, 181, 0, 197, 132, 1, 1] dwX11_layOrder_82 rfl rfl)
theorem dX11_layOrder_88 : decode cX11_layOrder 88 = .ok (.putfield 197, 3) := dko_181 (dk_t 6 88 [181, 0, 197, 132, 1, 1] dwX11_layOrder_82 rfl rfl)
theorem dX11_layOrder_91 : decode cX11_layOrder 91 = .ok (.iinc 1 1, 3) := dko_132 (dk_t 9 91 [132, 1, 1] dwX11_layOrder_82 rfl rfl)
theorem dwX11_layOrder_94 : dkW cX11_layOrder 94 [167, 255, 169, 177] = true := by decide +kernel
theorem dX11_layOrder_94 : decode cX11_layOrder 94 = .ok (.goto (-87), 3) := dko_167 dwX11_layOrder_94
theorem dX11_layOrder_97 : decode cX11_layOrder 97 = .ok (.return_, 1) := dko_177 (dk_t 3 97 [177] dwX11_layOrder_94 rfl rfl)
theorem dwX11_findUnlike_0 : dkW cX11_findUnlike 0 [42, 182, 0, 200, 42, 3, 181, 0, 203, 3, 54, 4, 21, 4] = true := by decide +kernel
theorem dX11_findUnlike_0 : decode cX11_findUnlike 0 = .ok (.aload_n 0, 1) := dko_42 dwX11_findUnlike_0
theorem dX11_findUnlike_1 : decode cX11_findUnlike 1 = .ok (.invokevirtual 200, 3) := dko_182 (dk_t 1 1 [182, 0, 200, 42, 3, 181, 0, 203, 3, 54, 4, 21, 4] dwX11_findUnlike_0 rfl rfl)
theorem dX11_findUnlike_4 : decode cX11_findUnlike 4 = .ok (.aload_n 0, 1) := dko_42 (dk_t 4 4 [42, 3, 181, 0, 203, 3, 54, 4, 21, 4] dwX11_findUnlike_0 rfl rfl)
theorem dX11_findUnlike_5 : decode cX11_findUnlike 5 = .ok (.iconst 0, 1) := dko_3 (dk_t 5 5 [3, 181, 0, 203, 3, 54, 4, 21, 4] dwX11_findUnlike_0 rfl rfl)
theorem dX11_findUnlike_6 : decode cX11_findUnlike 6 = .ok (.putfield 203, 3) := dko_181 (dk_t 6 6 [181, 0, 203, 3, 54, 4, 21, 4] dwX11_findUnlike_0 rfl rfl)
theorem dX11_findUnlike_9 : decode cX11_findUnlike 9 = .ok (.iconst 0, 1) := dko_3 (dk_t 9 9 [3, 54, 4, 21, 4] dwX11_findUnlike_0 rfl rfl)
theorem dX11_findUnlike_10 : decode cX11_findUnlike 10 = .ok (.istore 4, 2) := dko_54 (dk_t 10 10 [54, 4, 21, 4] dwX11_findUnlike_0 rfl rfl)
theorem dX11_findUnlike_12 : decode cX11_findUnlike 12 = .ok (.iload 4, 2) := dko_21 (dk_t 12 12 [21, 4] dwX11_findUnlike_0 rfl rfl)
theorem dwX11_findUnlike_14 : dkW cX11_findUnlike 14 [42, 180, 0, 197, 162, 0, 113, 42, 180, 0, 48, 21, 4, 46] = true := by decide +kernel
theorem dX11_findUnlike_14 : decode cX11_findUnlike 14 = .ok (.aload_n 0, 1) := dko_42 dwX11_findUnlike_14
theorem dX11_findUnlike_15 : decode cX11_findUnlike 15 = .ok (.getfield 197, 3) := dko_180 (dk_t 1 15 [180, 0, 197, 162, 0, 113, 42, 180, 0, 48, 21, 4, 46] dwX11_findUnlike_14 rfl rfl)
theorem dX11_findUnlike_18 : decode cX11_findUnlike 18 = .ok (.if_icmp .ge 113, 3) := dko_162 (dk_t 4 18 [162, 0, 113, 42, 180, 0, 48, 21, 4, 46] dwX11_findUnlike_14 rfl rfl)
theorem dX11_findUnlike_21 : decode cX11_findUnlike 21 = .ok (.aload_n 0, 1) := dko_42 (dk_t 7 21 [42, 180, 0, 48, 21, 4, 46] dwX11_findUnlike_14 rfl rfl)
theorem dX11_findUnlike_22 : decode cX11_findUnlike 22 = .ok (.getfield 48, 3) := dko_180 (dk_t 8 22 [180, 0, 48, 21, 4, 46] dwX11_findUnlike_14 rfl rfl)
theorem dX11_findUnlike_25 : decode cX11_findUnlike 25 = .ok (.iload 4, 2) := dko_21 (dk_t 11 25 [21, 4, 46] dwX11_findUnlike_14 rfl rfl)
theorem dX11_findUnlike_27 : decode cX11_findUnlike 27 = .ok (.iaload, 1) := dko_46 (dk_t 13 27 [46] dwX11_findUnlike_14 rfl rfl)
theorem dwX11_findUnlike_28 : dkW cX11_findUnlike 28 [54, 5, 42, 21, 5, 182, 0, 179, 54, 6, 21, 6, 42] = true := by decide +kernel
theorem dX11_findUnlike_28 : decode cX11_findUnlike 28 = .ok (.istore 5, 2) := dko_54 dwX11_findUnlike_28
theorem dX11_findUnlike_30 : decode cX11_findUnlike 30 = .ok (.aload_n 0, 1) := dko_42 (dk_t 2 30 [42, 21, 5, 182, 0, 179, 54, 6, 21, 6, 42] dwX11_findUnlike_28 rfl rfl)
theorem dX11_findUnlike_31 : decode cX11_findUnlike 31 = .ok (.iload 5, 2) := dko_21 (dk_t 3 31 [21, 5, 182, 0, 179, 54, 6, 21, 6, 42] dwX11_findUnlike_28 rfl rfl)
theorem dX11_findUnlike_33 : decode cX11_findUnlike 33 = .ok (.invokevirtual 179, 3) := dko_182 (dk_t 5 33 [182, 0, 179, 54, 6, 21, 6, 42] dwX11_findUnlike_28 rfl rfl)
theorem dX11_findUnlike_36 : decode cX11_findUnlike 36 = .ok (.istore 6, 2) := dko_54 (dk_t 8 36 [54, 6, 21, 6, 42] dwX11_findUnlike_28 rfl rfl)
theorem dX11_findUnlike_38 : decode cX11_findUnlike 38 = .ok (.iload 6, 2) := dko_21 (dk_t 10 38 [21, 6, 42] dwX11_findUnlike_28 rfl rfl)
theorem dX11_findUnlike_40 : decode cX11_findUnlike 40 = .ok (.aload_n 0, 1) := dko_42 (dk_t 12 40 [42] dwX11_findUnlike_28 rfl rfl)
theorem dwX11_findUnlike_41 : dkW cX11_findUnlike 41 [21, 5, 182, 0, 183, 163, 0, 79, 27, 5, 159, 0, 15, 42] = true := by decide +kernel
theorem dX11_findUnlike_41 : decode cX11_findUnlike 41 = .ok (.iload 5, 2) := dko_21 dwX11_findUnlike_41
theorem dX11_findUnlike_43 : decode cX11_findUnlike 43 = .ok (.invokevirtual 183, 3) := dko_182 (dk_t 2 43 [182, 0, 183, 163, 0, 79, 27, 5, 159, 0, 15, 42] dwX11_findUnlike_41 rfl rfl)
theorem dX11_findUnlike_46 : decode cX11_findUnlike 46 = .ok (.if_icmp .gt 79, 3) := dko_163 (dk_t 5 46 [163, 0, 79, 27, 5, 159, 0, 15, 42] dwX11_findUnlike_41 rfl rfl)
theorem dX11_findUnlike_49 : decode cX11_findUnlike 49 = .ok (.iload_n 1, 1) := dko_27 (dk_t 8 49 [27, 5, 159, 0, 15, 42] dwX11_findUnlike_41 rfl rfl)
theorem dX11_findUnlike_50 : decode cX11_findUnlike 50 = .ok (.iconst 2, 1) := dko_5 (dk_t 9 50 [5, 159, 0, 15, 42] dwX11_findUnlike_41 rfl rfl)
theorem dX11_findUnlike_51 : decode cX11_findUnlike 51 = .ok (.if_icmp .eq 15, 3) := dko_159 (dk_t 10 51 [159, 0, 15, 42] dwX11_findUnlike_41 rfl rfl)
theorem dX11_findUnlike_54 : decode cX11_findUnlike 54 = .ok (.aload_n 0, 1) := dko_42 (dk_t 13 54 [42] dwX11_findUnlike_41 rfl rfl)
theorem dwX11_findUnlike_55 : dkW cX11_findUnlike 55 [21, 5, 16, 6, 182, 0, 165, 27, 160, 0, 62, 44, 21, 5] = true := by decide +kernel
theorem dX11_findUnlike_55 : decode cX11_findUnlike 55 = .ok (.iload 5, 2) := dko_21 dwX11_findUnlike_55
theorem dX11_findUnlike_57 : decode cX11_findUnlike 57 = .ok (.bipush 6, 2) := dko_16 (dk_t 2 57 [16, 6, 182, 0, 165, 27, 160, 0, 62, 44, 21, 5] dwX11_findUnlike_55 rfl rfl)
theorem dX11_findUnlike_59 : decode cX11_findUnlike 59 = .ok (.invokevirtual 165, 3) := dko_182 (dk_t 4 59 [182, 0, 165, 27, 160, 0, 62, 44, 21, 5] dwX11_findUnlike_55 rfl rfl)
theorem dX11_findUnlike_62 : decode cX11_findUnlike 62 = .ok (.iload_n 1, 1) := dko_27 (dk_t 7 62 [27, 160, 0, 62, 44, 21, 5] dwX11_findUnlike_55 rfl rfl)
theorem dX11_findUnlike_63 : decode cX11_findUnlike 63 = .ok (.if_icmp .ne 62, 3) := dko_160 (dk_t 8 63 [160, 0, 62, 44, 21, 5] dwX11_findUnlike_55 rfl rfl)
theorem dX11_findUnlike_66 : decode cX11_findUnlike 66 = .ok (.aload_n 2, 1) := dko_44 (dk_t 11 66 [44, 21, 5] dwX11_findUnlike_55 rfl rfl)
theorem dX11_findUnlike_67 : decode cX11_findUnlike 67 = .ok (.iload 5, 2) := dko_21 (dk_t 12 67 [21, 5] dwX11_findUnlike_55 rfl rfl)
theorem dwX11_findUnlike_69 : dkW cX11_findUnlike 69 [21, 6, 184, 0, 186, 46, 45, 21, 5, 21, 6, 184, 0, 186] = true := by decide +kernel
theorem dX11_findUnlike_69 : decode cX11_findUnlike 69 = .ok (.iload 6, 2) := dko_21 dwX11_findUnlike_69
theorem dX11_findUnlike_71 : decode cX11_findUnlike 71 = .ok (.invokestatic 186, 3) := dko_184 (dk_t 2 71 [184, 0, 186, 46, 45, 21, 5, 21, 6, 184, 0, 186] dwX11_findUnlike_69 rfl rfl)
theorem dX11_findUnlike_74 : decode cX11_findUnlike 74 = .ok (.iaload, 1) := dko_46 (dk_t 5 74 [46, 45, 21, 5, 21, 6, 184, 0, 186] dwX11_findUnlike_69 rfl rfl)
theorem dX11_findUnlike_75 : decode cX11_findUnlike 75 = .ok (.aload_n 3, 1) := dko_45 (dk_t 6 75 [45, 21, 5, 21, 6, 184, 0, 186] dwX11_findUnlike_69 rfl rfl)
theorem dX11_findUnlike_76 : decode cX11_findUnlike 76 = .ok (.iload 5, 2) := dko_21 (dk_t 7 76 [21, 5, 21, 6, 184, 0, 186] dwX11_findUnlike_69 rfl rfl)
theorem dX11_findUnlike_78 : decode cX11_findUnlike 78 = .ok (.iload 6, 2) := dko_21 (dk_t 9 78 [21, 6, 184, 0, 186] dwX11_findUnlike_69 rfl rfl)
theorem dX11_findUnlike_80 : decode cX11_findUnlike 80 = .ok (.invokestatic 186, 3) := dko_184 (dk_t 11 80 [184, 0, 186] dwX11_findUnlike_69 rfl rfl)
theorem dwX11_findUnlike_83 : dkW cX11_findUnlike 83 [46, 159, 0, 35, 42, 180, 0, 51, 42, 180, 0, 203, 21, 5] = true := by decide +kernel
theorem dX11_findUnlike_83 : decode cX11_findUnlike 83 = .ok (.iaload, 1) := dko_46 dwX11_findUnlike_83
theorem dX11_findUnlike_84 : decode cX11_findUnlike 84 = .ok (.if_icmp .eq 35, 3) := dko_159 (dk_t 1 84 [159, 0, 35, 42, 180, 0, 51, 42, 180, 0, 203, 21, 5] dwX11_findUnlike_83 rfl rfl)
theorem dX11_findUnlike_87 : decode cX11_findUnlike 87 = .ok (.aload_n 0, 1) := dko_42 (dk_t 4 87 [42, 180, 0, 51, 42, 180, 0, 203, 21, 5] dwX11_findUnlike_83 rfl rfl)
theorem dX11_findUnlike_88 : decode cX11_findUnlike 88 = .ok (.getfield 51, 3) := dko_180 (dk_t 5 88 [180, 0, 51, 42, 180, 0, 203, 21, 5] dwX11_findUnlike_83 rfl rfl)
theorem dX11_findUnlike_91 : decode cX11_findUnlike 91 = .ok (.aload_n 0, 1) := dko_42 (dk_t 8 91 [42, 180, 0, 203, 21, 5] dwX11_findUnlike_83 rfl rfl)
theorem dX11_findUnlike_92 : decode cX11_findUnlike 92 = .ok (.getfield 203, 3) := dko_180 (dk_t 9 92 [180, 0, 203, 21, 5] dwX11_findUnlike_83 rfl rfl)
theorem dX11_findUnlike_95 : decode cX11_findUnlike 95 = .ok (.iload 5, 2) := dko_21 (dk_t 12 95 [21, 5] dwX11_findUnlike_83 rfl rfl)
theorem dwX11_findUnlike_97 : dkW cX11_findUnlike 97 [79, 42, 180, 0, 54, 42, 180, 0, 203, 21, 6, 79, 42, 89] = true := by decide +kernel
theorem dX11_findUnlike_97 : decode cX11_findUnlike 97 = .ok (.iastore, 1) := dko_79 dwX11_findUnlike_97
theorem dX11_findUnlike_98 : decode cX11_findUnlike 98 = .ok (.aload_n 0, 1) := dko_42 (dk_t 1 98 [42, 180, 0, 54, 42, 180, 0, 203, 21, 6, 79, 42, 89] dwX11_findUnlike_97 rfl rfl)
theorem dX11_findUnlike_99 : decode cX11_findUnlike 99 = .ok (.getfield 54, 3) := dko_180 (dk_t 2 99 [180, 0, 54, 42, 180, 0, 203, 21, 6, 79, 42, 89] dwX11_findUnlike_97 rfl rfl)
theorem dX11_findUnlike_102 : decode cX11_findUnlike 102 = .ok (.aload_n 0, 1) := dko_42 (dk_t 5 102 [42, 180, 0, 203, 21, 6, 79, 42, 89] dwX11_findUnlike_97 rfl rfl)
theorem dX11_findUnlike_103 : decode cX11_findUnlike 103 = .ok (.getfield 203, 3) := dko_180 (dk_t 6 103 [180, 0, 203, 21, 6, 79, 42, 89] dwX11_findUnlike_97 rfl rfl)
theorem dX11_findUnlike_106 : decode cX11_findUnlike 106 = .ok (.iload 6, 2) := dko_21 (dk_t 9 106 [21, 6, 79, 42, 89] dwX11_findUnlike_97 rfl rfl)
theorem dX11_findUnlike_108 : decode cX11_findUnlike 108 = .ok (.iastore, 1) := dko_79 (dk_t 11 108 [79, 42, 89] dwX11_findUnlike_97 rfl rfl)
theorem dX11_findUnlike_109 : decode cX11_findUnlike 109 = .ok (.aload_n 0, 1) := dko_42 (dk_t 12 109 [42, 89] dwX11_findUnlike_97 rfl rfl)
theorem dX11_findUnlike_110 : decode cX11_findUnlike 110 = .ok (.dup, 1) := dko_89 (dk_t 13 110 [89] dwX11_findUnlike_97 rfl rfl)
theorem dwX11_findUnlike_111 : dkW cX11_findUnlike 111 [180, 0, 203, 4, 96, 181, 0, 203, 132, 6, 1, 167, 255, 172] = true := by decide +kernel
theorem dX11_findUnlike_111 : decode cX11_findUnlike 111 = .ok (.getfield 203, 3) := dko_180 dwX11_findUnlike_111
theorem dX11_findUnlike_114 : decode cX11_findUnlike 114 = .ok (.iconst 1, 1) := dko_4 (dk_t 3 114 [4, 96, 181, 0, 203, 132, 6, 1, 167, 255, 172] dwX11_findUnlike_111 rfl rfl)
theorem dX11_findUnlike_115 : decode cX11_findUnlike 115 = .ok (.iadd, 1) := dko_96 (dk_t 4 115 [96, 181, 0, 203, 132, 6, 1, 167, 255, 172] dwX11_findUnlike_111 rfl rfl)
theorem dX11_findUnlike_116 : decode cX11_findUnlike 116 = .ok (.putfield 203, 3) := dko_181 (dk_t 5 116 [181, 0, 203, 132, 6, 1, 167, 255, 172] dwX11_findUnlike_111 rfl rfl)
theorem dX11_findUnlike_119 : decode cX11_findUnlike 119 = .ok (.iinc 6 1, 3) := dko_132 (dk_t 8 119 [132, 6, 1, 167, 255, 172] dwX11_findUnlike_111 rfl rfl)
theorem dX11_findUnlike_122 : decode cX11_findUnlike 122 = .ok (.goto (-84), 3) := dko_167 (dk_t 11 122 [167, 255, 172] dwX11_findUnlike_111 rfl rfl)
theorem dwX11_findUnlike_125 : dkW cX11_findUnlike 125 [132, 4, 1, 167, 255, 140, 177] = true := by decide +kernel
theorem dX11_findUnlike_125 : decode cX11_findUnlike 125 = .ok (.iinc 4 1, 3) := dko_132 dwX11_findUnlike_125
theorem dX11_findUnlike_128 : decode cX11_findUnlike 128 = .ok (.goto (-116), 3) := dko_167 (dk_t 3 128 [167, 255, 140, 177] dwX11_findUnlike_125 rfl rfl)
theorem dX11_findUnlike_131 : decode cX11_findUnlike 131 = .ok (.return_, 1) := dko_177 (dk_t 6 131 [177] dwX11_findUnlike_125 rfl rfl)
theorem dwX11_findQueue_0 : dkW cX11_findQueue 0 [42, 3, 181, 0, 203, 42, 180, 0, 206, 153, 0, 42, 42, 42] = true := by decide +kernel
theorem dX11_findQueue_0 : decode cX11_findQueue 0 = .ok (.aload_n 0, 1) := dko_42 dwX11_findQueue_0
theorem dX11_findQueue_1 : decode cX11_findQueue 1 = .ok (.iconst 0, 1) := dko_3 (dk_t 1 1 [3, 181, 0, 203, 42, 180, 0, 206, 153, 0, 42, 42, 42] dwX11_findQueue_0 rfl rfl)
theorem dX11_findQueue_2 : decode cX11_findQueue 2 = .ok (.putfield 203, 3) := dko_181 (dk_t 2 2 [181, 0, 203, 42, 180, 0, 206, 153, 0, 42, 42, 42] dwX11_findQueue_0 rfl rfl)
theorem dX11_findQueue_5 : decode cX11_findQueue 5 = .ok (.aload_n 0, 1) := dko_42 (dk_t 5 5 [42, 180, 0, 206, 153, 0, 42, 42, 42] dwX11_findQueue_0 rfl rfl)
theorem dX11_findQueue_6 : decode cX11_findQueue 6 = .ok (.getfield 206, 3) := dko_180 (dk_t 6 6 [180, 0, 206, 153, 0, 42, 42, 42] dwX11_findQueue_0 rfl rfl)
theorem dX11_findQueue_9 : decode cX11_findQueue 9 = .ok (.ifCond .eq 42, 3) := dko_153 (dk_t 9 9 [153, 0, 42, 42, 42] dwX11_findQueue_0 rfl rfl)
theorem dX11_findQueue_12 : decode cX11_findQueue 12 = .ok (.aload_n 0, 1) := dko_42 (dk_t 12 12 [42, 42] dwX11_findQueue_0 rfl rfl)
theorem dX11_findQueue_13 : decode cX11_findQueue 13 = .ok (.aload_n 0, 1) := dko_42 (dk_t 13 13 [42] dwX11_findQueue_0 rfl rfl)
theorem dwX11_findQueue_14 : dkW cX11_findQueue 14 [180, 0, 36, 42, 180, 0, 9, 3, 182, 0, 210, 42, 42] = true := by decide +kernel
theorem dX11_findQueue_14 : decode cX11_findQueue 14 = .ok (.getfield 36, 3) := dko_180 dwX11_findQueue_14
theorem dX11_findQueue_17 : decode cX11_findQueue 17 = .ok (.aload_n 0, 1) := dko_42 (dk_t 3 17 [42, 180, 0, 9, 3, 182, 0, 210, 42, 42] dwX11_findQueue_14 rfl rfl)
theorem dX11_findQueue_18 : decode cX11_findQueue 18 = .ok (.getfield 9, 3) := dko_180 (dk_t 4 18 [180, 0, 9, 3, 182, 0, 210, 42, 42] dwX11_findQueue_14 rfl rfl)
theorem dX11_findQueue_21 : decode cX11_findQueue 21 = .ok (.iconst 0, 1) := dko_3 (dk_t 7 21 [3, 182, 0, 210, 42, 42] dwX11_findQueue_14 rfl rfl)
theorem dX11_findQueue_22 : decode cX11_findQueue 22 = .ok (.invokevirtual 210, 3) := dko_182 (dk_t 8 22 [182, 0, 210, 42, 42] dwX11_findQueue_14 rfl rfl)
theorem dX11_findQueue_25 : decode cX11_findQueue 25 = .ok (.aload_n 0, 1) := dko_42 (dk_t 11 25 [42, 42] dwX11_findQueue_14 rfl rfl)
theorem dX11_findQueue_26 : decode cX11_findQueue 26 = .ok (.aload_n 0, 1) := dko_42 (dk_t 12 26 [42] dwX11_findQueue_14 rfl rfl)
theorem dwX11_findQueue_27 : dkW cX11_findQueue 27 [180, 0, 42, 42, 180, 0, 15, 3, 182, 0, 210, 42, 4, 42] = true := by decide +kernel
theorem dX11_findQueue_27 : decode cX11_findQueue 27 = .ok (.getfield 42, 3) := dko_180 dwX11_findQueue_27
theorem dX11_findQueue_30 : decode cX11_findQueue 30 = .ok (.aload_n 0, 1) := dko_42 (dk_t 3 30 [42, 180, 0, 15, 3, 182, 0, 210, 42, 4, 42] dwX11_findQueue_27 rfl rfl)
theorem dX11_findQueue_31 : decode cX11_findQueue 31 = .ok (.getfield 15, 3) := dko_180 (dk_t 4 31 [180, 0, 15, 3, 182, 0, 210, 42, 4, 42] dwX11_findQueue_27 rfl rfl)
theorem dX11_findQueue_34 : decode cX11_findQueue 34 = .ok (.iconst 0, 1) := dko_3 (dk_t 7 34 [3, 182, 0, 210, 42, 4, 42] dwX11_findQueue_27 rfl rfl)
theorem dX11_findQueue_35 : decode cX11_findQueue 35 = .ok (.invokevirtual 210, 3) := dko_182 (dk_t 8 35 [182, 0, 210, 42, 4, 42] dwX11_findQueue_27 rfl rfl)
theorem dX11_findQueue_38 : decode cX11_findQueue 38 = .ok (.aload_n 0, 1) := dko_42 (dk_t 11 38 [42, 4, 42] dwX11_findQueue_27 rfl rfl)
theorem dX11_findQueue_39 : decode cX11_findQueue 39 = .ok (.iconst 1, 1) := dko_4 (dk_t 12 39 [4, 42] dwX11_findQueue_27 rfl rfl)
theorem dX11_findQueue_40 : decode cX11_findQueue 40 = .ok (.aload_n 0, 1) := dko_42 (dk_t 13 40 [42] dwX11_findQueue_27 rfl rfl)
theorem dwX11_findQueue_41 : dkW cX11_findQueue 41 [180, 0, 36, 42, 180, 0, 42, 182, 0, 214, 177] = true := by decide +kernel
theorem dX11_findQueue_41 : decode cX11_findQueue 41 = .ok (.getfield 36, 3) := dko_180 dwX11_findQueue_41
theorem dX11_findQueue_44 : decode cX11_findQueue 44 = .ok (.aload_n 0, 1) := dko_42 (dk_t 3 44 [42, 180, 0, 42, 182, 0, 214, 177] dwX11_findQueue_41 rfl rfl)
theorem dX11_findQueue_45 : decode cX11_findQueue 45 = .ok (.getfield 42, 3) := dko_180 (dk_t 4 45 [180, 0, 42, 182, 0, 214, 177] dwX11_findQueue_41 rfl rfl)
theorem dX11_findQueue_48 : decode cX11_findQueue 48 = .ok (.invokevirtual 214, 3) := dko_182 (dk_t 7 48 [182, 0, 214, 177] dwX11_findQueue_41 rfl rfl)
theorem dX11_findQueue_51 : decode cX11_findQueue 51 = .ok (.return_, 1) := dko_177 (dk_t 10 51 [177] dwX11_findQueue_41 rfl rfl)
theorem dwX11_queueMany_0 : dkW cX11_queueMany 0 [42, 182, 0, 218, 42, 180, 0, 203, 172] = true := by decide +kernel
theorem dX11_queueMany_0 : decode cX11_queueMany 0 = .ok (.aload_n 0, 1) := dko_42 dwX11_queueMany_0
theorem dX11_queueMany_1 : decode cX11_queueMany 1 = .ok (.invokevirtual 218, 3) := dko_182 (dk_t 1 1 [182, 0, 218, 42, 180, 0, 203, 172] dwX11_queueMany_0 rfl rfl)
theorem dX11_queueMany_4 : decode cX11_queueMany 4 = .ok (.aload_n 0, 1) := dko_42 (dk_t 4 4 [42, 180, 0, 203, 172] dwX11_queueMany_0 rfl rfl)
theorem dX11_queueMany_5 : decode cX11_queueMany 5 = .ok (.getfield 203, 3) := dko_180 (dk_t 5 5 [180, 0, 203, 172] dwX11_queueMany_0 rfl rfl)
theorem dX11_queueMany_8 : decode cX11_queueMany 8 = .ok (.ireturn, 1) := dko_172 (dk_t 8 8 [172] dwX11_queueMany_0 rfl rfl)
theorem dwX11_firstFailing_0 : dkW cX11_firstFailing 0 [3, 60, 27, 42, 180, 0, 203, 162, 0, 35, 42, 42] = true := by decide +kernel
theorem dX11_firstFailing_0 : decode cX11_firstFailing 0 = .ok (.iconst 0, 1) := dko_3 dwX11_firstFailing_0
theorem dX11_firstFailing_1 : decode cX11_firstFailing 1 = .ok (.istore_n 1, 1) := dko_60 (dk_t 1 1 [60, 27, 42, 180, 0, 203, 162, 0, 35, 42, 42] dwX11_firstFailing_0 rfl rfl)
theorem dX11_firstFailing_2 : decode cX11_firstFailing 2 = .ok (.iload_n 1, 1) := dko_27 (dk_t 2 2 [27, 42, 180, 0, 203, 162, 0, 35, 42, 42] dwX11_firstFailing_0 rfl rfl)
theorem dX11_firstFailing_3 : decode cX11_firstFailing 3 = .ok (.aload_n 0, 1) := dko_42 (dk_t 3 3 [42, 180, 0, 203, 162, 0, 35, 42, 42] dwX11_firstFailing_0 rfl rfl)
theorem dX11_firstFailing_4 : decode cX11_firstFailing 4 = .ok (.getfield 203, 3) := dko_180 (dk_t 4 4 [180, 0, 203, 162, 0, 35, 42, 42] dwX11_firstFailing_0 rfl rfl)
theorem dX11_firstFailing_7 : decode cX11_firstFailing 7 = .ok (.if_icmp .ge 35, 3) := dko_162 (dk_t 7 7 [162, 0, 35, 42, 42] dwX11_firstFailing_0 rfl rfl)
theorem dX11_firstFailing_10 : decode cX11_firstFailing 10 = .ok (.aload_n 0, 1) := dko_42 (dk_t 10 10 [42, 42] dwX11_firstFailing_0 rfl rfl)
theorem dX11_firstFailing_11 : decode cX11_firstFailing 11 = .ok (.aload_n 0, 1) := dko_42 (dk_t 11 11 [42] dwX11_firstFailing_0 rfl rfl)
theorem dwX11_firstFailing_12 : dkW cX11_firstFailing 12 [180, 0, 51, 27, 46, 42, 180, 0, 54, 27, 46, 42] = true := by decide +kernel
theorem dX11_firstFailing_12 : decode cX11_firstFailing 12 = .ok (.getfield 51, 3) := dko_180 dwX11_firstFailing_12
theorem dX11_firstFailing_15 : decode cX11_firstFailing 15 = .ok (.iload_n 1, 1) := dko_27 (dk_t 3 15 [27, 46, 42, 180, 0, 54, 27, 46, 42] dwX11_firstFailing_12 rfl rfl)
theorem dX11_firstFailing_16 : decode cX11_firstFailing 16 = .ok (.iaload, 1) := dko_46 (dk_t 4 16 [46, 42, 180, 0, 54, 27, 46, 42] dwX11_firstFailing_12 rfl rfl)
theorem dX11_firstFailing_17 : decode cX11_firstFailing 17 = .ok (.aload_n 0, 1) := dko_42 (dk_t 5 17 [42, 180, 0, 54, 27, 46, 42] dwX11_firstFailing_12 rfl rfl)
theorem dX11_firstFailing_18 : decode cX11_firstFailing 18 = .ok (.getfield 54, 3) := dko_180 (dk_t 6 18 [180, 0, 54, 27, 46, 42] dwX11_firstFailing_12 rfl rfl)
theorem dX11_firstFailing_21 : decode cX11_firstFailing 21 = .ok (.iload_n 1, 1) := dko_27 (dk_t 9 21 [27, 46, 42] dwX11_firstFailing_12 rfl rfl)
theorem dX11_firstFailing_22 : decode cX11_firstFailing 22 = .ok (.iaload, 1) := dko_46 (dk_t 10 22 [46, 42] dwX11_firstFailing_12 rfl rfl)
theorem dX11_firstFailing_23 : decode cX11_firstFailing 23 = .ok (.aload_n 0, 1) := dko_42 (dk_t 11 23 [42] dwX11_firstFailing_12 rfl rfl)
theorem dwX11_firstFailing_24 : dkW cX11_firstFailing 24 [180, 0, 9, 3, 182, 0, 221, 153, 0, 5, 27, 172] = true := by decide +kernel
theorem dX11_firstFailing_24 : decode cX11_firstFailing 24 = .ok (.getfield 9, 3) := dko_180 dwX11_firstFailing_24
theorem dX11_firstFailing_27 : decode cX11_firstFailing 27 = .ok (.iconst 0, 1) := dko_3 (dk_t 3 27 [3, 182, 0, 221, 153, 0, 5, 27, 172] dwX11_firstFailing_24 rfl rfl)
theorem dX11_firstFailing_28 : decode cX11_firstFailing 28 = .ok (.invokevirtual 221, 3) := dko_182 (dk_t 4 28 [182, 0, 221, 153, 0, 5, 27, 172] dwX11_firstFailing_24 rfl rfl)
theorem dX11_firstFailing_31 : decode cX11_firstFailing 31 = .ok (.ifCond .eq 5, 3) := dko_153 (dk_t 7 31 [153, 0, 5, 27, 172] dwX11_firstFailing_24 rfl rfl)
theorem dX11_firstFailing_34 : decode cX11_firstFailing 34 = .ok (.iload_n 1, 1) := dko_27 (dk_t 10 34 [27, 172] dwX11_firstFailing_24 rfl rfl)
theorem dX11_firstFailing_35 : decode cX11_firstFailing 35 = .ok (.ireturn, 1) := dko_172 (dk_t 11 35 [172] dwX11_firstFailing_24 rfl rfl)
theorem dwX11_firstFailing_36 : dkW cX11_firstFailing 36 [132, 1, 1, 167, 255, 219, 2, 172] = true := by decide +kernel
theorem dX11_firstFailing_36 : decode cX11_firstFailing 36 = .ok (.iinc 1 1, 3) := dko_132 dwX11_firstFailing_36
theorem dX11_firstFailing_39 : decode cX11_firstFailing 39 = .ok (.goto (-37), 3) := dko_167 (dk_t 3 39 [167, 255, 219, 2, 172] dwX11_firstFailing_36 rfl rfl)
theorem dX11_firstFailing_42 : decode cX11_firstFailing 42 = .ok (.iconst (-1), 1) := dko_2 (dk_t 6 42 [2, 172] dwX11_firstFailing_36 rfl rfl)
theorem dX11_firstFailing_43 : decode cX11_firstFailing 43 = .ok (.ireturn, 1) := dko_172 (dk_t 7 43 [172] dwX11_firstFailing_36 rfl rfl)
theorem dwX11_nothing_0 : dkW cX11_nothing 0 [42, 18, 57, 181, 0, 58, 42, 18, 57, 181, 0, 62, 42, 3] = true := by decide +kernel
theorem dX11_nothing_0 : decode cX11_nothing 0 = .ok (.aload_n 0, 1) := dko_42 dwX11_nothing_0
theorem dX11_nothing_1 : decode cX11_nothing 1 = .ok (.ldc 57, 2) := dko_18 (dk_t 1 1 [18, 57, 181, 0, 58, 42, 18, 57, 181, 0, 62, 42, 3] dwX11_nothing_0 rfl rfl)
theorem dX11_nothing_3 : decode cX11_nothing 3 = .ok (.putfield 58, 3) := dko_181 (dk_t 3 3 [181, 0, 58, 42, 18, 57, 181, 0, 62, 42, 3] dwX11_nothing_0 rfl rfl)
theorem dX11_nothing_6 : decode cX11_nothing 6 = .ok (.aload_n 0, 1) := dko_42 (dk_t 6 6 [42, 18, 57, 181, 0, 62, 42, 3] dwX11_nothing_0 rfl rfl)
theorem dX11_nothing_7 : decode cX11_nothing 7 = .ok (.ldc 57, 2) := dko_18 (dk_t 7 7 [18, 57, 181, 0, 62, 42, 3] dwX11_nothing_0 rfl rfl)
theorem dX11_nothing_9 : decode cX11_nothing 9 = .ok (.putfield 62, 3) := dko_181 (dk_t 9 9 [181, 0, 62, 42, 3] dwX11_nothing_0 rfl rfl)
theorem dX11_nothing_12 : decode cX11_nothing 12 = .ok (.aload_n 0, 1) := dko_42 (dk_t 12 12 [42, 3] dwX11_nothing_0 rfl rfl)
theorem dX11_nothing_13 : decode cX11_nothing 13 = .ok (.iconst 0, 1) := dko_3 (dk_t 13 13 [3] dwX11_nothing_0 rfl rfl)
theorem dwX11_nothing_14 : dkW cX11_nothing 14 [181, 0, 224, 177] = true := by decide +kernel
theorem dX11_nothing_14 : decode cX11_nothing 14 = .ok (.putfield 224, 3) := dko_181 dwX11_nothing_14
theorem dX11_nothing_17 : decode cX11_nothing 17 = .ok (.return_, 1) := dko_177 (dk_t 3 17 [177] dwX11_nothing_14 rfl rfl)
theorem dwX11_puts_0 : dkW cX11_puts 0 [42, 180, 0, 65, 42, 180, 0, 224, 27, 145, 84, 42, 89] = true := by decide +kernel
theorem dX11_puts_0 : decode cX11_puts 0 = .ok (.aload_n 0, 1) := dko_42 dwX11_puts_0
theorem dX11_puts_1 : decode cX11_puts 1 = .ok (.getfield 65, 3) := dko_180 (dk_t 1 1 [180, 0, 65, 42, 180, 0, 224, 27, 145, 84, 42, 89] dwX11_puts_0 rfl rfl)
theorem dX11_puts_4 : decode cX11_puts 4 = .ok (.aload_n 0, 1) := dko_42 (dk_t 4 4 [42, 180, 0, 224, 27, 145, 84, 42, 89] dwX11_puts_0 rfl rfl)
theorem dX11_puts_5 : decode cX11_puts 5 = .ok (.getfield 224, 3) := dko_180 (dk_t 5 5 [180, 0, 224, 27, 145, 84, 42, 89] dwX11_puts_0 rfl rfl)
theorem dX11_puts_8 : decode cX11_puts 8 = .ok (.iload_n 1, 1) := dko_27 (dk_t 8 8 [27, 145, 84, 42, 89] dwX11_puts_0 rfl rfl)
theorem dX11_puts_9 : decode cX11_puts 9 = .ok (.i2b, 1) := dko_145 (dk_t 9 9 [145, 84, 42, 89] dwX11_puts_0 rfl rfl)
theorem dX11_puts_10 : decode cX11_puts 10 = .ok (.bastore, 1) := dko_84 (dk_t 10 10 [84, 42, 89] dwX11_puts_0 rfl rfl)
theorem dX11_puts_11 : decode cX11_puts 11 = .ok (.aload_n 0, 1) := dko_42 (dk_t 11 11 [42, 89] dwX11_puts_0 rfl rfl)
theorem dX11_puts_12 : decode cX11_puts 12 = .ok (.dup, 1) := dko_89 (dk_t 12 12 [89] dwX11_puts_0 rfl rfl)
theorem dwX11_puts_13 : dkW cX11_puts 13 [180, 0, 224, 4, 96, 181, 0, 224, 177] = true := by decide +kernel
theorem dX11_puts_13 : decode cX11_puts 13 = .ok (.getfield 224, 3) := dko_180 dwX11_puts_13
theorem dX11_puts_16 : decode cX11_puts 16 = .ok (.iconst 1, 1) := dko_4 (dk_t 3 16 [4, 96, 181, 0, 224, 177] dwX11_puts_13 rfl rfl)
theorem dX11_puts_17 : decode cX11_puts 17 = .ok (.iadd, 1) := dko_96 (dk_t 4 17 [96, 181, 0, 224, 177] dwX11_puts_13 rfl rfl)
theorem dX11_puts_18 : decode cX11_puts 18 = .ok (.putfield 224, 3) := dko_181 (dk_t 5 18 [181, 0, 224, 177] dwX11_puts_13 rfl rfl)
theorem dX11_puts_21 : decode cX11_puts 21 = .ok (.return_, 1) := dko_177 (dk_t 8 21 [177] dwX11_puts_13 rfl rfl)
theorem dwX11_putNumber_0 : dkW cX11_putNumber 0 [27, 156, 0, 9, 42, 16, 45, 182, 0, 227, 27, 156, 0, 8] = true := by decide +kernel
theorem dX11_putNumber_0 : decode cX11_putNumber 0 = .ok (.iload_n 1, 1) := dko_27 dwX11_putNumber_0
theorem dX11_putNumber_1 : decode cX11_putNumber 1 = .ok (.ifCond .ge 9, 3) := dko_156 (dk_t 1 1 [156, 0, 9, 42, 16, 45, 182, 0, 227, 27, 156, 0, 8] dwX11_putNumber_0 rfl rfl)
theorem dX11_putNumber_4 : decode cX11_putNumber 4 = .ok (.aload_n 0, 1) := dko_42 (dk_t 4 4 [42, 16, 45, 182, 0, 227, 27, 156, 0, 8] dwX11_putNumber_0 rfl rfl)
theorem dX11_putNumber_5 : decode cX11_putNumber 5 = .ok (.bipush 45, 2) := dko_16 (dk_t 5 5 [16, 45, 182, 0, 227, 27, 156, 0, 8] dwX11_putNumber_0 rfl rfl)
theorem dX11_putNumber_7 : decode cX11_putNumber 7 = .ok (.invokevirtual 227, 3) := dko_182 (dk_t 7 7 [182, 0, 227, 27, 156, 0, 8] dwX11_putNumber_0 rfl rfl)
theorem dX11_putNumber_10 : decode cX11_putNumber 10 = .ok (.iload_n 1, 1) := dko_27 (dk_t 10 10 [27, 156, 0, 8] dwX11_putNumber_0 rfl rfl)
theorem dX11_putNumber_11 : decode cX11_putNumber 11 = .ok (.ifCond .ge 8, 3) := dko_156 (dk_t 11 11 [156, 0, 8] dwX11_putNumber_0 rfl rfl)
theorem dwX11_putNumber_14 : dkW cX11_putNumber 14 [27, 116, 167, 0, 4, 27, 61, 28, 16, 9, 164, 0, 14, 42] = true := by decide +kernel
theorem dX11_putNumber_14 : decode cX11_putNumber 14 = .ok (.iload_n 1, 1) := dko_27 dwX11_putNumber_14
theorem dX11_putNumber_15 : decode cX11_putNumber 15 = .ok (.ineg, 1) := dko_116 (dk_t 1 15 [116, 167, 0, 4, 27, 61, 28, 16, 9, 164, 0, 14, 42] dwX11_putNumber_14 rfl rfl)
theorem dX11_putNumber_16 : decode cX11_putNumber 16 = .ok (.goto 4, 3) := dko_167 (dk_t 2 16 [167, 0, 4, 27, 61, 28, 16, 9, 164, 0, 14, 42] dwX11_putNumber_14 rfl rfl)
theorem dX11_putNumber_19 : decode cX11_putNumber 19 = .ok (.iload_n 1, 1) := dko_27 (dk_t 5 19 [27, 61, 28, 16, 9, 164, 0, 14, 42] dwX11_putNumber_14 rfl rfl)
theorem dX11_putNumber_20 : decode cX11_putNumber 20 = .ok (.istore_n 2, 1) := dko_61 (dk_t 6 20 [61, 28, 16, 9, 164, 0, 14, 42] dwX11_putNumber_14 rfl rfl)
theorem dX11_putNumber_21 : decode cX11_putNumber 21 = .ok (.iload_n 2, 1) := dko_28 (dk_t 7 21 [28, 16, 9, 164, 0, 14, 42] dwX11_putNumber_14 rfl rfl)
theorem dX11_putNumber_22 : decode cX11_putNumber 22 = .ok (.bipush 9, 2) := dko_16 (dk_t 8 22 [16, 9, 164, 0, 14, 42] dwX11_putNumber_14 rfl rfl)
theorem dX11_putNumber_24 : decode cX11_putNumber 24 = .ok (.if_icmp .le 14, 3) := dko_164 (dk_t 10 24 [164, 0, 14, 42] dwX11_putNumber_14 rfl rfl)
theorem dX11_putNumber_27 : decode cX11_putNumber 27 = .ok (.aload_n 0, 1) := dko_42 (dk_t 13 27 [42] dwX11_putNumber_14 rfl rfl)
theorem dwX11_putNumber_28 : dkW cX11_putNumber 28 [16, 48, 28, 16, 10, 108, 96, 182, 0, 227, 42, 16, 48, 28] = true := by decide +kernel
theorem dX11_putNumber_28 : decode cX11_putNumber 28 = .ok (.bipush 48, 2) := dko_16 dwX11_putNumber_28
theorem dX11_putNumber_30 : decode cX11_putNumber 30 = .ok (.iload_n 2, 1) := dko_28 (dk_t 2 30 [28, 16, 10, 108, 96, 182, 0, 227, 42, 16, 48, 28] dwX11_putNumber_28 rfl rfl)
theorem dX11_putNumber_31 : decode cX11_putNumber 31 = .ok (.bipush 10, 2) := dko_16 (dk_t 3 31 [16, 10, 108, 96, 182, 0, 227, 42, 16, 48, 28] dwX11_putNumber_28 rfl rfl)
theorem dX11_putNumber_33 : decode cX11_putNumber 33 = .ok (.idiv, 1) := dko_108 (dk_t 5 33 [108, 96, 182, 0, 227, 42, 16, 48, 28] dwX11_putNumber_28 rfl rfl)
theorem dX11_putNumber_34 : decode cX11_putNumber 34 = .ok (.iadd, 1) := dko_96 (dk_t 6 34 [96, 182, 0, 227, 42, 16, 48, 28] dwX11_putNumber_28 rfl rfl)
theorem dX11_putNumber_35 : decode cX11_putNumber 35 = .ok (.invokevirtual 227, 3) := dko_182 (dk_t 7 35 [182, 0, 227, 42, 16, 48, 28] dwX11_putNumber_28 rfl rfl)
theorem dX11_putNumber_38 : decode cX11_putNumber 38 = .ok (.aload_n 0, 1) := dko_42 (dk_t 10 38 [42, 16, 48, 28] dwX11_putNumber_28 rfl rfl)
theorem dX11_putNumber_39 : decode cX11_putNumber 39 = .ok (.bipush 48, 2) := dko_16 (dk_t 11 39 [16, 48, 28] dwX11_putNumber_28 rfl rfl)
theorem dX11_putNumber_41 : decode cX11_putNumber 41 = .ok (.iload_n 2, 1) := dko_28 (dk_t 13 41 [28] dwX11_putNumber_28 rfl rfl)
theorem dwX11_putNumber_42 : dkW cX11_putNumber 42 [16, 10, 112, 96, 182, 0, 227, 177] = true := by decide +kernel
theorem dX11_putNumber_42 : decode cX11_putNumber 42 = .ok (.bipush 10, 2) := dko_16 dwX11_putNumber_42
theorem dX11_putNumber_44 : decode cX11_putNumber 44 = .ok (.irem, 1) := dko_112 (dk_t 2 44 [112, 96, 182, 0, 227, 177] dwX11_putNumber_42 rfl rfl)
theorem dX11_putNumber_45 : decode cX11_putNumber 45 = .ok (.iadd, 1) := dko_96 (dk_t 3 45 [96, 182, 0, 227, 177] dwX11_putNumber_42 rfl rfl)
theorem dX11_putNumber_46 : decode cX11_putNumber 46 = .ok (.invokevirtual 227, 3) := dko_182 (dk_t 4 46 [182, 0, 227, 177] dwX11_putNumber_42 rfl rfl)
theorem dX11_putNumber_49 : decode cX11_putNumber 49 = .ok (.return_, 1) := dko_177 (dk_t 7 49 [177] dwX11_putNumber_42 rfl rfl)
theorem dwX11_putWord_0 : dkW cX11_putWord 0 [3, 61, 28, 43, 190, 162, 0, 16, 42, 43, 28, 52] = true := by decide +kernel
theorem dX11_putWord_0 : decode cX11_putWord 0 = .ok (.iconst 0, 1) := dko_3 dwX11_putWord_0
theorem dX11_putWord_1 : decode cX11_putWord 1 = .ok (.istore_n 2, 1) := dko_61 (dk_t 1 1 [61, 28, 43, 190, 162, 0, 16, 42, 43, 28, 52] dwX11_putWord_0 rfl rfl)
theorem dX11_putWord_2 : decode cX11_putWord 2 = .ok (.iload_n 2, 1) := dko_28 (dk_t 2 2 [28, 43, 190, 162, 0, 16, 42, 43, 28, 52] dwX11_putWord_0 rfl rfl)
theorem dX11_putWord_3 : decode cX11_putWord 3 = .ok (.aload_n 1, 1) := dko_43 (dk_t 3 3 [43, 190, 162, 0, 16, 42, 43, 28, 52] dwX11_putWord_0 rfl rfl)
theorem dX11_putWord_4 : decode cX11_putWord 4 = .ok (.arraylength, 1) := dko_190 (dk_t 4 4 [190, 162, 0, 16, 42, 43, 28, 52] dwX11_putWord_0 rfl rfl)
theorem dX11_putWord_5 : decode cX11_putWord 5 = .ok (.if_icmp .ge 16, 3) := dko_162 (dk_t 5 5 [162, 0, 16, 42, 43, 28, 52] dwX11_putWord_0 rfl rfl)
theorem dX11_putWord_8 : decode cX11_putWord 8 = .ok (.aload_n 0, 1) := dko_42 (dk_t 8 8 [42, 43, 28, 52] dwX11_putWord_0 rfl rfl)
theorem dX11_putWord_9 : decode cX11_putWord 9 = .ok (.aload_n 1, 1) := dko_43 (dk_t 9 9 [43, 28, 52] dwX11_putWord_0 rfl rfl)
theorem dX11_putWord_10 : decode cX11_putWord 10 = .ok (.iload_n 2, 1) := dko_28 (dk_t 10 10 [28, 52] dwX11_putWord_0 rfl rfl)
theorem dX11_putWord_11 : decode cX11_putWord 11 = .ok (.caload, 1) := dko_52 (dk_t 11 11 [52] dwX11_putWord_0 rfl rfl)
theorem dwX11_putWord_12 : dkW cX11_putWord 12 [182, 0, 227, 132, 2, 1, 167, 255, 240, 177] = true := by decide +kernel
theorem dX11_putWord_12 : decode cX11_putWord 12 = .ok (.invokevirtual 227, 3) := dko_182 dwX11_putWord_12
theorem dX11_putWord_15 : decode cX11_putWord 15 = .ok (.iinc 2 1, 3) := dko_132 (dk_t 3 15 [132, 2, 1, 167, 255, 240, 177] dwX11_putWord_12 rfl rfl)
theorem dX11_putWord_18 : decode cX11_putWord 18 = .ok (.goto (-16), 3) := dko_167 (dk_t 6 18 [167, 255, 240, 177] dwX11_putWord_12 rfl rfl)
theorem dX11_putWord_21 : decode cX11_putWord 21 = .ok (.return_, 1) := dko_177 (dk_t 9 21 [177] dwX11_putWord_12 rfl rfl)
theorem dwX11_failed_0 : dkW cX11_failed 0 [42, 182, 0, 231, 42, 27, 181, 0, 58, 42, 28, 181, 0, 62] = true := by decide +kernel
theorem dX11_failed_0 : decode cX11_failed 0 = .ok (.aload_n 0, 1) := dko_42 dwX11_failed_0
theorem dX11_failed_1 : decode cX11_failed 1 = .ok (.invokevirtual 231, 3) := dko_182 (dk_t 1 1 [182, 0, 231, 42, 27, 181, 0, 58, 42, 28, 181, 0, 62] dwX11_failed_0 rfl rfl)
theorem dX11_failed_4 : decode cX11_failed 4 = .ok (.aload_n 0, 1) := dko_42 (dk_t 4 4 [42, 27, 181, 0, 58, 42, 28, 181, 0, 62] dwX11_failed_0 rfl rfl)
theorem dX11_failed_5 : decode cX11_failed 5 = .ok (.iload_n 1, 1) := dko_27 (dk_t 5 5 [27, 181, 0, 58, 42, 28, 181, 0, 62] dwX11_failed_0 rfl rfl)
theorem dX11_failed_6 : decode cX11_failed 6 = .ok (.putfield 58, 3) := dko_181 (dk_t 6 6 [181, 0, 58, 42, 28, 181, 0, 62] dwX11_failed_0 rfl rfl)
theorem dX11_failed_9 : decode cX11_failed 9 = .ok (.aload_n 0, 1) := dko_42 (dk_t 9 9 [42, 28, 181, 0, 62] dwX11_failed_0 rfl rfl)
theorem dX11_failed_10 : decode cX11_failed 10 = .ok (.iload_n 2, 1) := dko_28 (dk_t 10 10 [28, 181, 0, 62] dwX11_failed_0 rfl rfl)
theorem dX11_failed_11 : decode cX11_failed 11 = .ok (.putfield 62, 3) := dko_181 (dk_t 11 11 [181, 0, 62] dwX11_failed_0 rfl rfl)
theorem dwX11_failed_14 : dkW cX11_failed 14 [42, 42, 180, 0, 69, 182, 0, 234, 42, 16, 32, 182, 0, 227] = true := by decide +kernel
theorem dX11_failed_14 : decode cX11_failed 14 = .ok (.aload_n 0, 1) := dko_42 dwX11_failed_14
theorem dX11_failed_15 : decode cX11_failed 15 = .ok (.aload_n 0, 1) := dko_42 (dk_t 1 15 [42, 180, 0, 69, 182, 0, 234, 42, 16, 32, 182, 0, 227] dwX11_failed_14 rfl rfl)
theorem dX11_failed_16 : decode cX11_failed 16 = .ok (.getfield 69, 3) := dko_180 (dk_t 2 16 [180, 0, 69, 182, 0, 234, 42, 16, 32, 182, 0, 227] dwX11_failed_14 rfl rfl)
theorem dX11_failed_19 : decode cX11_failed 19 = .ok (.invokevirtual 234, 3) := dko_182 (dk_t 5 19 [182, 0, 234, 42, 16, 32, 182, 0, 227] dwX11_failed_14 rfl rfl)
theorem dX11_failed_22 : decode cX11_failed 22 = .ok (.aload_n 0, 1) := dko_42 (dk_t 8 22 [42, 16, 32, 182, 0, 227] dwX11_failed_14 rfl rfl)
theorem dX11_failed_23 : decode cX11_failed 23 = .ok (.bipush 32, 2) := dko_16 (dk_t 9 23 [16, 32, 182, 0, 227] dwX11_failed_14 rfl rfl)
theorem dX11_failed_25 : decode cX11_failed 25 = .ok (.invokevirtual 227, 3) := dko_182 (dk_t 11 25 [182, 0, 227] dwX11_failed_14 rfl rfl)
theorem dwX11_failed_28 : dkW cX11_failed 28 [42, 27, 182, 0, 238, 42, 16, 32, 182, 0, 227, 42, 42, 42] = true := by decide +kernel
theorem dX11_failed_28 : decode cX11_failed 28 = .ok (.aload_n 0, 1) := dko_42 dwX11_failed_28
theorem dX11_failed_29 : decode cX11_failed 29 = .ok (.iload_n 1, 1) := dko_27 (dk_t 1 29 [27, 182, 0, 238, 42, 16, 32, 182, 0, 227, 42, 42, 42] dwX11_failed_28 rfl rfl)
theorem dX11_failed_30 : decode cX11_failed 30 = .ok (.invokevirtual 238, 3) := dko_182 (dk_t 2 30 [182, 0, 238, 42, 16, 32, 182, 0, 227, 42, 42, 42] dwX11_failed_28 rfl rfl)
theorem dX11_failed_33 : decode cX11_failed 33 = .ok (.aload_n 0, 1) := dko_42 (dk_t 5 33 [42, 16, 32, 182, 0, 227, 42, 42, 42] dwX11_failed_28 rfl rfl)
theorem dX11_failed_34 : decode cX11_failed 34 = .ok (.bipush 32, 2) := dko_16 (dk_t 6 34 [16, 32, 182, 0, 227, 42, 42, 42] dwX11_failed_28 rfl rfl)
theorem dX11_failed_36 : decode cX11_failed 36 = .ok (.invokevirtual 227, 3) := dko_182 (dk_t 8 36 [182, 0, 227, 42, 42, 42] dwX11_failed_28 rfl rfl)
theorem dX11_failed_39 : decode cX11_failed 39 = .ok (.aload_n 0, 1) := dko_42 (dk_t 11 39 [42, 42, 42] dwX11_failed_28 rfl rfl)
theorem dX11_failed_40 : decode cX11_failed 40 = .ok (.aload_n 0, 1) := dko_42 (dk_t 12 40 [42, 42] dwX11_failed_28 rfl rfl)
theorem dX11_failed_41 : decode cX11_failed 41 = .ok (.aload_n 0, 1) := dko_42 (dk_t 13 41 [42] dwX11_failed_28 rfl rfl)
theorem dwX11_failed_42 : dkW cX11_failed 42 [27, 3, 182, 0, 165, 182, 0, 241, 182, 0, 234, 42, 16, 32] = true := by decide +kernel
theorem dX11_failed_42 : decode cX11_failed 42 = .ok (.iload_n 1, 1) := dko_27 dwX11_failed_42
theorem dX11_failed_43 : decode cX11_failed 43 = .ok (.iconst 0, 1) := dko_3 (dk_t 1 43 [3, 182, 0, 165, 182, 0, 241, 182, 0, 234, 42, 16, 32] dwX11_failed_42 rfl rfl)
theorem dX11_failed_44 : decode cX11_failed 44 = .ok (.invokevirtual 165, 3) := dko_182 (dk_t 2 44 [182, 0, 165, 182, 0, 241, 182, 0, 234, 42, 16, 32] dwX11_failed_42 rfl rfl)
theorem dX11_failed_47 : decode cX11_failed 47 = .ok (.invokevirtual 241, 3) := dko_182 (dk_t 5 47 [182, 0, 241, 182, 0, 234, 42, 16, 32] dwX11_failed_42 rfl rfl)
theorem dX11_failed_50 : decode cX11_failed 50 = .ok (.invokevirtual 234, 3) := dko_182 (dk_t 8 50 [182, 0, 234, 42, 16, 32] dwX11_failed_42 rfl rfl)
theorem dX11_failed_53 : decode cX11_failed 53 = .ok (.aload_n 0, 1) := dko_42 (dk_t 11 53 [42, 16, 32] dwX11_failed_42 rfl rfl)
theorem dX11_failed_54 : decode cX11_failed 54 = .ok (.bipush 32, 2) := dko_16 (dk_t 12 54 [16, 32] dwX11_failed_42 rfl rfl)
theorem dwX11_failed_56 : dkW cX11_failed 56 [182, 0, 227, 42, 28, 182, 0, 238, 177] = true := by decide +kernel
theorem dX11_failed_56 : decode cX11_failed 56 = .ok (.invokevirtual 227, 3) := dko_182 dwX11_failed_56
theorem dX11_failed_59 : decode cX11_failed 59 = .ok (.aload_n 0, 1) := dko_42 (dk_t 3 59 [42, 28, 182, 0, 238, 177] dwX11_failed_56 rfl rfl)
theorem dX11_failed_60 : decode cX11_failed 60 = .ok (.iload_n 2, 1) := dko_28 (dk_t 4 60 [28, 182, 0, 238, 177] dwX11_failed_56 rfl rfl)
theorem dX11_failed_61 : decode cX11_failed 61 = .ok (.invokevirtual 238, 3) := dko_182 (dk_t 5 61 [182, 0, 238, 177] dwX11_failed_56 rfl rfl)
theorem dX11_failed_64 : decode cX11_failed 64 = .ok (.return_, 1) := dko_177 (dk_t 8 64 [177] dwX11_failed_56 rfl rfl)
theorem dwX11_wordOf_0 : dkW cX11_wordOf 0 [27] = true := by decide +kernel
theorem dX11_wordOf_0 : decode cX11_wordOf 0 = .ok (.iload_n 1, 1) := dko_27 dwX11_wordOf_0
theorem dX11_wordOf_1 : decode cX11_wordOf 1 = .ok (.tableswitch 60 0 4 #[35, 40, 45, 50, 55], 35) := by decide +kernel
theorem dwX11_wordOf_36 : dkW cX11_wordOf 36 [42, 180, 0, 73, 176, 42, 180, 0, 76, 176, 42, 180, 0, 79] = true := by decide +kernel
theorem dX11_wordOf_36 : decode cX11_wordOf 36 = .ok (.aload_n 0, 1) := dko_42 dwX11_wordOf_36
theorem dX11_wordOf_37 : decode cX11_wordOf 37 = .ok (.getfield 73, 3) := dko_180 (dk_t 1 37 [180, 0, 73, 176, 42, 180, 0, 76, 176, 42, 180, 0, 79] dwX11_wordOf_36 rfl rfl)
theorem dX11_wordOf_40 : decode cX11_wordOf 40 = .ok (.areturn, 1) := dko_176 (dk_t 4 40 [176, 42, 180, 0, 76, 176, 42, 180, 0, 79] dwX11_wordOf_36 rfl rfl)
theorem dX11_wordOf_41 : decode cX11_wordOf 41 = .ok (.aload_n 0, 1) := dko_42 (dk_t 5 41 [42, 180, 0, 76, 176, 42, 180, 0, 79] dwX11_wordOf_36 rfl rfl)
theorem dX11_wordOf_42 : decode cX11_wordOf 42 = .ok (.getfield 76, 3) := dko_180 (dk_t 6 42 [180, 0, 76, 176, 42, 180, 0, 79] dwX11_wordOf_36 rfl rfl)
theorem dX11_wordOf_45 : decode cX11_wordOf 45 = .ok (.areturn, 1) := dko_176 (dk_t 9 45 [176, 42, 180, 0, 79] dwX11_wordOf_36 rfl rfl)
theorem dX11_wordOf_46 : decode cX11_wordOf 46 = .ok (.aload_n 0, 1) := dko_42 (dk_t 10 46 [42, 180, 0, 79] dwX11_wordOf_36 rfl rfl)
theorem dX11_wordOf_47 : decode cX11_wordOf 47 = .ok (.getfield 79, 3) := dko_180 (dk_t 11 47 [180, 0, 79] dwX11_wordOf_36 rfl rfl)
theorem dwX11_wordOf_50 : dkW cX11_wordOf 50 [176, 42, 180, 0, 82, 176, 42, 180, 0, 85, 176, 42] = true := by decide +kernel
theorem dX11_wordOf_50 : decode cX11_wordOf 50 = .ok (.areturn, 1) := dko_176 dwX11_wordOf_50
theorem dX11_wordOf_51 : decode cX11_wordOf 51 = .ok (.aload_n 0, 1) := dko_42 (dk_t 1 51 [42, 180, 0, 82, 176, 42, 180, 0, 85, 176, 42] dwX11_wordOf_50 rfl rfl)
theorem dX11_wordOf_52 : decode cX11_wordOf 52 = .ok (.getfield 82, 3) := dko_180 (dk_t 2 52 [180, 0, 82, 176, 42, 180, 0, 85, 176, 42] dwX11_wordOf_50 rfl rfl)
theorem dX11_wordOf_55 : decode cX11_wordOf 55 = .ok (.areturn, 1) := dko_176 (dk_t 5 55 [176, 42, 180, 0, 85, 176, 42] dwX11_wordOf_50 rfl rfl)
theorem dX11_wordOf_56 : decode cX11_wordOf 56 = .ok (.aload_n 0, 1) := dko_42 (dk_t 6 56 [42, 180, 0, 85, 176, 42] dwX11_wordOf_50 rfl rfl)
theorem dX11_wordOf_57 : decode cX11_wordOf 57 = .ok (.getfield 85, 3) := dko_180 (dk_t 7 57 [180, 0, 85, 176, 42] dwX11_wordOf_50 rfl rfl)
theorem dX11_wordOf_60 : decode cX11_wordOf 60 = .ok (.areturn, 1) := dko_176 (dk_t 10 60 [176, 42] dwX11_wordOf_50 rfl rfl)
theorem dX11_wordOf_61 : decode cX11_wordOf 61 = .ok (.aload_n 0, 1) := dko_42 (dk_t 11 61 [42] dwX11_wordOf_50 rfl rfl)
theorem dwX11_wordOf_62 : dkW cX11_wordOf 62 [180, 0, 88, 176] = true := by decide +kernel
theorem dX11_wordOf_62 : decode cX11_wordOf 62 = .ok (.getfield 88, 3) := dko_180 dwX11_wordOf_62
theorem dX11_wordOf_65 : decode cX11_wordOf 65 = .ok (.areturn, 1) := dko_176 (dk_t 3 65 [176] dwX11_wordOf_62 rfl rfl)
theorem dwX11_verdict_0 : dkW cX11_verdict 0 [42, 3, 181, 0, 134, 27, 154, 0, 10, 42, 180, 0, 58] = true := by decide +kernel
theorem dX11_verdict_0 : decode cX11_verdict 0 = .ok (.aload_n 0, 1) := dko_42 dwX11_verdict_0
theorem dX11_verdict_1 : decode cX11_verdict 1 = .ok (.iconst 0, 1) := dko_3 (dk_t 1 1 [3, 181, 0, 134, 27, 154, 0, 10, 42, 180, 0, 58] dwX11_verdict_0 rfl rfl)
theorem dX11_verdict_2 : decode cX11_verdict 2 = .ok (.putfield 134, 3) := dko_181 (dk_t 2 2 [181, 0, 134, 27, 154, 0, 10, 42, 180, 0, 58] dwX11_verdict_0 rfl rfl)
theorem dX11_verdict_5 : decode cX11_verdict 5 = .ok (.iload_n 1, 1) := dko_27 (dk_t 5 5 [27, 154, 0, 10, 42, 180, 0, 58] dwX11_verdict_0 rfl rfl)
theorem dX11_verdict_6 : decode cX11_verdict 6 = .ok (.ifCond .ne 10, 3) := dko_154 (dk_t 6 6 [154, 0, 10, 42, 180, 0, 58] dwX11_verdict_0 rfl rfl)
theorem dX11_verdict_9 : decode cX11_verdict 9 = .ok (.aload_n 0, 1) := dko_42 (dk_t 9 9 [42, 180, 0, 58] dwX11_verdict_0 rfl rfl)
theorem dX11_verdict_10 : decode cX11_verdict 10 = .ok (.getfield 58, 3) := dko_180 (dk_t 10 10 [180, 0, 58] dwX11_verdict_0 rfl rfl)
theorem dwX11_verdict_13 : dkW cX11_verdict 13 [167, 0, 29, 27, 4, 160, 0, 10, 42, 180, 0, 62] = true := by decide +kernel
theorem dX11_verdict_13 : decode cX11_verdict 13 = .ok (.goto 29, 3) := dko_167 dwX11_verdict_13
theorem dX11_verdict_16 : decode cX11_verdict 16 = .ok (.iload_n 1, 1) := dko_27 (dk_t 3 16 [27, 4, 160, 0, 10, 42, 180, 0, 62] dwX11_verdict_13 rfl rfl)
theorem dX11_verdict_17 : decode cX11_verdict 17 = .ok (.iconst 1, 1) := dko_4 (dk_t 4 17 [4, 160, 0, 10, 42, 180, 0, 62] dwX11_verdict_13 rfl rfl)
theorem dX11_verdict_18 : decode cX11_verdict 18 = .ok (.if_icmp .ne 10, 3) := dko_160 (dk_t 5 18 [160, 0, 10, 42, 180, 0, 62] dwX11_verdict_13 rfl rfl)
theorem dX11_verdict_21 : decode cX11_verdict 21 = .ok (.aload_n 0, 1) := dko_42 (dk_t 8 21 [42, 180, 0, 62] dwX11_verdict_13 rfl rfl)
theorem dX11_verdict_22 : decode cX11_verdict 22 = .ok (.getfield 62, 3) := dko_180 (dk_t 9 22 [180, 0, 62] dwX11_verdict_13 rfl rfl)
theorem dwX11_verdict_25 : dkW cX11_verdict 25 [167, 0, 17, 27, 5, 160, 0, 10, 42, 180, 0, 224] = true := by decide +kernel
theorem dX11_verdict_25 : decode cX11_verdict 25 = .ok (.goto 17, 3) := dko_167 dwX11_verdict_25
theorem dX11_verdict_28 : decode cX11_verdict 28 = .ok (.iload_n 1, 1) := dko_27 (dk_t 3 28 [27, 5, 160, 0, 10, 42, 180, 0, 224] dwX11_verdict_25 rfl rfl)
theorem dX11_verdict_29 : decode cX11_verdict 29 = .ok (.iconst 2, 1) := dko_5 (dk_t 4 29 [5, 160, 0, 10, 42, 180, 0, 224] dwX11_verdict_25 rfl rfl)
theorem dX11_verdict_30 : decode cX11_verdict 30 = .ok (.if_icmp .ne 10, 3) := dko_160 (dk_t 5 30 [160, 0, 10, 42, 180, 0, 224] dwX11_verdict_25 rfl rfl)
theorem dX11_verdict_33 : decode cX11_verdict 33 = .ok (.aload_n 0, 1) := dko_42 (dk_t 8 33 [42, 180, 0, 224] dwX11_verdict_25 rfl rfl)
theorem dX11_verdict_34 : decode cX11_verdict 34 = .ok (.getfield 224, 3) := dko_180 (dk_t 9 34 [180, 0, 224] dwX11_verdict_25 rfl rfl)
theorem dwX11_verdict_37 : dkW cX11_verdict 37 [167, 0, 5, 18, 57, 172] = true := by decide +kernel
theorem dX11_verdict_37 : decode cX11_verdict 37 = .ok (.goto 5, 3) := dko_167 dwX11_verdict_37
theorem dX11_verdict_40 : decode cX11_verdict 40 = .ok (.ldc 57, 2) := dko_18 (dk_t 3 40 [18, 57, 172] dwX11_verdict_37 rfl rfl)
theorem dX11_verdict_42 : decode cX11_verdict 42 = .ok (.ireturn, 1) := dko_172 (dk_t 5 42 [172] dwX11_verdict_37 rfl rfl)
theorem dwX11_letter_0 : dkW cX11_letter 0 [42, 3, 181, 0, 134, 27, 133, 9, 42, 180, 0, 224, 133, 10] = true := by decide +kernel
theorem dX11_letter_0 : decode cX11_letter 0 = .ok (.aload_n 0, 1) := dko_42 dwX11_letter_0
theorem dX11_letter_1 : decode cX11_letter 1 = .ok (.iconst 0, 1) := dko_3 (dk_t 1 1 [3, 181, 0, 134, 27, 133, 9, 42, 180, 0, 224, 133, 10] dwX11_letter_0 rfl rfl)
theorem dX11_letter_2 : decode cX11_letter 2 = .ok (.putfield 134, 3) := dko_181 (dk_t 2 2 [181, 0, 134, 27, 133, 9, 42, 180, 0, 224, 133, 10] dwX11_letter_0 rfl rfl)
theorem dX11_letter_5 : decode cX11_letter 5 = .ok (.iload_n 1, 1) := dko_27 (dk_t 5 5 [27, 133, 9, 42, 180, 0, 224, 133, 10] dwX11_letter_0 rfl rfl)
theorem dX11_letter_6 : decode cX11_letter 6 = .ok (.i2l, 1) := dko_133 (dk_t 6 6 [133, 9, 42, 180, 0, 224, 133, 10] dwX11_letter_0 rfl rfl)
theorem dX11_letter_7 : decode cX11_letter 7 = .ok (.lconst 0, 1) := dko_9 (dk_t 7 7 [9, 42, 180, 0, 224, 133, 10] dwX11_letter_0 rfl rfl)
theorem dX11_letter_8 : decode cX11_letter 8 = .ok (.aload_n 0, 1) := dko_42 (dk_t 8 8 [42, 180, 0, 224, 133, 10] dwX11_letter_0 rfl rfl)
theorem dX11_letter_9 : decode cX11_letter 9 = .ok (.getfield 224, 3) := dko_180 (dk_t 9 9 [180, 0, 224, 133, 10] dwX11_letter_0 rfl rfl)
theorem dX11_letter_12 : decode cX11_letter 12 = .ok (.i2l, 1) := dko_133 (dk_t 12 12 [133, 10] dwX11_letter_0 rfl rfl)
theorem dX11_letter_13 : decode cX11_letter 13 = .ok (.lconst 1, 1) := dko_10 (dk_t 13 13 [10] dwX11_letter_0 rfl rfl)
theorem dwX11_letter_14 : dkW cX11_letter 14 [101, 184, 0, 139, 153, 0, 12, 42, 180, 0, 65, 27, 51] = true := by decide +kernel
theorem dX11_letter_14 : decode cX11_letter 14 = .ok (.lsub, 1) := dko_101 dwX11_letter_14
theorem dX11_letter_15 : decode cX11_letter 15 = .ok (.invokestatic 139, 3) := dko_184 (dk_t 1 15 [184, 0, 139, 153, 0, 12, 42, 180, 0, 65, 27, 51] dwX11_letter_14 rfl rfl)
theorem dX11_letter_18 : decode cX11_letter 18 = .ok (.ifCond .eq 12, 3) := dko_153 (dk_t 4 18 [153, 0, 12, 42, 180, 0, 65, 27, 51] dwX11_letter_14 rfl rfl)
theorem dX11_letter_21 : decode cX11_letter 21 = .ok (.aload_n 0, 1) := dko_42 (dk_t 7 21 [42, 180, 0, 65, 27, 51] dwX11_letter_14 rfl rfl)
theorem dX11_letter_22 : decode cX11_letter 22 = .ok (.getfield 65, 3) := dko_180 (dk_t 8 22 [180, 0, 65, 27, 51] dwX11_letter_14 rfl rfl)
theorem dX11_letter_25 : decode cX11_letter 25 = .ok (.iload_n 1, 1) := dko_27 (dk_t 11 25 [27, 51] dwX11_letter_14 rfl rfl)
theorem dX11_letter_26 : decode cX11_letter 26 = .ok (.baload, 1) := dko_51 (dk_t 12 26 [51] dwX11_letter_14 rfl rfl)
theorem dwX11_letter_27 : dkW cX11_letter 27 [167, 0, 4, 2, 172] = true := by decide +kernel
theorem dX11_letter_27 : decode cX11_letter 27 = .ok (.goto 4, 3) := dko_167 dwX11_letter_27
theorem dX11_letter_30 : decode cX11_letter 30 = .ok (.iconst (-1), 1) := dko_2 (dk_t 3 30 [2, 172] dwX11_letter_27 rfl rfl)
theorem dX11_letter_31 : decode cX11_letter 31 = .ok (.ireturn, 1) := dko_172 (dk_t 4 31 [172] dwX11_letter_27 rfl rfl)
theorem dwX11_sign_0 : dkW cX11_sign 0 [42, 3, 181, 0, 134, 42, 180, 0, 245, 7, 96, 16, 80] = true := by decide +kernel
theorem dX11_sign_0 : decode cX11_sign 0 = .ok (.aload_n 0, 1) := dko_42 dwX11_sign_0
theorem dX11_sign_1 : decode cX11_sign 1 = .ok (.iconst 0, 1) := dko_3 (dk_t 1 1 [3, 181, 0, 134, 42, 180, 0, 245, 7, 96, 16, 80] dwX11_sign_0 rfl rfl)
theorem dX11_sign_2 : decode cX11_sign 2 = .ok (.putfield 134, 3) := dko_181 (dk_t 2 2 [181, 0, 134, 42, 180, 0, 245, 7, 96, 16, 80] dwX11_sign_0 rfl rfl)
theorem dX11_sign_5 : decode cX11_sign 5 = .ok (.aload_n 0, 1) := dko_42 (dk_t 5 5 [42, 180, 0, 245, 7, 96, 16, 80] dwX11_sign_0 rfl rfl)
theorem dX11_sign_6 : decode cX11_sign 6 = .ok (.getfield 245, 3) := dko_180 (dk_t 6 6 [180, 0, 245, 7, 96, 16, 80] dwX11_sign_0 rfl rfl)
theorem dX11_sign_9 : decode cX11_sign 9 = .ok (.iconst 4, 1) := dko_7 (dk_t 9 9 [7, 96, 16, 80] dwX11_sign_0 rfl rfl)
theorem dX11_sign_10 : decode cX11_sign 10 = .ok (.iadd, 1) := dko_96 (dk_t 10 10 [96, 16, 80] dwX11_sign_0 rfl rfl)
theorem dX11_sign_11 : decode cX11_sign 11 = .ok (.bipush 80, 2) := dko_16 (dk_t 11 11 [16, 80] dwX11_sign_0 rfl rfl)
theorem dwX11_sign_13 : dkW cX11_sign 13 [164, 0, 5, 2, 172, 16, 24, 61, 28, 155, 0, 32, 42] = true := by decide +kernel
theorem dX11_sign_13 : decode cX11_sign 13 = .ok (.if_icmp .le 5, 3) := dko_164 dwX11_sign_13
theorem dX11_sign_16 : decode cX11_sign 16 = .ok (.iconst (-1), 1) := dko_2 (dk_t 3 16 [2, 172, 16, 24, 61, 28, 155, 0, 32, 42] dwX11_sign_13 rfl rfl)
theorem dX11_sign_17 : decode cX11_sign 17 = .ok (.ireturn, 1) := dko_172 (dk_t 4 17 [172, 16, 24, 61, 28, 155, 0, 32, 42] dwX11_sign_13 rfl rfl)
theorem dX11_sign_18 : decode cX11_sign 18 = .ok (.bipush 24, 2) := dko_16 (dk_t 5 18 [16, 24, 61, 28, 155, 0, 32, 42] dwX11_sign_13 rfl rfl)
theorem dX11_sign_20 : decode cX11_sign 20 = .ok (.istore_n 2, 1) := dko_61 (dk_t 7 20 [61, 28, 155, 0, 32, 42] dwX11_sign_13 rfl rfl)
theorem dX11_sign_21 : decode cX11_sign 21 = .ok (.iload_n 2, 1) := dko_28 (dk_t 8 21 [28, 155, 0, 32, 42] dwX11_sign_13 rfl rfl)
theorem dX11_sign_22 : decode cX11_sign 22 = .ok (.ifCond .lt 32, 3) := dko_155 (dk_t 9 22 [155, 0, 32, 42] dwX11_sign_13 rfl rfl)
theorem dX11_sign_25 : decode cX11_sign 25 = .ok (.aload_n 0, 1) := dko_42 (dk_t 12 25 [42] dwX11_sign_13 rfl rfl)
theorem dwX11_sign_26 : dkW cX11_sign 26 [180, 0, 103, 42, 180, 0, 245, 27, 28, 124, 145, 84, 42, 89] = true := by decide +kernel
theorem dX11_sign_26 : decode cX11_sign 26 = .ok (.getfield 103, 3) := dko_180 dwX11_sign_26
theorem dX11_sign_29 : decode cX11_sign 29 = .ok (.aload_n 0, 1) := dko_42 (dk_t 3 29 [42, 180, 0, 245, 27, 28, 124, 145, 84, 42, 89] dwX11_sign_26 rfl rfl)
theorem dX11_sign_30 : decode cX11_sign 30 = .ok (.getfield 245, 3) := dko_180 (dk_t 4 30 [180, 0, 245, 27, 28, 124, 145, 84, 42, 89] dwX11_sign_26 rfl rfl)
theorem dX11_sign_33 : decode cX11_sign 33 = .ok (.iload_n 1, 1) := dko_27 (dk_t 7 33 [27, 28, 124, 145, 84, 42, 89] dwX11_sign_26 rfl rfl)
theorem dX11_sign_34 : decode cX11_sign 34 = .ok (.iload_n 2, 1) := dko_28 (dk_t 8 34 [28, 124, 145, 84, 42, 89] dwX11_sign_26 rfl rfl)
theorem dX11_sign_35 : decode cX11_sign 35 = .ok (.iushr, 1) := dko_124 (dk_t 9 35 [124, 145, 84, 42, 89] dwX11_sign_26 rfl rfl)
theorem dX11_sign_36 : decode cX11_sign 36 = .ok (.i2b, 1) := dko_145 (dk_t 10 36 [145, 84, 42, 89] dwX11_sign_26 rfl rfl)
theorem dX11_sign_37 : decode cX11_sign 37 = .ok (.bastore, 1) := dko_84 (dk_t 11 37 [84, 42, 89] dwX11_sign_26 rfl rfl)
theorem dX11_sign_38 : decode cX11_sign 38 = .ok (.aload_n 0, 1) := dko_42 (dk_t 12 38 [42, 89] dwX11_sign_26 rfl rfl)
theorem dX11_sign_39 : decode cX11_sign 39 = .ok (.dup, 1) := dko_89 (dk_t 13 39 [89] dwX11_sign_26 rfl rfl)
theorem dwX11_sign_40 : dkW cX11_sign 40 [180, 0, 245, 4, 96, 181, 0, 245, 132, 2, 248, 167, 255, 226] = true := by decide +kernel
theorem dX11_sign_40 : decode cX11_sign 40 = .ok (.getfield 245, 3) := dko_180 dwX11_sign_40
theorem dX11_sign_43 : decode cX11_sign 43 = .ok (.iconst 1, 1) := dko_4 (dk_t 3 43 [4, 96, 181, 0, 245, 132, 2, 248, 167, 255, 226] dwX11_sign_40 rfl rfl)
theorem dX11_sign_44 : decode cX11_sign 44 = .ok (.iadd, 1) := dko_96 (dk_t 4 44 [96, 181, 0, 245, 132, 2, 248, 167, 255, 226] dwX11_sign_40 rfl rfl)
theorem dX11_sign_45 : decode cX11_sign 45 = .ok (.putfield 245, 3) := dko_181 (dk_t 5 45 [181, 0, 245, 132, 2, 248, 167, 255, 226] dwX11_sign_40 rfl rfl)
theorem dX11_sign_48 : decode cX11_sign 48 = .ok (.iinc 2 (-8), 3) := dko_132 (dk_t 8 48 [132, 2, 248, 167, 255, 226] dwX11_sign_40 rfl rfl)
theorem dX11_sign_51 : decode cX11_sign 51 = .ok (.goto (-30), 3) := dko_167 (dk_t 11 51 [167, 255, 226] dwX11_sign_40 rfl rfl)
theorem dwX11_sign_54 : dkW cX11_sign 54 [42, 180, 0, 245, 172] = true := by decide +kernel
theorem dX11_sign_54 : decode cX11_sign 54 = .ok (.aload_n 0, 1) := dko_42 dwX11_sign_54
theorem dX11_sign_55 : decode cX11_sign 55 = .ok (.getfield 245, 3) := dko_180 (dk_t 1 55 [180, 0, 245, 172] dwX11_sign_54 rfl rfl)
theorem dX11_sign_58 : decode cX11_sign 58 = .ok (.ireturn, 1) := dko_172 (dk_t 4 58 [172] dwX11_sign_54 rfl rfl)
theorem dwX11_end_0 : dkW cX11_end 0 [42, 3, 181, 0, 134, 27, 133, 9, 42, 180, 0, 245, 133] = true := by decide +kernel
theorem dX11_end_0 : decode cX11_end 0 = .ok (.aload_n 0, 1) := dko_42 dwX11_end_0
theorem dX11_end_1 : decode cX11_end 1 = .ok (.iconst 0, 1) := dko_3 (dk_t 1 1 [3, 181, 0, 134, 27, 133, 9, 42, 180, 0, 245, 133] dwX11_end_0 rfl rfl)
theorem dX11_end_2 : decode cX11_end 2 = .ok (.putfield 134, 3) := dko_181 (dk_t 2 2 [181, 0, 134, 27, 133, 9, 42, 180, 0, 245, 133] dwX11_end_0 rfl rfl)
theorem dX11_end_5 : decode cX11_end 5 = .ok (.iload_n 1, 1) := dko_27 (dk_t 5 5 [27, 133, 9, 42, 180, 0, 245, 133] dwX11_end_0 rfl rfl)
theorem dX11_end_6 : decode cX11_end 6 = .ok (.i2l, 1) := dko_133 (dk_t 6 6 [133, 9, 42, 180, 0, 245, 133] dwX11_end_0 rfl rfl)
theorem dX11_end_7 : decode cX11_end 7 = .ok (.lconst 0, 1) := dko_9 (dk_t 7 7 [9, 42, 180, 0, 245, 133] dwX11_end_0 rfl rfl)
theorem dX11_end_8 : decode cX11_end 8 = .ok (.aload_n 0, 1) := dko_42 (dk_t 8 8 [42, 180, 0, 245, 133] dwX11_end_0 rfl rfl)
theorem dX11_end_9 : decode cX11_end 9 = .ok (.getfield 245, 3) := dko_180 (dk_t 9 9 [180, 0, 245, 133] dwX11_end_0 rfl rfl)
theorem dX11_end_12 : decode cX11_end 12 = .ok (.i2l, 1) := dko_133 (dk_t 12 12 [133] dwX11_end_0 rfl rfl)
theorem dwX11_end_13 : dkW cX11_end 13 [184, 0, 139, 154, 0, 5, 3, 172, 42, 27, 181, 0, 245, 4] = true := by decide +kernel
theorem dX11_end_13 : decode cX11_end 13 = .ok (.invokestatic 139, 3) := dko_184 dwX11_end_13
theorem dX11_end_16 : decode cX11_end 16 = .ok (.ifCond .ne 5, 3) := dko_154 (dk_t 3 16 [154, 0, 5, 3, 172, 42, 27, 181, 0, 245, 4] dwX11_end_13 rfl rfl)
theorem dX11_end_19 : decode cX11_end 19 = .ok (.iconst 0, 1) := dko_3 (dk_t 6 19 [3, 172, 42, 27, 181, 0, 245, 4] dwX11_end_13 rfl rfl)
theorem dX11_end_20 : decode cX11_end 20 = .ok (.ireturn, 1) := dko_172 (dk_t 7 20 [172, 42, 27, 181, 0, 245, 4] dwX11_end_13 rfl rfl)
theorem dX11_end_21 : decode cX11_end 21 = .ok (.aload_n 0, 1) := dko_42 (dk_t 8 21 [42, 27, 181, 0, 245, 4] dwX11_end_13 rfl rfl)
theorem dX11_end_22 : decode cX11_end 22 = .ok (.iload_n 1, 1) := dko_27 (dk_t 9 22 [27, 181, 0, 245, 4] dwX11_end_13 rfl rfl)
theorem dX11_end_23 : decode cX11_end 23 = .ok (.putfield 245, 3) := dko_181 (dk_t 10 23 [181, 0, 245, 4] dwX11_end_13 rfl rfl)
theorem dX11_end_26 : decode cX11_end 26 = .ok (.iconst 1, 1) := dko_4 (dk_t 13 26 [4] dwX11_end_13 rfl rfl)
theorem dwX11_end_27 : dkW cX11_end 27 [172] = true := by decide +kernel
theorem dX11_end_27 : decode cX11_end 27 = .ok (.ireturn, 1) := dko_172 dwX11_end_27
theorem dwX11_signAt_0 : dkW cX11_signAt 0 [27, 42, 180, 0, 245, 162, 0, 12, 42, 180, 0, 103, 27, 51] = true := by decide +kernel
theorem dX11_signAt_0 : decode cX11_signAt 0 = .ok (.iload_n 1, 1) := dko_27 dwX11_signAt_0
theorem dX11_signAt_1 : decode cX11_signAt 1 = .ok (.aload_n 0, 1) := dko_42 (dk_t 1 1 [42, 180, 0, 245, 162, 0, 12, 42, 180, 0, 103, 27, 51] dwX11_signAt_0 rfl rfl)
theorem dX11_signAt_2 : decode cX11_signAt 2 = .ok (.getfield 245, 3) := dko_180 (dk_t 2 2 [180, 0, 245, 162, 0, 12, 42, 180, 0, 103, 27, 51] dwX11_signAt_0 rfl rfl)
theorem dX11_signAt_5 : decode cX11_signAt 5 = .ok (.if_icmp .ge 12, 3) := dko_162 (dk_t 5 5 [162, 0, 12, 42, 180, 0, 103, 27, 51] dwX11_signAt_0 rfl rfl)
theorem dX11_signAt_8 : decode cX11_signAt 8 = .ok (.aload_n 0, 1) := dko_42 (dk_t 8 8 [42, 180, 0, 103, 27, 51] dwX11_signAt_0 rfl rfl)
theorem dX11_signAt_9 : decode cX11_signAt 9 = .ok (.getfield 103, 3) := dko_180 (dk_t 9 9 [180, 0, 103, 27, 51] dwX11_signAt_0 rfl rfl)
theorem dX11_signAt_12 : decode cX11_signAt 12 = .ok (.iload_n 1, 1) := dko_27 (dk_t 12 12 [27, 51] dwX11_signAt_0 rfl rfl)
theorem dX11_signAt_13 : decode cX11_signAt 13 = .ok (.baload, 1) := dko_51 (dk_t 13 13 [51] dwX11_signAt_0 rfl rfl)
theorem dwX11_signAt_14 : dkW cX11_signAt 14 [167, 0, 4, 3, 172] = true := by decide +kernel
theorem dX11_signAt_14 : decode cX11_signAt 14 = .ok (.goto 4, 3) := dko_167 dwX11_signAt_14
theorem dX11_signAt_17 : decode cX11_signAt 17 = .ok (.iconst 0, 1) := dko_3 (dk_t 3 17 [3, 172] dwX11_signAt_14 rfl rfl)
theorem dX11_signAt_18 : decode cX11_signAt 18 = .ok (.ireturn, 1) := dko_172 (dk_t 4 18 [172] dwX11_signAt_14 rfl rfl)
theorem dwX11_isLetter_0 : dkW cX11_isLetter 0 [26, 133, 20, 0, 248, 20, 0, 250, 184, 0, 139, 172] = true := by decide +kernel
theorem dX11_isLetter_0 : decode cX11_isLetter 0 = .ok (.iload_n 0, 1) := dko_26 dwX11_isLetter_0
theorem dX11_isLetter_1 : decode cX11_isLetter 1 = .ok (.i2l, 1) := dko_133 (dk_t 1 1 [133, 20, 0, 248, 20, 0, 250, 184, 0, 139, 172] dwX11_isLetter_0 rfl rfl)
theorem dX11_isLetter_2 : decode cX11_isLetter 2 = .ok (.ldc2_w 248, 3) := dko_20 (dk_t 2 2 [20, 0, 248, 20, 0, 250, 184, 0, 139, 172] dwX11_isLetter_0 rfl rfl)
theorem dX11_isLetter_5 : decode cX11_isLetter 5 = .ok (.ldc2_w 250, 3) := dko_20 (dk_t 5 5 [20, 0, 250, 184, 0, 139, 172] dwX11_isLetter_0 rfl rfl)
theorem dX11_isLetter_8 : decode cX11_isLetter 8 = .ok (.invokestatic 139, 3) := dko_184 (dk_t 8 8 [184, 0, 139, 172] dwX11_isLetter_0 rfl rfl)
theorem dX11_isLetter_11 : decode cX11_isLetter 11 = .ok (.ireturn, 1) := dko_172 (dk_t 11 11 [172] dwX11_isLetter_0 rfl rfl)
theorem dwX11_isDigit_0 : dkW cX11_isDigit 0 [26, 133, 20, 0, 252, 20, 0, 254, 184, 0, 139, 172] = true := by decide +kernel
theorem dX11_isDigit_0 : decode cX11_isDigit 0 = .ok (.iload_n 0, 1) := dko_26 dwX11_isDigit_0
theorem dX11_isDigit_1 : decode cX11_isDigit 1 = .ok (.i2l, 1) := dko_133 (dk_t 1 1 [133, 20, 0, 252, 20, 0, 254, 184, 0, 139, 172] dwX11_isDigit_0 rfl rfl)
theorem dX11_isDigit_2 : decode cX11_isDigit 2 = .ok (.ldc2_w 252, 3) := dko_20 (dk_t 2 2 [20, 0, 252, 20, 0, 254, 184, 0, 139, 172] dwX11_isDigit_0 rfl rfl)
theorem dX11_isDigit_5 : decode cX11_isDigit 5 = .ok (.ldc2_w 254, 3) := dko_20 (dk_t 5 5 [20, 0, 254, 184, 0, 139, 172] dwX11_isDigit_0 rfl rfl)
theorem dX11_isDigit_8 : decode cX11_isDigit 8 = .ok (.invokestatic 139, 3) := dko_184 (dk_t 8 8 [184, 0, 139, 172] dwX11_isDigit_0 rfl rfl)
theorem dX11_isDigit_11 : decode cX11_isDigit 11 = .ok (.ireturn, 1) := dko_172 (dk_t 11 11 [172] dwX11_isDigit_0 rfl rfl)
theorem dwX11_next_0 : dkW cX11_next 0 [42, 42, 180, 1, 0, 182, 1, 3, 16, 32, 160, 0, 27, 42] = true := by decide +kernel
theorem dX11_next_0 : decode cX11_next 0 = .ok (.aload_n 0, 1) := dko_42 dwX11_next_0
theorem dX11_next_1 : decode cX11_next 1 = .ok (.aload_n 0, 1) := dko_42 (dk_t 1 1 [42, 180, 1, 0, 182, 1, 3, 16, 32, 160, 0, 27, 42] dwX11_next_0 rfl rfl)
theorem dX11_next_2 : decode cX11_next 2 = .ok (.getfield 256, 3) := dko_180 (dk_t 2 2 [180, 1, 0, 182, 1, 3, 16, 32, 160, 0, 27, 42] dwX11_next_0 rfl rfl)
theorem dX11_next_5 : decode cX11_next 5 = .ok (.invokevirtual 259, 3) := dko_182 (dk_t 5 5 [182, 1, 3, 16, 32, 160, 0, 27, 42] dwX11_next_0 rfl rfl)
theorem dX11_next_8 : decode cX11_next 8 = .ok (.bipush 32, 2) := dko_16 (dk_t 8 8 [16, 32, 160, 0, 27, 42] dwX11_next_0 rfl rfl)
theorem dX11_next_10 : decode cX11_next 10 = .ok (.if_icmp .ne 27, 3) := dko_160 (dk_t 10 10 [160, 0, 27, 42] dwX11_next_0 rfl rfl)
theorem dX11_next_13 : decode cX11_next 13 = .ok (.aload_n 0, 1) := dko_42 (dk_t 13 13 [42] dwX11_next_0 rfl rfl)
theorem dwX11_next_14 : dkW cX11_next 14 [180, 1, 0, 42, 180, 0, 245, 162, 0, 16, 42, 89] = true := by decide +kernel
theorem dX11_next_14 : decode cX11_next 14 = .ok (.getfield 256, 3) := dko_180 dwX11_next_14
theorem dX11_next_17 : decode cX11_next 17 = .ok (.aload_n 0, 1) := dko_42 (dk_t 3 17 [42, 180, 0, 245, 162, 0, 16, 42, 89] dwX11_next_14 rfl rfl)
theorem dX11_next_18 : decode cX11_next 18 = .ok (.getfield 245, 3) := dko_180 (dk_t 4 18 [180, 0, 245, 162, 0, 16, 42, 89] dwX11_next_14 rfl rfl)
theorem dX11_next_21 : decode cX11_next 21 = .ok (.if_icmp .ge 16, 3) := dko_162 (dk_t 7 21 [162, 0, 16, 42, 89] dwX11_next_14 rfl rfl)
theorem dX11_next_24 : decode cX11_next 24 = .ok (.aload_n 0, 1) := dko_42 (dk_t 10 24 [42, 89] dwX11_next_14 rfl rfl)
theorem dX11_next_25 : decode cX11_next 25 = .ok (.dup, 1) := dko_89 (dk_t 11 25 [89] dwX11_next_14 rfl rfl)
theorem dwX11_next_26 : dkW cX11_next 26 [180, 1, 0, 4, 96, 181, 1, 0, 167, 255, 222, 42, 42] = true := by decide +kernel
theorem dX11_next_26 : decode cX11_next 26 = .ok (.getfield 256, 3) := dko_180 dwX11_next_26
theorem dX11_next_29 : decode cX11_next 29 = .ok (.iconst 1, 1) := dko_4 (dk_t 3 29 [4, 96, 181, 1, 0, 167, 255, 222, 42, 42] dwX11_next_26 rfl rfl)
theorem dX11_next_30 : decode cX11_next 30 = .ok (.iadd, 1) := dko_96 (dk_t 4 30 [96, 181, 1, 0, 167, 255, 222, 42, 42] dwX11_next_26 rfl rfl)
theorem dX11_next_31 : decode cX11_next 31 = .ok (.putfield 256, 3) := dko_181 (dk_t 5 31 [181, 1, 0, 167, 255, 222, 42, 42] dwX11_next_26 rfl rfl)
theorem dX11_next_34 : decode cX11_next 34 = .ok (.goto (-34), 3) := dko_167 (dk_t 8 34 [167, 255, 222, 42, 42] dwX11_next_26 rfl rfl)
theorem dX11_next_37 : decode cX11_next 37 = .ok (.aload_n 0, 1) := dko_42 (dk_t 11 37 [42, 42] dwX11_next_26 rfl rfl)
theorem dX11_next_38 : decode cX11_next 38 = .ok (.aload_n 0, 1) := dko_42 (dk_t 12 38 [42] dwX11_next_26 rfl rfl)
theorem dwX11_next_39 : dkW cX11_next 39 [180, 1, 0, 182, 1, 3, 172] = true := by decide +kernel
theorem dX11_next_39 : decode cX11_next 39 = .ok (.getfield 256, 3) := dko_180 dwX11_next_39
theorem dX11_next_42 : decode cX11_next 42 = .ok (.invokevirtual 259, 3) := dko_182 (dk_t 3 42 [182, 1, 3, 172] dwX11_next_39 rfl rfl)
theorem dX11_next_45 : decode cX11_next 45 = .ok (.ireturn, 1) := dko_172 (dk_t 6 45 [172] dwX11_next_39 rfl rfl)
theorem dwX11_wrong_0 : dkW cX11_wrong 0 [42, 42, 180, 1, 6, 153, 0, 7, 27, 167, 0, 7, 42] = true := by decide +kernel
theorem dX11_wrong_0 : decode cX11_wrong 0 = .ok (.aload_n 0, 1) := dko_42 dwX11_wrong_0
theorem dX11_wrong_1 : decode cX11_wrong 1 = .ok (.aload_n 0, 1) := dko_42 (dk_t 1 1 [42, 180, 1, 6, 153, 0, 7, 27, 167, 0, 7, 42] dwX11_wrong_0 rfl rfl)
theorem dX11_wrong_2 : decode cX11_wrong 2 = .ok (.getfield 262, 3) := dko_180 (dk_t 2 2 [180, 1, 6, 153, 0, 7, 27, 167, 0, 7, 42] dwX11_wrong_0 rfl rfl)
theorem dX11_wrong_5 : decode cX11_wrong 5 = .ok (.ifCond .eq 7, 3) := dko_153 (dk_t 5 5 [153, 0, 7, 27, 167, 0, 7, 42] dwX11_wrong_0 rfl rfl)
theorem dX11_wrong_8 : decode cX11_wrong 8 = .ok (.iload_n 1, 1) := dko_27 (dk_t 8 8 [27, 167, 0, 7, 42] dwX11_wrong_0 rfl rfl)
theorem dX11_wrong_9 : decode cX11_wrong 9 = .ok (.goto 7, 3) := dko_167 (dk_t 9 9 [167, 0, 7, 42] dwX11_wrong_0 rfl rfl)
theorem dX11_wrong_12 : decode cX11_wrong 12 = .ok (.aload_n 0, 1) := dko_42 (dk_t 12 12 [42] dwX11_wrong_0 rfl rfl)
theorem dwX11_wrong_13 : dkW cX11_wrong 13 [180, 1, 9, 181, 1, 9, 42, 3, 181, 1, 6, 177] = true := by decide +kernel
theorem dX11_wrong_13 : decode cX11_wrong 13 = .ok (.getfield 265, 3) := dko_180 dwX11_wrong_13
theorem dX11_wrong_16 : decode cX11_wrong 16 = .ok (.putfield 265, 3) := dko_181 (dk_t 3 16 [181, 1, 9, 42, 3, 181, 1, 6, 177] dwX11_wrong_13 rfl rfl)
theorem dX11_wrong_19 : decode cX11_wrong 19 = .ok (.aload_n 0, 1) := dko_42 (dk_t 6 19 [42, 3, 181, 1, 6, 177] dwX11_wrong_13 rfl rfl)
theorem dX11_wrong_20 : decode cX11_wrong 20 = .ok (.iconst 0, 1) := dko_3 (dk_t 7 20 [3, 181, 1, 6, 177] dwX11_wrong_13 rfl rfl)
theorem dX11_wrong_21 : decode cX11_wrong 21 = .ok (.putfield 262, 3) := dko_181 (dk_t 8 21 [181, 1, 6, 177] dwX11_wrong_13 rfl rfl)
theorem dX11_wrong_24 : decode cX11_wrong 24 = .ok (.return_, 1) := dko_177 (dk_t 11 24 [177] dwX11_wrong_13 rfl rfl)
theorem dwX11_isWord_0 : dkW cX11_isWord 0 [42, 182, 1, 12, 87, 42, 180, 1, 0, 61, 42, 28] = true := by decide +kernel
theorem dX11_isWord_0 : decode cX11_isWord 0 = .ok (.aload_n 0, 1) := dko_42 dwX11_isWord_0
theorem dX11_isWord_1 : decode cX11_isWord 1 = .ok (.invokevirtual 268, 3) := dko_182 (dk_t 1 1 [182, 1, 12, 87, 42, 180, 1, 0, 61, 42, 28] dwX11_isWord_0 rfl rfl)
theorem dX11_isWord_4 : decode cX11_isWord 4 = .ok (.pop, 1) := dko_87 (dk_t 4 4 [87, 42, 180, 1, 0, 61, 42, 28] dwX11_isWord_0 rfl rfl)
theorem dX11_isWord_5 : decode cX11_isWord 5 = .ok (.aload_n 0, 1) := dko_42 (dk_t 5 5 [42, 180, 1, 0, 61, 42, 28] dwX11_isWord_0 rfl rfl)
theorem dX11_isWord_6 : decode cX11_isWord 6 = .ok (.getfield 256, 3) := dko_180 (dk_t 6 6 [180, 1, 0, 61, 42, 28] dwX11_isWord_0 rfl rfl)
theorem dX11_isWord_9 : decode cX11_isWord 9 = .ok (.istore_n 2, 1) := dko_61 (dk_t 9 9 [61, 42, 28] dwX11_isWord_0 rfl rfl)
theorem dX11_isWord_10 : decode cX11_isWord 10 = .ok (.aload_n 0, 1) := dko_42 (dk_t 10 10 [42, 28] dwX11_isWord_0 rfl rfl)
theorem dX11_isWord_11 : decode cX11_isWord 11 = .ok (.iload_n 2, 1) := dko_28 (dk_t 11 11 [28] dwX11_isWord_0 rfl rfl)
theorem dwX11_isWord_12 : dkW cX11_isWord 12 [182, 1, 3, 184, 1, 16, 153, 0, 9, 132, 2, 1] = true := by decide +kernel
theorem dX11_isWord_12 : decode cX11_isWord 12 = .ok (.invokevirtual 259, 3) := dko_182 dwX11_isWord_12
theorem dX11_isWord_15 : decode cX11_isWord 15 = .ok (.invokestatic 272, 3) := dko_184 (dk_t 3 15 [184, 1, 16, 153, 0, 9, 132, 2, 1] dwX11_isWord_12 rfl rfl)
theorem dX11_isWord_18 : decode cX11_isWord 18 = .ok (.ifCond .eq 9, 3) := dko_153 (dk_t 6 18 [153, 0, 9, 132, 2, 1] dwX11_isWord_12 rfl rfl)
theorem dX11_isWord_21 : decode cX11_isWord 21 = .ok (.iinc 2 1, 3) := dko_132 (dk_t 9 21 [132, 2, 1] dwX11_isWord_12 rfl rfl)
theorem dwX11_isWord_24 : dkW cX11_isWord 24 [167, 255, 242, 42, 180, 1, 6, 153, 0, 18, 28, 42] = true := by decide +kernel
theorem dX11_isWord_24 : decode cX11_isWord 24 = .ok (.goto (-14), 3) := dko_167 dwX11_isWord_24
theorem dX11_isWord_27 : decode cX11_isWord 27 = .ok (.aload_n 0, 1) := dko_42 (dk_t 3 27 [42, 180, 1, 6, 153, 0, 18, 28, 42] dwX11_isWord_24 rfl rfl)
theorem dX11_isWord_28 : decode cX11_isWord 28 = .ok (.getfield 262, 3) := dko_180 (dk_t 4 28 [180, 1, 6, 153, 0, 18, 28, 42] dwX11_isWord_24 rfl rfl)
theorem dX11_isWord_31 : decode cX11_isWord 31 = .ok (.ifCond .eq 18, 3) := dko_153 (dk_t 7 31 [153, 0, 18, 28, 42] dwX11_isWord_24 rfl rfl)
theorem dX11_isWord_34 : decode cX11_isWord 34 = .ok (.iload_n 2, 1) := dko_28 (dk_t 10 34 [28, 42] dwX11_isWord_24 rfl rfl)
theorem dX11_isWord_35 : decode cX11_isWord 35 = .ok (.aload_n 0, 1) := dko_42 (dk_t 11 35 [42] dwX11_isWord_24 rfl rfl)
theorem dwX11_isWord_36 : dkW cX11_isWord 36 [180, 1, 0, 100, 43, 190, 160, 0, 7, 4, 167, 0, 4, 3] = true := by decide +kernel
theorem dX11_isWord_36 : decode cX11_isWord 36 = .ok (.getfield 256, 3) := dko_180 dwX11_isWord_36
theorem dX11_isWord_39 : decode cX11_isWord 39 = .ok (.isub, 1) := dko_100 (dk_t 3 39 [100, 43, 190, 160, 0, 7, 4, 167, 0, 4, 3] dwX11_isWord_36 rfl rfl)
theorem dX11_isWord_40 : decode cX11_isWord 40 = .ok (.aload_n 1, 1) := dko_43 (dk_t 4 40 [43, 190, 160, 0, 7, 4, 167, 0, 4, 3] dwX11_isWord_36 rfl rfl)
theorem dX11_isWord_41 : decode cX11_isWord 41 = .ok (.arraylength, 1) := dko_190 (dk_t 5 41 [190, 160, 0, 7, 4, 167, 0, 4, 3] dwX11_isWord_36 rfl rfl)
theorem dX11_isWord_42 : decode cX11_isWord 42 = .ok (.if_icmp .ne 7, 3) := dko_160 (dk_t 6 42 [160, 0, 7, 4, 167, 0, 4, 3] dwX11_isWord_36 rfl rfl)
theorem dX11_isWord_45 : decode cX11_isWord 45 = .ok (.iconst 1, 1) := dko_4 (dk_t 9 45 [4, 167, 0, 4, 3] dwX11_isWord_36 rfl rfl)
theorem dX11_isWord_46 : decode cX11_isWord 46 = .ok (.goto 4, 3) := dko_167 (dk_t 10 46 [167, 0, 4, 3] dwX11_isWord_36 rfl rfl)
theorem dX11_isWord_49 : decode cX11_isWord 49 = .ok (.iconst 0, 1) := dko_3 (dk_t 13 49 [3] dwX11_isWord_36 rfl rfl)
theorem dwX11_isWord_50 : dkW cX11_isWord 50 [62, 3, 54, 4, 29, 153, 0, 40, 21, 4, 43, 190] = true := by decide +kernel
theorem dX11_isWord_50 : decode cX11_isWord 50 = .ok (.istore_n 3, 1) := dko_62 dwX11_isWord_50
theorem dX11_isWord_51 : decode cX11_isWord 51 = .ok (.iconst 0, 1) := dko_3 (dk_t 1 51 [3, 54, 4, 29, 153, 0, 40, 21, 4, 43, 190] dwX11_isWord_50 rfl rfl)
theorem dX11_isWord_52 : decode cX11_isWord 52 = .ok (.istore 4, 2) := dko_54 (dk_t 2 52 [54, 4, 29, 153, 0, 40, 21, 4, 43, 190] dwX11_isWord_50 rfl rfl)
theorem dX11_isWord_54 : decode cX11_isWord 54 = .ok (.iload_n 3, 1) := dko_29 (dk_t 4 54 [29, 153, 0, 40, 21, 4, 43, 190] dwX11_isWord_50 rfl rfl)
theorem dX11_isWord_55 : decode cX11_isWord 55 = .ok (.ifCond .eq 40, 3) := dko_153 (dk_t 5 55 [153, 0, 40, 21, 4, 43, 190] dwX11_isWord_50 rfl rfl)
theorem dX11_isWord_58 : decode cX11_isWord 58 = .ok (.iload 4, 2) := dko_21 (dk_t 8 58 [21, 4, 43, 190] dwX11_isWord_50 rfl rfl)
theorem dX11_isWord_60 : decode cX11_isWord 60 = .ok (.aload_n 1, 1) := dko_43 (dk_t 10 60 [43, 190] dwX11_isWord_50 rfl rfl)
theorem dX11_isWord_61 : decode cX11_isWord 61 = .ok (.arraylength, 1) := dko_190 (dk_t 11 61 [190] dwX11_isWord_50 rfl rfl)
theorem dwX11_isWord_62 : dkW cX11_isWord 62 [162, 0, 33, 42, 42, 180, 1, 0, 21, 4, 96, 182, 1, 3] = true := by decide +kernel
theorem dX11_isWord_62 : decode cX11_isWord 62 = .ok (.if_icmp .ge 33, 3) := dko_162 dwX11_isWord_62
theorem dX11_isWord_65 : decode cX11_isWord 65 = .ok (.aload_n 0, 1) := dko_42 (dk_t 3 65 [42, 42, 180, 1, 0, 21, 4, 96, 182, 1, 3] dwX11_isWord_62 rfl rfl)
theorem dX11_isWord_66 : decode cX11_isWord 66 = .ok (.aload_n 0, 1) := dko_42 (dk_t 4 66 [42, 180, 1, 0, 21, 4, 96, 182, 1, 3] dwX11_isWord_62 rfl rfl)
theorem dX11_isWord_67 : decode cX11_isWord 67 = .ok (.getfield 256, 3) := dko_180 (dk_t 5 67 [180, 1, 0, 21, 4, 96, 182, 1, 3] dwX11_isWord_62 rfl rfl)
theorem dX11_isWord_70 : decode cX11_isWord 70 = .ok (.iload 4, 2) := dko_21 (dk_t 8 70 [21, 4, 96, 182, 1, 3] dwX11_isWord_62 rfl rfl)
theorem dX11_isWord_72 : decode cX11_isWord 72 = .ok (.iadd, 1) := dko_96 (dk_t 10 72 [96, 182, 1, 3] dwX11_isWord_62 rfl rfl)
theorem dX11_isWord_73 : decode cX11_isWord 73 = .ok (.invokevirtual 259, 3) := dko_182 (dk_t 11 73 [182, 1, 3] dwX11_isWord_62 rfl rfl)
theorem dwX11_isWord_76 : dkW cX11_isWord 76 [43, 21, 4, 52, 160, 0, 7, 4, 167, 0, 4, 3, 62] = true := by decide +kernel
theorem dX11_isWord_76 : decode cX11_isWord 76 = .ok (.aload_n 1, 1) := dko_43 dwX11_isWord_76
theorem dX11_isWord_77 : decode cX11_isWord 77 = .ok (.iload 4, 2) := dko_21 (dk_t 1 77 [21, 4, 52, 160, 0, 7, 4, 167, 0, 4, 3, 62] dwX11_isWord_76 rfl rfl)
theorem dX11_isWord_79 : decode cX11_isWord 79 = .ok (.caload, 1) := dko_52 (dk_t 3 79 [52, 160, 0, 7, 4, 167, 0, 4, 3, 62] dwX11_isWord_76 rfl rfl)
theorem dX11_isWord_80 : decode cX11_isWord 80 = .ok (.if_icmp .ne 7, 3) := dko_160 (dk_t 4 80 [160, 0, 7, 4, 167, 0, 4, 3, 62] dwX11_isWord_76 rfl rfl)
theorem dX11_isWord_83 : decode cX11_isWord 83 = .ok (.iconst 1, 1) := dko_4 (dk_t 7 83 [4, 167, 0, 4, 3, 62] dwX11_isWord_76 rfl rfl)
theorem dX11_isWord_84 : decode cX11_isWord 84 = .ok (.goto 4, 3) := dko_167 (dk_t 8 84 [167, 0, 4, 3, 62] dwX11_isWord_76 rfl rfl)
theorem dX11_isWord_87 : decode cX11_isWord 87 = .ok (.iconst 0, 1) := dko_3 (dk_t 11 87 [3, 62] dwX11_isWord_76 rfl rfl)
theorem dX11_isWord_88 : decode cX11_isWord 88 = .ok (.istore_n 3, 1) := dko_62 (dk_t 12 88 [62] dwX11_isWord_76 rfl rfl)
theorem dwX11_isWord_89 : dkW cX11_isWord 89 [132, 4, 1, 167, 255, 218, 42, 29, 153, 0, 7, 28] = true := by decide +kernel
theorem dX11_isWord_89 : decode cX11_isWord 89 = .ok (.iinc 4 1, 3) := dko_132 dwX11_isWord_89
theorem dX11_isWord_92 : decode cX11_isWord 92 = .ok (.goto (-38), 3) := dko_167 (dk_t 3 92 [167, 255, 218, 42, 29, 153, 0, 7, 28] dwX11_isWord_89 rfl rfl)
theorem dX11_isWord_95 : decode cX11_isWord 95 = .ok (.aload_n 0, 1) := dko_42 (dk_t 6 95 [42, 29, 153, 0, 7, 28] dwX11_isWord_89 rfl rfl)
theorem dX11_isWord_96 : decode cX11_isWord 96 = .ok (.iload_n 3, 1) := dko_29 (dk_t 7 96 [29, 153, 0, 7, 28] dwX11_isWord_89 rfl rfl)
theorem dX11_isWord_97 : decode cX11_isWord 97 = .ok (.ifCond .eq 7, 3) := dko_153 (dk_t 8 97 [153, 0, 7, 28] dwX11_isWord_89 rfl rfl)
theorem dX11_isWord_100 : decode cX11_isWord 100 = .ok (.iload_n 2, 1) := dko_28 (dk_t 11 100 [28] dwX11_isWord_89 rfl rfl)
theorem dwX11_isWord_101 : dkW cX11_isWord 101 [167, 0, 7, 42, 180, 1, 0, 181, 1, 0, 29, 172] = true := by decide +kernel
theorem dX11_isWord_101 : decode cX11_isWord 101 = .ok (.goto 7, 3) := dko_167 dwX11_isWord_101
theorem dX11_isWord_104 : decode cX11_isWord 104 = .ok (.aload_n 0, 1) := dko_42 (dk_t 3 104 [42, 180, 1, 0, 181, 1, 0, 29, 172] dwX11_isWord_101 rfl rfl)
theorem dX11_isWord_105 : decode cX11_isWord 105 = .ok (.getfield 256, 3) := dko_180 (dk_t 4 105 [180, 1, 0, 181, 1, 0, 29, 172] dwX11_isWord_101 rfl rfl)
theorem dX11_isWord_108 : decode cX11_isWord 108 = .ok (.putfield 256, 3) := dko_181 (dk_t 7 108 [181, 1, 0, 29, 172] dwX11_isWord_101 rfl rfl)
theorem dX11_isWord_111 : decode cX11_isWord 111 = .ok (.iload_n 3, 1) := dko_29 (dk_t 10 111 [29, 172] dwX11_isWord_101 rfl rfl)
theorem dX11_isWord_112 : decode cX11_isWord 112 = .ok (.ireturn, 1) := dko_172 (dk_t 11 112 [172] dwX11_isWord_101 rfl rfl)
theorem dwX11_number_0 : dkW cX11_number 0 [42, 180, 1, 6, 154, 0, 5, 3, 172, 42, 182, 1, 12] = true := by decide +kernel
theorem dX11_number_0 : decode cX11_number 0 = .ok (.aload_n 0, 1) := dko_42 dwX11_number_0
theorem dX11_number_1 : decode cX11_number 1 = .ok (.getfield 262, 3) := dko_180 (dk_t 1 1 [180, 1, 6, 154, 0, 5, 3, 172, 42, 182, 1, 12] dwX11_number_0 rfl rfl)
theorem dX11_number_4 : decode cX11_number 4 = .ok (.ifCond .ne 5, 3) := dko_154 (dk_t 4 4 [154, 0, 5, 3, 172, 42, 182, 1, 12] dwX11_number_0 rfl rfl)
theorem dX11_number_7 : decode cX11_number 7 = .ok (.iconst 0, 1) := dko_3 (dk_t 7 7 [3, 172, 42, 182, 1, 12] dwX11_number_0 rfl rfl)
theorem dX11_number_8 : decode cX11_number 8 = .ok (.ireturn, 1) := dko_172 (dk_t 8 8 [172, 42, 182, 1, 12] dwX11_number_0 rfl rfl)
theorem dX11_number_9 : decode cX11_number 9 = .ok (.aload_n 0, 1) := dko_42 (dk_t 9 9 [42, 182, 1, 12] dwX11_number_0 rfl rfl)
theorem dX11_number_10 : decode cX11_number 10 = .ok (.invokevirtual 268, 3) := dko_182 (dk_t 10 10 [182, 1, 12] dwX11_number_0 rfl rfl)
theorem dwX11_number_13 : dkW cX11_number 13 [16, 45, 160, 0, 7, 4, 167, 0, 4, 3, 62, 42] = true := by decide +kernel
theorem dX11_number_13 : decode cX11_number 13 = .ok (.bipush 45, 2) := dko_16 dwX11_number_13
theorem dX11_number_15 : decode cX11_number 15 = .ok (.if_icmp .ne 7, 3) := dko_160 (dk_t 2 15 [160, 0, 7, 4, 167, 0, 4, 3, 62, 42] dwX11_number_13 rfl rfl)
theorem dX11_number_18 : decode cX11_number 18 = .ok (.iconst 1, 1) := dko_4 (dk_t 5 18 [4, 167, 0, 4, 3, 62, 42] dwX11_number_13 rfl rfl)
theorem dX11_number_19 : decode cX11_number 19 = .ok (.goto 4, 3) := dko_167 (dk_t 6 19 [167, 0, 4, 3, 62, 42] dwX11_number_13 rfl rfl)
theorem dX11_number_22 : decode cX11_number 22 = .ok (.iconst 0, 1) := dko_3 (dk_t 9 22 [3, 62, 42] dwX11_number_13 rfl rfl)
theorem dX11_number_23 : decode cX11_number 23 = .ok (.istore_n 3, 1) := dko_62 (dk_t 10 23 [62, 42] dwX11_number_13 rfl rfl)
theorem dX11_number_24 : decode cX11_number 24 = .ok (.aload_n 0, 1) := dko_42 (dk_t 11 24 [42] dwX11_number_13 rfl rfl)
theorem dwX11_number_25 : dkW cX11_number 25 [180, 1, 0, 54, 4, 29, 153, 0, 12, 42, 180, 1, 0, 4] = true := by decide +kernel
theorem dX11_number_25 : decode cX11_number 25 = .ok (.getfield 256, 3) := dko_180 dwX11_number_25
theorem dX11_number_28 : decode cX11_number 28 = .ok (.istore 4, 2) := dko_54 (dk_t 3 28 [54, 4, 29, 153, 0, 12, 42, 180, 1, 0, 4] dwX11_number_25 rfl rfl)
theorem dX11_number_30 : decode cX11_number 30 = .ok (.iload_n 3, 1) := dko_29 (dk_t 5 30 [29, 153, 0, 12, 42, 180, 1, 0, 4] dwX11_number_25 rfl rfl)
theorem dX11_number_31 : decode cX11_number 31 = .ok (.ifCond .eq 12, 3) := dko_153 (dk_t 6 31 [153, 0, 12, 42, 180, 1, 0, 4] dwX11_number_25 rfl rfl)
theorem dX11_number_34 : decode cX11_number 34 = .ok (.aload_n 0, 1) := dko_42 (dk_t 9 34 [42, 180, 1, 0, 4] dwX11_number_25 rfl rfl)
theorem dX11_number_35 : decode cX11_number 35 = .ok (.getfield 256, 3) := dko_180 (dk_t 10 35 [180, 1, 0, 4] dwX11_number_25 rfl rfl)
theorem dX11_number_38 : decode cX11_number 38 = .ok (.iconst 1, 1) := dko_4 (dk_t 13 38 [4] dwX11_number_25 rfl rfl)
theorem dwX11_number_39 : dkW cX11_number 39 [96, 167, 0, 7, 42, 180, 1, 0, 54, 5, 3, 54, 6, 3] = true := by decide +kernel
theorem dX11_number_39 : decode cX11_number 39 = .ok (.iadd, 1) := dko_96 dwX11_number_39
theorem dX11_number_40 : decode cX11_number 40 = .ok (.goto 7, 3) := dko_167 (dk_t 1 40 [167, 0, 7, 42, 180, 1, 0, 54, 5, 3, 54, 6, 3] dwX11_number_39 rfl rfl)
theorem dX11_number_43 : decode cX11_number 43 = .ok (.aload_n 0, 1) := dko_42 (dk_t 4 43 [42, 180, 1, 0, 54, 5, 3, 54, 6, 3] dwX11_number_39 rfl rfl)
theorem dX11_number_44 : decode cX11_number 44 = .ok (.getfield 256, 3) := dko_180 (dk_t 5 44 [180, 1, 0, 54, 5, 3, 54, 6, 3] dwX11_number_39 rfl rfl)
theorem dX11_number_47 : decode cX11_number 47 = .ok (.istore 5, 2) := dko_54 (dk_t 8 47 [54, 5, 3, 54, 6, 3] dwX11_number_39 rfl rfl)
theorem dX11_number_49 : decode cX11_number 49 = .ok (.iconst 0, 1) := dko_3 (dk_t 10 49 [3, 54, 6, 3] dwX11_number_39 rfl rfl)
theorem dX11_number_50 : decode cX11_number 50 = .ok (.istore 6, 2) := dko_54 (dk_t 11 50 [54, 6, 3] dwX11_number_39 rfl rfl)
theorem dX11_number_52 : decode cX11_number 52 = .ok (.iconst 0, 1) := dko_3 (dk_t 13 52 [3] dwX11_number_39 rfl rfl)
theorem dwX11_number_53 : dkW cX11_number 53 [54, 7, 42, 21, 5, 182, 1, 3, 184, 1, 19, 153, 0, 42] = true := by decide +kernel
theorem dX11_number_53 : decode cX11_number 53 = .ok (.istore 7, 2) := dko_54 dwX11_number_53
theorem dX11_number_55 : decode cX11_number 55 = .ok (.aload_n 0, 1) := dko_42 (dk_t 2 55 [42, 21, 5, 182, 1, 3, 184, 1, 19, 153, 0, 42] dwX11_number_53 rfl rfl)
theorem dX11_number_56 : decode cX11_number 56 = .ok (.iload 5, 2) := dko_21 (dk_t 3 56 [21, 5, 182, 1, 3, 184, 1, 19, 153, 0, 42] dwX11_number_53 rfl rfl)
theorem dX11_number_58 : decode cX11_number 58 = .ok (.invokevirtual 259, 3) := dko_182 (dk_t 5 58 [182, 1, 3, 184, 1, 19, 153, 0, 42] dwX11_number_53 rfl rfl)
theorem dX11_number_61 : decode cX11_number 61 = .ok (.invokestatic 275, 3) := dko_184 (dk_t 8 61 [184, 1, 19, 153, 0, 42] dwX11_number_53 rfl rfl)
theorem dX11_number_64 : decode cX11_number 64 = .ok (.ifCond .eq 42, 3) := dko_153 (dk_t 11 64 [153, 0, 42] dwX11_number_53 rfl rfl)
theorem dwX11_number_67 : dkW cX11_number 67 [21, 6, 19, 1, 22, 164, 0, 8, 21, 6, 167, 0, 18] = true := by decide +kernel
theorem dX11_number_67 : decode cX11_number 67 = .ok (.iload 6, 2) := dko_21 dwX11_number_67
theorem dX11_number_69 : decode cX11_number 69 = .ok (.ldc_w 278, 3) := dko_19 (dk_t 2 69 [19, 1, 22, 164, 0, 8, 21, 6, 167, 0, 18] dwX11_number_67 rfl rfl)
theorem dX11_number_72 : decode cX11_number 72 = .ok (.if_icmp .le 8, 3) := dko_164 (dk_t 5 72 [164, 0, 8, 21, 6, 167, 0, 18] dwX11_number_67 rfl rfl)
theorem dX11_number_75 : decode cX11_number 75 = .ok (.iload 6, 2) := dko_21 (dk_t 8 75 [21, 6, 167, 0, 18] dwX11_number_67 rfl rfl)
theorem dX11_number_77 : decode cX11_number 77 = .ok (.goto 18, 3) := dko_167 (dk_t 10 77 [167, 0, 18] dwX11_number_67 rfl rfl)
theorem dwX11_number_80 : dkW cX11_number 80 [16, 10, 21, 6, 104, 42, 21, 5, 182, 1, 3, 96, 16, 48] = true := by decide +kernel
theorem dX11_number_80 : decode cX11_number 80 = .ok (.bipush 10, 2) := dko_16 dwX11_number_80
theorem dX11_number_82 : decode cX11_number 82 = .ok (.iload 6, 2) := dko_21 (dk_t 2 82 [21, 6, 104, 42, 21, 5, 182, 1, 3, 96, 16, 48] dwX11_number_80 rfl rfl)
theorem dX11_number_84 : decode cX11_number 84 = .ok (.imul, 1) := dko_104 (dk_t 4 84 [104, 42, 21, 5, 182, 1, 3, 96, 16, 48] dwX11_number_80 rfl rfl)
theorem dX11_number_85 : decode cX11_number 85 = .ok (.aload_n 0, 1) := dko_42 (dk_t 5 85 [42, 21, 5, 182, 1, 3, 96, 16, 48] dwX11_number_80 rfl rfl)
theorem dX11_number_86 : decode cX11_number 86 = .ok (.iload 5, 2) := dko_21 (dk_t 6 86 [21, 5, 182, 1, 3, 96, 16, 48] dwX11_number_80 rfl rfl)
theorem dX11_number_88 : decode cX11_number 88 = .ok (.invokevirtual 259, 3) := dko_182 (dk_t 8 88 [182, 1, 3, 96, 16, 48] dwX11_number_80 rfl rfl)
theorem dX11_number_91 : decode cX11_number 91 = .ok (.iadd, 1) := dko_96 (dk_t 11 91 [96, 16, 48] dwX11_number_80 rfl rfl)
theorem dX11_number_92 : decode cX11_number 92 = .ok (.bipush 48, 2) := dko_16 (dk_t 12 92 [16, 48] dwX11_number_80 rfl rfl)
theorem dwX11_number_94 : dkW cX11_number 94 [100, 54, 6, 132, 7, 1, 132, 5, 1, 167, 255, 208, 29] = true := by decide +kernel
theorem dX11_number_94 : decode cX11_number 94 = .ok (.isub, 1) := dko_100 dwX11_number_94
theorem dX11_number_95 : decode cX11_number 95 = .ok (.istore 6, 2) := dko_54 (dk_t 1 95 [54, 6, 132, 7, 1, 132, 5, 1, 167, 255, 208, 29] dwX11_number_94 rfl rfl)
theorem dX11_number_97 : decode cX11_number 97 = .ok (.iinc 7 1, 3) := dko_132 (dk_t 3 97 [132, 7, 1, 132, 5, 1, 167, 255, 208, 29] dwX11_number_94 rfl rfl)
theorem dX11_number_100 : decode cX11_number 100 = .ok (.iinc 5 1, 3) := dko_132 (dk_t 6 100 [132, 5, 1, 167, 255, 208, 29] dwX11_number_94 rfl rfl)
theorem dX11_number_103 : decode cX11_number 103 = .ok (.goto (-48), 3) := dko_167 (dk_t 9 103 [167, 255, 208, 29] dwX11_number_94 rfl rfl)
theorem dX11_number_106 : decode cX11_number 106 = .ok (.iload_n 3, 1) := dko_29 (dk_t 12 106 [29] dwX11_number_94 rfl rfl)
theorem dwX11_number_107 : dkW cX11_number 107 [153, 0, 9, 21, 6, 116, 167, 0, 5, 21, 6, 54, 6] = true := by decide +kernel
theorem dX11_number_107 : decode cX11_number 107 = .ok (.ifCond .eq 9, 3) := dko_153 dwX11_number_107
theorem dX11_number_110 : decode cX11_number 110 = .ok (.iload 6, 2) := dko_21 (dk_t 3 110 [21, 6, 116, 167, 0, 5, 21, 6, 54, 6] dwX11_number_107 rfl rfl)
theorem dX11_number_112 : decode cX11_number 112 = .ok (.ineg, 1) := dko_116 (dk_t 5 112 [116, 167, 0, 5, 21, 6, 54, 6] dwX11_number_107 rfl rfl)
theorem dX11_number_113 : decode cX11_number 113 = .ok (.goto 5, 3) := dko_167 (dk_t 6 113 [167, 0, 5, 21, 6, 54, 6] dwX11_number_107 rfl rfl)
theorem dX11_number_116 : decode cX11_number 116 = .ok (.iload 6, 2) := dko_21 (dk_t 9 116 [21, 6, 54, 6] dwX11_number_107 rfl rfl)
theorem dX11_number_118 : decode cX11_number 118 = .ok (.istore 6, 2) := dko_54 (dk_t 11 118 [54, 6] dwX11_number_107 rfl rfl)
theorem dwX11_number_120 : dkW cX11_number 120 [21, 7, 153, 0, 22, 21, 7, 7, 163, 0, 16, 21, 6, 133] = true := by decide +kernel
theorem dX11_number_120 : decode cX11_number 120 = .ok (.iload 7, 2) := dko_21 dwX11_number_120
theorem dX11_number_122 : decode cX11_number 122 = .ok (.ifCond .eq 22, 3) := dko_153 (dk_t 2 122 [153, 0, 22, 21, 7, 7, 163, 0, 16, 21, 6, 133] dwX11_number_120 rfl rfl)
theorem dX11_number_125 : decode cX11_number 125 = .ok (.iload 7, 2) := dko_21 (dk_t 5 125 [21, 7, 7, 163, 0, 16, 21, 6, 133] dwX11_number_120 rfl rfl)
theorem dX11_number_127 : decode cX11_number 127 = .ok (.iconst 4, 1) := dko_7 (dk_t 7 127 [7, 163, 0, 16, 21, 6, 133] dwX11_number_120 rfl rfl)
theorem dX11_number_128 : decode cX11_number 128 = .ok (.if_icmp .gt 16, 3) := dko_163 (dk_t 8 128 [163, 0, 16, 21, 6, 133] dwX11_number_120 rfl rfl)
theorem dX11_number_131 : decode cX11_number 131 = .ok (.iload 6, 2) := dko_21 (dk_t 11 131 [21, 6, 133] dwX11_number_120 rfl rfl)
theorem dX11_number_133 : decode cX11_number 133 = .ok (.i2l, 1) := dko_133 (dk_t 13 133 [133] dwX11_number_120 rfl rfl)
theorem dwX11_number_134 : dkW cX11_number 134 [27, 133, 28, 133, 184, 0, 139, 154, 0, 11, 42, 21, 4] = true := by decide +kernel
theorem dX11_number_134 : decode cX11_number 134 = .ok (.iload_n 1, 1) := dko_27 dwX11_number_134
theorem dX11_number_135 : decode cX11_number 135 = .ok (.i2l, 1) := dko_133 (dk_t 1 135 [133, 28, 133, 184, 0, 139, 154, 0, 11, 42, 21, 4] dwX11_number_134 rfl rfl)
theorem dX11_number_136 : decode cX11_number 136 = .ok (.iload_n 2, 1) := dko_28 (dk_t 2 136 [28, 133, 184, 0, 139, 154, 0, 11, 42, 21, 4] dwX11_number_134 rfl rfl)
theorem dX11_number_137 : decode cX11_number 137 = .ok (.i2l, 1) := dko_133 (dk_t 3 137 [133, 184, 0, 139, 154, 0, 11, 42, 21, 4] dwX11_number_134 rfl rfl)
theorem dX11_number_138 : decode cX11_number 138 = .ok (.invokestatic 139, 3) := dko_184 (dk_t 4 138 [184, 0, 139, 154, 0, 11, 42, 21, 4] dwX11_number_134 rfl rfl)
theorem dX11_number_141 : decode cX11_number 141 = .ok (.ifCond .ne 11, 3) := dko_154 (dk_t 7 141 [154, 0, 11, 42, 21, 4] dwX11_number_134 rfl rfl)
theorem dX11_number_144 : decode cX11_number 144 = .ok (.aload_n 0, 1) := dko_42 (dk_t 10 144 [42, 21, 4] dwX11_number_134 rfl rfl)
theorem dX11_number_145 : decode cX11_number 145 = .ok (.iload 4, 2) := dko_21 (dk_t 11 145 [21, 4] dwX11_number_134 rfl rfl)
theorem dwX11_number_147 : dkW cX11_number 147 [182, 1, 23, 3, 172, 42, 21, 5, 181, 1, 0, 21, 6, 172] = true := by decide +kernel
theorem dX11_number_147 : decode cX11_number 147 = .ok (.invokevirtual 279, 3) := dko_182 dwX11_number_147
theorem dX11_number_150 : decode cX11_number 150 = .ok (.iconst 0, 1) := dko_3 (dk_t 3 150 [3, 172, 42, 21, 5, 181, 1, 0, 21, 6, 172] dwX11_number_147 rfl rfl)
theorem dX11_number_151 : decode cX11_number 151 = .ok (.ireturn, 1) := dko_172 (dk_t 4 151 [172, 42, 21, 5, 181, 1, 0, 21, 6, 172] dwX11_number_147 rfl rfl)
theorem dX11_number_152 : decode cX11_number 152 = .ok (.aload_n 0, 1) := dko_42 (dk_t 5 152 [42, 21, 5, 181, 1, 0, 21, 6, 172] dwX11_number_147 rfl rfl)
theorem dX11_number_153 : decode cX11_number 153 = .ok (.iload 5, 2) := dko_21 (dk_t 6 153 [21, 5, 181, 1, 0, 21, 6, 172] dwX11_number_147 rfl rfl)
theorem dX11_number_155 : decode cX11_number 155 = .ok (.putfield 256, 3) := dko_181 (dk_t 8 155 [181, 1, 0, 21, 6, 172] dwX11_number_147 rfl rfl)
theorem dX11_number_158 : decode cX11_number 158 = .ok (.iload 6, 2) := dko_21 (dk_t 11 158 [21, 6, 172] dwX11_number_147 rfl rfl)
theorem dX11_number_160 : decode cX11_number 160 = .ok (.ireturn, 1) := dko_172 (dk_t 13 160 [172] dwX11_number_147 rfl rfl)
theorem dwX11_kindHere_0 : dkW cX11_kindHere 0 [3, 60, 27, 8, 163, 0, 23, 42, 42, 27, 182, 0, 241] = true := by decide +kernel
theorem dX11_kindHere_0 : decode cX11_kindHere 0 = .ok (.iconst 0, 1) := dko_3 dwX11_kindHere_0
theorem dX11_kindHere_1 : decode cX11_kindHere 1 = .ok (.istore_n 1, 1) := dko_60 (dk_t 1 1 [60, 27, 8, 163, 0, 23, 42, 42, 27, 182, 0, 241] dwX11_kindHere_0 rfl rfl)
theorem dX11_kindHere_2 : decode cX11_kindHere 2 = .ok (.iload_n 1, 1) := dko_27 (dk_t 2 2 [27, 8, 163, 0, 23, 42, 42, 27, 182, 0, 241] dwX11_kindHere_0 rfl rfl)
theorem dX11_kindHere_3 : decode cX11_kindHere 3 = .ok (.iconst 5, 1) := dko_8 (dk_t 3 3 [8, 163, 0, 23, 42, 42, 27, 182, 0, 241] dwX11_kindHere_0 rfl rfl)
theorem dX11_kindHere_4 : decode cX11_kindHere 4 = .ok (.if_icmp .gt 23, 3) := dko_163 (dk_t 4 4 [163, 0, 23, 42, 42, 27, 182, 0, 241] dwX11_kindHere_0 rfl rfl)
theorem dX11_kindHere_7 : decode cX11_kindHere 7 = .ok (.aload_n 0, 1) := dko_42 (dk_t 7 7 [42, 42, 27, 182, 0, 241] dwX11_kindHere_0 rfl rfl)
theorem dX11_kindHere_8 : decode cX11_kindHere 8 = .ok (.aload_n 0, 1) := dko_42 (dk_t 8 8 [42, 27, 182, 0, 241] dwX11_kindHere_0 rfl rfl)
theorem dX11_kindHere_9 : decode cX11_kindHere 9 = .ok (.iload_n 1, 1) := dko_27 (dk_t 9 9 [27, 182, 0, 241] dwX11_kindHere_0 rfl rfl)
theorem dX11_kindHere_10 : decode cX11_kindHere 10 = .ok (.invokevirtual 241, 3) := dko_182 (dk_t 10 10 [182, 0, 241] dwX11_kindHere_0 rfl rfl)
theorem dwX11_kindHere_13 : dkW cX11_kindHere 13 [182, 1, 26, 153, 0, 5, 27, 172, 132, 1, 1, 167, 255, 234] = true := by decide +kernel
theorem dX11_kindHere_13 : decode cX11_kindHere 13 = .ok (.invokevirtual 282, 3) := dko_182 dwX11_kindHere_13
theorem dX11_kindHere_16 : decode cX11_kindHere 16 = .ok (.ifCond .eq 5, 3) := dko_153 (dk_t 3 16 [153, 0, 5, 27, 172, 132, 1, 1, 167, 255, 234] dwX11_kindHere_13 rfl rfl)
theorem dX11_kindHere_19 : decode cX11_kindHere 19 = .ok (.iload_n 1, 1) := dko_27 (dk_t 6 19 [27, 172, 132, 1, 1, 167, 255, 234] dwX11_kindHere_13 rfl rfl)
theorem dX11_kindHere_20 : decode cX11_kindHere 20 = .ok (.ireturn, 1) := dko_172 (dk_t 7 20 [172, 132, 1, 1, 167, 255, 234] dwX11_kindHere_13 rfl rfl)
theorem dX11_kindHere_21 : decode cX11_kindHere 21 = .ok (.iinc 1 1, 3) := dko_132 (dk_t 8 21 [132, 1, 1, 167, 255, 234] dwX11_kindHere_13 rfl rfl)
theorem dX11_kindHere_24 : decode cX11_kindHere 24 = .ok (.goto (-22), 3) := dko_167 (dk_t 11 24 [167, 255, 234] dwX11_kindHere_13 rfl rfl)
theorem dwX11_kindHere_27 : dkW cX11_kindHere 27 [42, 182, 1, 12, 87, 42, 42, 180, 1, 0, 182, 1, 23, 3] = true := by decide +kernel
theorem dX11_kindHere_27 : decode cX11_kindHere 27 = .ok (.aload_n 0, 1) := dko_42 dwX11_kindHere_27
theorem dX11_kindHere_28 : decode cX11_kindHere 28 = .ok (.invokevirtual 268, 3) := dko_182 (dk_t 1 28 [182, 1, 12, 87, 42, 42, 180, 1, 0, 182, 1, 23, 3] dwX11_kindHere_27 rfl rfl)
theorem dX11_kindHere_31 : decode cX11_kindHere 31 = .ok (.pop, 1) := dko_87 (dk_t 4 31 [87, 42, 42, 180, 1, 0, 182, 1, 23, 3] dwX11_kindHere_27 rfl rfl)
theorem dX11_kindHere_32 : decode cX11_kindHere 32 = .ok (.aload_n 0, 1) := dko_42 (dk_t 5 32 [42, 42, 180, 1, 0, 182, 1, 23, 3] dwX11_kindHere_27 rfl rfl)
theorem dX11_kindHere_33 : decode cX11_kindHere 33 = .ok (.aload_n 0, 1) := dko_42 (dk_t 6 33 [42, 180, 1, 0, 182, 1, 23, 3] dwX11_kindHere_27 rfl rfl)
theorem dX11_kindHere_34 : decode cX11_kindHere 34 = .ok (.getfield 256, 3) := dko_180 (dk_t 7 34 [180, 1, 0, 182, 1, 23, 3] dwX11_kindHere_27 rfl rfl)
theorem dX11_kindHere_37 : decode cX11_kindHere 37 = .ok (.invokevirtual 279, 3) := dko_182 (dk_t 10 37 [182, 1, 23, 3] dwX11_kindHere_27 rfl rfl)
theorem dX11_kindHere_40 : decode cX11_kindHere 40 = .ok (.iconst 0, 1) := dko_3 (dk_t 13 40 [3] dwX11_kindHere_27 rfl rfl)
theorem dwX11_kindHere_41 : dkW cX11_kindHere 41 [172] = true := by decide +kernel
theorem dX11_kindHere_41 : decode cX11_kindHere 41 = .ok (.ireturn, 1) := dko_172 dwX11_kindHere_41
theorem dwX11_read_0 : dkW cX11_read 0 [42, 3, 181, 1, 0, 42, 4, 181, 1, 6, 42, 182, 1, 30] = true := by decide +kernel
theorem dX11_read_0 : decode cX11_read 0 = .ok (.aload_n 0, 1) := dko_42 dwX11_read_0
theorem dX11_read_1 : decode cX11_read 1 = .ok (.iconst 0, 1) := dko_3 (dk_t 1 1 [3, 181, 1, 0, 42, 4, 181, 1, 6, 42, 182, 1, 30] dwX11_read_0 rfl rfl)
theorem dX11_read_2 : decode cX11_read 2 = .ok (.putfield 256, 3) := dko_181 (dk_t 2 2 [181, 1, 0, 42, 4, 181, 1, 6, 42, 182, 1, 30] dwX11_read_0 rfl rfl)
theorem dX11_read_5 : decode cX11_read 5 = .ok (.aload_n 0, 1) := dko_42 (dk_t 5 5 [42, 4, 181, 1, 6, 42, 182, 1, 30] dwX11_read_0 rfl rfl)
theorem dX11_read_6 : decode cX11_read 6 = .ok (.iconst 1, 1) := dko_4 (dk_t 6 6 [4, 181, 1, 6, 42, 182, 1, 30] dwX11_read_0 rfl rfl)
theorem dX11_read_7 : decode cX11_read 7 = .ok (.putfield 262, 3) := dko_181 (dk_t 7 7 [181, 1, 6, 42, 182, 1, 30] dwX11_read_0 rfl rfl)
theorem dX11_read_10 : decode cX11_read 10 = .ok (.aload_n 0, 1) := dko_42 (dk_t 10 10 [42, 182, 1, 30] dwX11_read_0 rfl rfl)
theorem dX11_read_11 : decode cX11_read 11 = .ok (.invokevirtual 286, 3) := dko_182 (dk_t 11 11 [182, 1, 30] dwX11_read_0 rfl rfl)
theorem dwX11_read_14 : dkW cX11_read 14 [60, 42, 180, 0, 106, 3, 27, 79, 42, 180, 0, 106, 4, 42] = true := by decide +kernel
theorem dX11_read_14 : decode cX11_read 14 = .ok (.istore_n 1, 1) := dko_60 dwX11_read_14
theorem dX11_read_15 : decode cX11_read 15 = .ok (.aload_n 0, 1) := dko_42 (dk_t 1 15 [42, 180, 0, 106, 3, 27, 79, 42, 180, 0, 106, 4, 42] dwX11_read_14 rfl rfl)
theorem dX11_read_16 : decode cX11_read 16 = .ok (.getfield 106, 3) := dko_180 (dk_t 2 16 [180, 0, 106, 3, 27, 79, 42, 180, 0, 106, 4, 42] dwX11_read_14 rfl rfl)
theorem dX11_read_19 : decode cX11_read 19 = .ok (.iconst 0, 1) := dko_3 (dk_t 5 19 [3, 27, 79, 42, 180, 0, 106, 4, 42] dwX11_read_14 rfl rfl)
theorem dX11_read_20 : decode cX11_read 20 = .ok (.iload_n 1, 1) := dko_27 (dk_t 6 20 [27, 79, 42, 180, 0, 106, 4, 42] dwX11_read_14 rfl rfl)
theorem dX11_read_21 : decode cX11_read 21 = .ok (.iastore, 1) := dko_79 (dk_t 7 21 [79, 42, 180, 0, 106, 4, 42] dwX11_read_14 rfl rfl)
theorem dX11_read_22 : decode cX11_read 22 = .ok (.aload_n 0, 1) := dko_42 (dk_t 8 22 [42, 180, 0, 106, 4, 42] dwX11_read_14 rfl rfl)
theorem dX11_read_23 : decode cX11_read 23 = .ok (.getfield 106, 3) := dko_180 (dk_t 9 23 [180, 0, 106, 4, 42] dwX11_read_14 rfl rfl)
theorem dX11_read_26 : decode cX11_read 26 = .ok (.iconst 1, 1) := dko_4 (dk_t 12 26 [4, 42] dwX11_read_14 rfl rfl)
theorem dX11_read_27 : decode cX11_read 27 = .ok (.aload_n 0, 1) := dko_42 (dk_t 13 27 [42] dwX11_read_14 rfl rfl)
theorem dwX11_read_28 : dkW cX11_read 28 [3, 5, 182, 1, 33, 79, 42, 180, 0, 106, 5, 42, 3, 5] = true := by decide +kernel
theorem dX11_read_28 : decode cX11_read 28 = .ok (.iconst 0, 1) := dko_3 dwX11_read_28
theorem dX11_read_29 : decode cX11_read 29 = .ok (.iconst 2, 1) := dko_5 (dk_t 1 29 [5, 182, 1, 33, 79, 42, 180, 0, 106, 5, 42, 3, 5] dwX11_read_28 rfl rfl)
theorem dX11_read_30 : decode cX11_read 30 = .ok (.invokevirtual 289, 3) := dko_182 (dk_t 2 30 [182, 1, 33, 79, 42, 180, 0, 106, 5, 42, 3, 5] dwX11_read_28 rfl rfl)
theorem dX11_read_33 : decode cX11_read 33 = .ok (.iastore, 1) := dko_79 (dk_t 5 33 [79, 42, 180, 0, 106, 5, 42, 3, 5] dwX11_read_28 rfl rfl)
theorem dX11_read_34 : decode cX11_read 34 = .ok (.aload_n 0, 1) := dko_42 (dk_t 6 34 [42, 180, 0, 106, 5, 42, 3, 5] dwX11_read_28 rfl rfl)
theorem dX11_read_35 : decode cX11_read 35 = .ok (.getfield 106, 3) := dko_180 (dk_t 7 35 [180, 0, 106, 5, 42, 3, 5] dwX11_read_28 rfl rfl)
theorem dX11_read_38 : decode cX11_read 38 = .ok (.iconst 2, 1) := dko_5 (dk_t 10 38 [5, 42, 3, 5] dwX11_read_28 rfl rfl)
theorem dX11_read_39 : decode cX11_read 39 = .ok (.aload_n 0, 1) := dko_42 (dk_t 11 39 [42, 3, 5] dwX11_read_28 rfl rfl)
theorem dX11_read_40 : decode cX11_read 40 = .ok (.iconst 0, 1) := dko_3 (dk_t 12 40 [3, 5] dwX11_read_28 rfl rfl)
theorem dX11_read_41 : decode cX11_read 41 = .ok (.iconst 2, 1) := dko_5 (dk_t 13 41 [5] dwX11_read_28 rfl rfl)
theorem dwX11_read_42 : dkW cX11_read 42 [182, 1, 33, 79, 42, 180, 0, 106, 6, 27, 4, 159, 0, 13] = true := by decide +kernel
theorem dX11_read_42 : decode cX11_read 42 = .ok (.invokevirtual 289, 3) := dko_182 dwX11_read_42
theorem dX11_read_45 : decode cX11_read 45 = .ok (.iastore, 1) := dko_79 (dk_t 3 45 [79, 42, 180, 0, 106, 6, 27, 4, 159, 0, 13] dwX11_read_42 rfl rfl)
theorem dX11_read_46 : decode cX11_read 46 = .ok (.aload_n 0, 1) := dko_42 (dk_t 4 46 [42, 180, 0, 106, 6, 27, 4, 159, 0, 13] dwX11_read_42 rfl rfl)
theorem dX11_read_47 : decode cX11_read 47 = .ok (.getfield 106, 3) := dko_180 (dk_t 5 47 [180, 0, 106, 6, 27, 4, 159, 0, 13] dwX11_read_42 rfl rfl)
theorem dX11_read_50 : decode cX11_read 50 = .ok (.iconst 3, 1) := dko_6 (dk_t 8 50 [6, 27, 4, 159, 0, 13] dwX11_read_42 rfl rfl)
theorem dX11_read_51 : decode cX11_read 51 = .ok (.iload_n 1, 1) := dko_27 (dk_t 9 51 [27, 4, 159, 0, 13] dwX11_read_42 rfl rfl)
theorem dX11_read_52 : decode cX11_read 52 = .ok (.iconst 1, 1) := dko_4 (dk_t 10 52 [4, 159, 0, 13] dwX11_read_42 rfl rfl)
theorem dX11_read_53 : decode cX11_read 53 = .ok (.if_icmp .eq 13, 3) := dko_159 (dk_t 11 53 [159, 0, 13] dwX11_read_42 rfl rfl)
theorem dwX11_read_56 : dkW cX11_read 56 [27, 6, 159, 0, 8, 27, 7, 160, 0, 12, 42, 3, 5] = true := by decide +kernel
theorem dX11_read_56 : decode cX11_read 56 = .ok (.iload_n 1, 1) := dko_27 dwX11_read_56
theorem dX11_read_57 : decode cX11_read 57 = .ok (.iconst 3, 1) := dko_6 (dk_t 1 57 [6, 159, 0, 8, 27, 7, 160, 0, 12, 42, 3, 5] dwX11_read_56 rfl rfl)
theorem dX11_read_58 : decode cX11_read 58 = .ok (.if_icmp .eq 8, 3) := dko_159 (dk_t 2 58 [159, 0, 8, 27, 7, 160, 0, 12, 42, 3, 5] dwX11_read_56 rfl rfl)
theorem dX11_read_61 : decode cX11_read 61 = .ok (.iload_n 1, 1) := dko_27 (dk_t 5 61 [27, 7, 160, 0, 12, 42, 3, 5] dwX11_read_56 rfl rfl)
theorem dX11_read_62 : decode cX11_read 62 = .ok (.iconst 4, 1) := dko_7 (dk_t 6 62 [7, 160, 0, 12, 42, 3, 5] dwX11_read_56 rfl rfl)
theorem dX11_read_63 : decode cX11_read 63 = .ok (.if_icmp .ne 12, 3) := dko_160 (dk_t 7 63 [160, 0, 12, 42, 3, 5] dwX11_read_56 rfl rfl)
theorem dX11_read_66 : decode cX11_read 66 = .ok (.aload_n 0, 1) := dko_42 (dk_t 10 66 [42, 3, 5] dwX11_read_56 rfl rfl)
theorem dX11_read_67 : decode cX11_read 67 = .ok (.iconst 0, 1) := dko_3 (dk_t 11 67 [3, 5] dwX11_read_56 rfl rfl)
theorem dX11_read_68 : decode cX11_read 68 = .ok (.iconst 2, 1) := dko_5 (dk_t 12 68 [5] dwX11_read_56 rfl rfl)
theorem dwX11_read_69 : dkW cX11_read 69 [182, 1, 33, 167, 0, 4, 2, 79, 27, 5, 159, 0, 13, 27] = true := by decide +kernel
theorem dX11_read_69 : decode cX11_read 69 = .ok (.invokevirtual 289, 3) := dko_182 dwX11_read_69
theorem dX11_read_72 : decode cX11_read 72 = .ok (.goto 4, 3) := dko_167 (dk_t 3 72 [167, 0, 4, 2, 79, 27, 5, 159, 0, 13, 27] dwX11_read_69 rfl rfl)
theorem dX11_read_75 : decode cX11_read 75 = .ok (.iconst (-1), 1) := dko_2 (dk_t 6 75 [2, 79, 27, 5, 159, 0, 13, 27] dwX11_read_69 rfl rfl)
theorem dX11_read_76 : decode cX11_read 76 = .ok (.iastore, 1) := dko_79 (dk_t 7 76 [79, 27, 5, 159, 0, 13, 27] dwX11_read_69 rfl rfl)
theorem dX11_read_77 : decode cX11_read 77 = .ok (.iload_n 1, 1) := dko_27 (dk_t 8 77 [27, 5, 159, 0, 13, 27] dwX11_read_69 rfl rfl)
theorem dX11_read_78 : decode cX11_read 78 = .ok (.iconst 2, 1) := dko_5 (dk_t 9 78 [5, 159, 0, 13, 27] dwX11_read_69 rfl rfl)
theorem dX11_read_79 : decode cX11_read 79 = .ok (.if_icmp .eq 13, 3) := dko_159 (dk_t 10 79 [159, 0, 13, 27] dwX11_read_69 rfl rfl)
theorem dX11_read_82 : decode cX11_read 82 = .ok (.iload_n 1, 1) := dko_27 (dk_t 13 82 [27] dwX11_read_69 rfl rfl)
theorem dwX11_read_83 : dkW cX11_read 83 [6, 159, 0, 8, 27, 7, 160, 0, 7, 4, 167, 0, 4, 3] = true := by decide +kernel
theorem dX11_read_83 : decode cX11_read 83 = .ok (.iconst 3, 1) := dko_6 dwX11_read_83
theorem dX11_read_84 : decode cX11_read 84 = .ok (.if_icmp .eq 8, 3) := dko_159 (dk_t 1 84 [159, 0, 8, 27, 7, 160, 0, 7, 4, 167, 0, 4, 3] dwX11_read_83 rfl rfl)
theorem dX11_read_87 : decode cX11_read 87 = .ok (.iload_n 1, 1) := dko_27 (dk_t 4 87 [27, 7, 160, 0, 7, 4, 167, 0, 4, 3] dwX11_read_83 rfl rfl)
theorem dX11_read_88 : decode cX11_read 88 = .ok (.iconst 4, 1) := dko_7 (dk_t 5 88 [7, 160, 0, 7, 4, 167, 0, 4, 3] dwX11_read_83 rfl rfl)
theorem dX11_read_89 : decode cX11_read 89 = .ok (.if_icmp .ne 7, 3) := dko_160 (dk_t 6 89 [160, 0, 7, 4, 167, 0, 4, 3] dwX11_read_83 rfl rfl)
theorem dX11_read_92 : decode cX11_read 92 = .ok (.iconst 1, 1) := dko_4 (dk_t 9 92 [4, 167, 0, 4, 3] dwX11_read_83 rfl rfl)
theorem dX11_read_93 : decode cX11_read 93 = .ok (.goto 4, 3) := dko_167 (dk_t 10 93 [167, 0, 4, 3] dwX11_read_83 rfl rfl)
theorem dX11_read_96 : decode cX11_read 96 = .ok (.iconst 0, 1) := dko_3 (dk_t 13 96 [3] dwX11_read_83 rfl rfl)
theorem dwX11_read_97 : dkW cX11_read 97 [61, 42, 180, 0, 106, 7, 28, 153, 0, 16, 42, 17, 216, 241] = true := by decide +kernel
theorem dX11_read_97 : decode cX11_read 97 = .ok (.istore_n 2, 1) := dko_61 dwX11_read_97
theorem dX11_read_98 : decode cX11_read 98 = .ok (.aload_n 0, 1) := dko_42 (dk_t 1 98 [42, 180, 0, 106, 7, 28, 153, 0, 16, 42, 17, 216, 241] dwX11_read_97 rfl rfl)
theorem dX11_read_99 : decode cX11_read 99 = .ok (.getfield 106, 3) := dko_180 (dk_t 2 99 [180, 0, 106, 7, 28, 153, 0, 16, 42, 17, 216, 241] dwX11_read_97 rfl rfl)
theorem dX11_read_102 : decode cX11_read 102 = .ok (.iconst 4, 1) := dko_7 (dk_t 5 102 [7, 28, 153, 0, 16, 42, 17, 216, 241] dwX11_read_97 rfl rfl)
theorem dX11_read_103 : decode cX11_read 103 = .ok (.iload_n 2, 1) := dko_28 (dk_t 6 103 [28, 153, 0, 16, 42, 17, 216, 241] dwX11_read_97 rfl rfl)
theorem dX11_read_104 : decode cX11_read 104 = .ok (.ifCond .eq 16, 3) := dko_153 (dk_t 7 104 [153, 0, 16, 42, 17, 216, 241] dwX11_read_97 rfl rfl)
theorem dX11_read_107 : decode cX11_read 107 = .ok (.aload_n 0, 1) := dko_42 (dk_t 10 107 [42, 17, 216, 241] dwX11_read_97 rfl rfl)
theorem dX11_read_108 : decode cX11_read 108 = .ok (.sipush (-9999), 3) := dko_17 (dk_t 11 108 [17, 216, 241] dwX11_read_97 rfl rfl)
theorem dwX11_read_111 : dkW cX11_read 111 [17, 39, 15, 182, 1, 33, 167, 0, 4, 3, 79, 42] = true := by decide +kernel
theorem dX11_read_111 : decode cX11_read 111 = .ok (.sipush 9999, 3) := dko_17 dwX11_read_111
theorem dX11_read_114 : decode cX11_read 114 = .ok (.invokevirtual 289, 3) := dko_182 (dk_t 3 114 [182, 1, 33, 167, 0, 4, 3, 79, 42] dwX11_read_111 rfl rfl)
theorem dX11_read_117 : decode cX11_read 117 = .ok (.goto 4, 3) := dko_167 (dk_t 6 117 [167, 0, 4, 3, 79, 42] dwX11_read_111 rfl rfl)
theorem dX11_read_120 : decode cX11_read 120 = .ok (.iconst 0, 1) := dko_3 (dk_t 9 120 [3, 79, 42] dwX11_read_111 rfl rfl)
theorem dX11_read_121 : decode cX11_read 121 = .ok (.iastore, 1) := dko_79 (dk_t 10 121 [79, 42] dwX11_read_111 rfl rfl)
theorem dX11_read_122 : decode cX11_read 122 = .ok (.aload_n 0, 1) := dko_42 (dk_t 11 122 [42] dwX11_read_111 rfl rfl)
theorem dwX11_read_123 : dkW cX11_read 123 [180, 0, 106, 8, 28, 153, 0, 19, 42, 42, 180, 0, 106, 7] = true := by decide +kernel
theorem dX11_read_123 : decode cX11_read 123 = .ok (.getfield 106, 3) := dko_180 dwX11_read_123
theorem dX11_read_126 : decode cX11_read 126 = .ok (.iconst 5, 1) := dko_8 (dk_t 3 126 [8, 28, 153, 0, 19, 42, 42, 180, 0, 106, 7] dwX11_read_123 rfl rfl)
theorem dX11_read_127 : decode cX11_read 127 = .ok (.iload_n 2, 1) := dko_28 (dk_t 4 127 [28, 153, 0, 19, 42, 42, 180, 0, 106, 7] dwX11_read_123 rfl rfl)
theorem dX11_read_128 : decode cX11_read 128 = .ok (.ifCond .eq 19, 3) := dko_153 (dk_t 5 128 [153, 0, 19, 42, 42, 180, 0, 106, 7] dwX11_read_123 rfl rfl)
theorem dX11_read_131 : decode cX11_read 131 = .ok (.aload_n 0, 1) := dko_42 (dk_t 8 131 [42, 42, 180, 0, 106, 7] dwX11_read_123 rfl rfl)
theorem dX11_read_132 : decode cX11_read 132 = .ok (.aload_n 0, 1) := dko_42 (dk_t 9 132 [42, 180, 0, 106, 7] dwX11_read_123 rfl rfl)
theorem dX11_read_133 : decode cX11_read 133 = .ok (.getfield 106, 3) := dko_180 (dk_t 10 133 [180, 0, 106, 7] dwX11_read_123 rfl rfl)
theorem dX11_read_136 : decode cX11_read 136 = .ok (.iconst 4, 1) := dko_7 (dk_t 13 136 [7] dwX11_read_123 rfl rfl)
theorem dwX11_read_137 : dkW cX11_read 137 [46, 17, 39, 15, 182, 1, 33, 167, 0, 4, 3, 79, 42] = true := by decide +kernel
theorem dX11_read_137 : decode cX11_read 137 = .ok (.iaload, 1) := dko_46 dwX11_read_137
theorem dX11_read_138 : decode cX11_read 138 = .ok (.sipush 9999, 3) := dko_17 (dk_t 1 138 [17, 39, 15, 182, 1, 33, 167, 0, 4, 3, 79, 42] dwX11_read_137 rfl rfl)
theorem dX11_read_141 : decode cX11_read 141 = .ok (.invokevirtual 289, 3) := dko_182 (dk_t 4 141 [182, 1, 33, 167, 0, 4, 3, 79, 42] dwX11_read_137 rfl rfl)
theorem dX11_read_144 : decode cX11_read 144 = .ok (.goto 4, 3) := dko_167 (dk_t 7 144 [167, 0, 4, 3, 79, 42] dwX11_read_137 rfl rfl)
theorem dX11_read_147 : decode cX11_read 147 = .ok (.iconst 0, 1) := dko_3 (dk_t 10 147 [3, 79, 42] dwX11_read_137 rfl rfl)
theorem dX11_read_148 : decode cX11_read 148 = .ok (.iastore, 1) := dko_79 (dk_t 11 148 [79, 42] dwX11_read_137 rfl rfl)
theorem dX11_read_149 : decode cX11_read 149 = .ok (.aload_n 0, 1) := dko_42 (dk_t 12 149 [42] dwX11_read_137 rfl rfl)
theorem dwX11_read_150 : dkW cX11_read 150 [180, 0, 106, 16, 8, 27, 4, 159, 0, 7, 3, 167, 0, 34] = true := by decide +kernel
theorem dX11_read_150 : decode cX11_read 150 = .ok (.getfield 106, 3) := dko_180 dwX11_read_150
theorem dX11_read_153 : decode cX11_read 153 = .ok (.bipush 8, 2) := dko_16 (dk_t 3 153 [16, 8, 27, 4, 159, 0, 7, 3, 167, 0, 34] dwX11_read_150 rfl rfl)
theorem dX11_read_155 : decode cX11_read 155 = .ok (.iload_n 1, 1) := dko_27 (dk_t 5 155 [27, 4, 159, 0, 7, 3, 167, 0, 34] dwX11_read_150 rfl rfl)
theorem dX11_read_156 : decode cX11_read 156 = .ok (.iconst 1, 1) := dko_4 (dk_t 6 156 [4, 159, 0, 7, 3, 167, 0, 34] dwX11_read_150 rfl rfl)
theorem dX11_read_157 : decode cX11_read 157 = .ok (.if_icmp .eq 7, 3) := dko_159 (dk_t 7 157 [159, 0, 7, 3, 167, 0, 34] dwX11_read_150 rfl rfl)
theorem dX11_read_160 : decode cX11_read 160 = .ok (.iconst 0, 1) := dko_3 (dk_t 10 160 [3, 167, 0, 34] dwX11_read_150 rfl rfl)
theorem dX11_read_161 : decode cX11_read 161 = .ok (.goto 34, 3) := dko_167 (dk_t 11 161 [167, 0, 34] dwX11_read_150 rfl rfl)
theorem dwX11_read_164 : dkW cX11_read 164 [42, 42, 180, 0, 91, 182, 1, 26, 153, 0, 7, 4] = true := by decide +kernel
theorem dX11_read_164 : decode cX11_read 164 = .ok (.aload_n 0, 1) := dko_42 dwX11_read_164
theorem dX11_read_165 : decode cX11_read 165 = .ok (.aload_n 0, 1) := dko_42 (dk_t 1 165 [42, 180, 0, 91, 182, 1, 26, 153, 0, 7, 4] dwX11_read_164 rfl rfl)
theorem dX11_read_166 : decode cX11_read 166 = .ok (.getfield 91, 3) := dko_180 (dk_t 2 166 [180, 0, 91, 182, 1, 26, 153, 0, 7, 4] dwX11_read_164 rfl rfl)
theorem dX11_read_169 : decode cX11_read 169 = .ok (.invokevirtual 282, 3) := dko_182 (dk_t 5 169 [182, 1, 26, 153, 0, 7, 4] dwX11_read_164 rfl rfl)
theorem dX11_read_172 : decode cX11_read 172 = .ok (.ifCond .eq 7, 3) := dko_153 (dk_t 8 172 [153, 0, 7, 4] dwX11_read_164 rfl rfl)
theorem dX11_read_175 : decode cX11_read 175 = .ok (.iconst 1, 1) := dko_4 (dk_t 11 175 [4] dwX11_read_164 rfl rfl)
theorem dwX11_read_176 : dkW cX11_read 176 [167, 0, 19, 42, 42, 180, 0, 94, 182, 1, 26, 153, 0, 7] = true := by decide +kernel
theorem dX11_read_176 : decode cX11_read 176 = .ok (.goto 19, 3) := dko_167 dwX11_read_176
theorem dX11_read_179 : decode cX11_read 179 = .ok (.aload_n 0, 1) := dko_42 (dk_t 3 179 [42, 42, 180, 0, 94, 182, 1, 26, 153, 0, 7] dwX11_read_176 rfl rfl)
theorem dX11_read_180 : decode cX11_read 180 = .ok (.aload_n 0, 1) := dko_42 (dk_t 4 180 [42, 180, 0, 94, 182, 1, 26, 153, 0, 7] dwX11_read_176 rfl rfl)
theorem dX11_read_181 : decode cX11_read 181 = .ok (.getfield 94, 3) := dko_180 (dk_t 5 181 [180, 0, 94, 182, 1, 26, 153, 0, 7] dwX11_read_176 rfl rfl)
theorem dX11_read_184 : decode cX11_read 184 = .ok (.invokevirtual 282, 3) := dko_182 (dk_t 8 184 [182, 1, 26, 153, 0, 7] dwX11_read_176 rfl rfl)
theorem dX11_read_187 : decode cX11_read 187 = .ok (.ifCond .eq 7, 3) := dko_153 (dk_t 11 187 [153, 0, 7] dwX11_read_176 rfl rfl)
theorem dwX11_read_190 : dkW cX11_read 190 [5, 167, 0, 4, 3, 79, 42, 180, 0, 106, 16, 6, 42, 42] = true := by decide +kernel
theorem dX11_read_190 : decode cX11_read 190 = .ok (.iconst 2, 1) := dko_5 dwX11_read_190
theorem dX11_read_191 : decode cX11_read 191 = .ok (.goto 4, 3) := dko_167 (dk_t 1 191 [167, 0, 4, 3, 79, 42, 180, 0, 106, 16, 6, 42, 42] dwX11_read_190 rfl rfl)
theorem dX11_read_194 : decode cX11_read 194 = .ok (.iconst 0, 1) := dko_3 (dk_t 4 194 [3, 79, 42, 180, 0, 106, 16, 6, 42, 42] dwX11_read_190 rfl rfl)
theorem dX11_read_195 : decode cX11_read 195 = .ok (.iastore, 1) := dko_79 (dk_t 5 195 [79, 42, 180, 0, 106, 16, 6, 42, 42] dwX11_read_190 rfl rfl)
theorem dX11_read_196 : decode cX11_read 196 = .ok (.aload_n 0, 1) := dko_42 (dk_t 6 196 [42, 180, 0, 106, 16, 6, 42, 42] dwX11_read_190 rfl rfl)
theorem dX11_read_197 : decode cX11_read 197 = .ok (.getfield 106, 3) := dko_180 (dk_t 7 197 [180, 0, 106, 16, 6, 42, 42] dwX11_read_190 rfl rfl)
theorem dX11_read_200 : decode cX11_read 200 = .ok (.bipush 6, 2) := dko_16 (dk_t 10 200 [16, 6, 42, 42] dwX11_read_190 rfl rfl)
theorem dX11_read_202 : decode cX11_read 202 = .ok (.aload_n 0, 1) := dko_42 (dk_t 12 202 [42, 42] dwX11_read_190 rfl rfl)
theorem dX11_read_203 : decode cX11_read 203 = .ok (.aload_n 0, 1) := dko_42 (dk_t 13 203 [42] dwX11_read_190 rfl rfl)
theorem dwX11_read_204 : dkW cX11_read 204 [180, 0, 97, 182, 1, 26, 153, 0, 7, 4, 167, 0, 4, 3] = true := by decide +kernel
theorem dX11_read_204 : decode cX11_read 204 = .ok (.getfield 97, 3) := dko_180 dwX11_read_204
theorem dX11_read_207 : decode cX11_read 207 = .ok (.invokevirtual 282, 3) := dko_182 (dk_t 3 207 [182, 1, 26, 153, 0, 7, 4, 167, 0, 4, 3] dwX11_read_204 rfl rfl)
theorem dX11_read_210 : decode cX11_read 210 = .ok (.ifCond .eq 7, 3) := dko_153 (dk_t 6 210 [153, 0, 7, 4, 167, 0, 4, 3] dwX11_read_204 rfl rfl)
theorem dX11_read_213 : decode cX11_read 213 = .ok (.iconst 1, 1) := dko_4 (dk_t 9 213 [4, 167, 0, 4, 3] dwX11_read_204 rfl rfl)
theorem dX11_read_214 : decode cX11_read 214 = .ok (.goto 4, 3) := dko_167 (dk_t 10 214 [167, 0, 4, 3] dwX11_read_204 rfl rfl)
theorem dX11_read_217 : decode cX11_read 217 = .ok (.iconst 0, 1) := dko_3 (dk_t 13 217 [3] dwX11_read_204 rfl rfl)
theorem dwX11_read_218 : dkW cX11_read 218 [79, 42, 180, 0, 106, 16, 7, 42, 42, 180, 0, 100] = true := by decide +kernel
theorem dX11_read_218 : decode cX11_read 218 = .ok (.iastore, 1) := dko_79 dwX11_read_218
theorem dX11_read_219 : decode cX11_read 219 = .ok (.aload_n 0, 1) := dko_42 (dk_t 1 219 [42, 180, 0, 106, 16, 7, 42, 42, 180, 0, 100] dwX11_read_218 rfl rfl)
theorem dX11_read_220 : decode cX11_read 220 = .ok (.getfield 106, 3) := dko_180 (dk_t 2 220 [180, 0, 106, 16, 7, 42, 42, 180, 0, 100] dwX11_read_218 rfl rfl)
theorem dX11_read_223 : decode cX11_read 223 = .ok (.bipush 7, 2) := dko_16 (dk_t 5 223 [16, 7, 42, 42, 180, 0, 100] dwX11_read_218 rfl rfl)
theorem dX11_read_225 : decode cX11_read 225 = .ok (.aload_n 0, 1) := dko_42 (dk_t 7 225 [42, 42, 180, 0, 100] dwX11_read_218 rfl rfl)
theorem dX11_read_226 : decode cX11_read 226 = .ok (.aload_n 0, 1) := dko_42 (dk_t 8 226 [42, 180, 0, 100] dwX11_read_218 rfl rfl)
theorem dX11_read_227 : decode cX11_read 227 = .ok (.getfield 100, 3) := dko_180 (dk_t 9 227 [180, 0, 100] dwX11_read_218 rfl rfl)
theorem dwX11_read_230 : dkW cX11_read 230 [182, 1, 26, 153, 0, 13, 42, 3, 16, 99, 182, 1, 33] = true := by decide +kernel
theorem dX11_read_230 : decode cX11_read 230 = .ok (.invokevirtual 282, 3) := dko_182 dwX11_read_230
theorem dX11_read_233 : decode cX11_read 233 = .ok (.ifCond .eq 13, 3) := dko_153 (dk_t 3 233 [153, 0, 13, 42, 3, 16, 99, 182, 1, 33] dwX11_read_230 rfl rfl)
theorem dX11_read_236 : decode cX11_read 236 = .ok (.aload_n 0, 1) := dko_42 (dk_t 6 236 [42, 3, 16, 99, 182, 1, 33] dwX11_read_230 rfl rfl)
theorem dX11_read_237 : decode cX11_read 237 = .ok (.iconst 0, 1) := dko_3 (dk_t 7 237 [3, 16, 99, 182, 1, 33] dwX11_read_230 rfl rfl)
theorem dX11_read_238 : decode cX11_read 238 = .ok (.bipush 99, 2) := dko_16 (dk_t 8 238 [16, 99, 182, 1, 33] dwX11_read_230 rfl rfl)
theorem dX11_read_240 : decode cX11_read 240 = .ok (.invokevirtual 289, 3) := dko_182 (dk_t 10 240 [182, 1, 33] dwX11_read_230 rfl rfl)
theorem dwX11_read_243 : dkW cX11_read 243 [167, 0, 5, 16, 50, 79, 42, 182, 1, 12, 87, 42] = true := by decide +kernel
theorem dX11_read_243 : decode cX11_read 243 = .ok (.goto 5, 3) := dko_167 dwX11_read_243
theorem dX11_read_246 : decode cX11_read 246 = .ok (.bipush 50, 2) := dko_16 (dk_t 3 246 [16, 50, 79, 42, 182, 1, 12, 87, 42] dwX11_read_243 rfl rfl)
theorem dX11_read_248 : decode cX11_read 248 = .ok (.iastore, 1) := dko_79 (dk_t 5 248 [79, 42, 182, 1, 12, 87, 42] dwX11_read_243 rfl rfl)
theorem dX11_read_249 : decode cX11_read 249 = .ok (.aload_n 0, 1) := dko_42 (dk_t 6 249 [42, 182, 1, 12, 87, 42] dwX11_read_243 rfl rfl)
theorem dX11_read_250 : decode cX11_read 250 = .ok (.invokevirtual 268, 3) := dko_182 (dk_t 7 250 [182, 1, 12, 87, 42] dwX11_read_243 rfl rfl)
theorem dX11_read_253 : decode cX11_read 253 = .ok (.pop, 1) := dko_87 (dk_t 10 253 [87, 42] dwX11_read_243 rfl rfl)
theorem dX11_read_254 : decode cX11_read 254 = .ok (.aload_n 0, 1) := dko_42 (dk_t 11 254 [42] dwX11_read_243 rfl rfl)
theorem dwX11_read_255 : dkW cX11_read 255 [180, 1, 0, 42, 180, 0, 245, 162, 0, 11, 42, 42] = true := by decide +kernel
theorem dX11_read_255 : decode cX11_read 255 = .ok (.getfield 256, 3) := dko_180 dwX11_read_255
theorem dX11_read_258 : decode cX11_read 258 = .ok (.aload_n 0, 1) := dko_42 (dk_t 3 258 [42, 180, 0, 245, 162, 0, 11, 42, 42] dwX11_read_255 rfl rfl)
theorem dX11_read_259 : decode cX11_read 259 = .ok (.getfield 245, 3) := dko_180 (dk_t 4 259 [180, 0, 245, 162, 0, 11, 42, 42] dwX11_read_255 rfl rfl)
theorem dX11_read_262 : decode cX11_read 262 = .ok (.if_icmp .ge 11, 3) := dko_162 (dk_t 7 262 [162, 0, 11, 42, 42] dwX11_read_255 rfl rfl)
theorem dX11_read_265 : decode cX11_read 265 = .ok (.aload_n 0, 1) := dko_42 (dk_t 10 265 [42, 42] dwX11_read_255 rfl rfl)
theorem dX11_read_266 : decode cX11_read 266 = .ok (.aload_n 0, 1) := dko_42 (dk_t 11 266 [42] dwX11_read_255 rfl rfl)
theorem dwX11_read_267 : dkW cX11_read 267 [180, 1, 0, 182, 1, 23, 42, 180, 1, 6, 172] = true := by decide +kernel
theorem dX11_read_267 : decode cX11_read 267 = .ok (.getfield 256, 3) := dko_180 dwX11_read_267
theorem dX11_read_270 : decode cX11_read 270 = .ok (.invokevirtual 279, 3) := dko_182 (dk_t 3 270 [182, 1, 23, 42, 180, 1, 6, 172] dwX11_read_267 rfl rfl)
theorem dX11_read_273 : decode cX11_read 273 = .ok (.aload_n 0, 1) := dko_42 (dk_t 6 273 [42, 180, 1, 6, 172] dwX11_read_267 rfl rfl)
theorem dX11_read_274 : decode cX11_read 274 = .ok (.getfield 262, 3) := dko_180 (dk_t 7 274 [180, 1, 6, 172] dwX11_read_267 rfl rfl)
theorem dX11_read_277 : decode cX11_read 277 = .ok (.ireturn, 1) := dko_172 (dk_t 10 277 [172] dwX11_read_267 rfl rfl)
theorem dwX11_freeRule_0 : dkW cX11_freeRule 0 [3, 60, 27, 16, 12, 162, 0, 17, 42, 27, 182, 0, 162] = true := by decide +kernel
theorem dX11_freeRule_0 : decode cX11_freeRule 0 = .ok (.iconst 0, 1) := dko_3 dwX11_freeRule_0
theorem dX11_freeRule_1 : decode cX11_freeRule 1 = .ok (.istore_n 1, 1) := dko_60 (dk_t 1 1 [60, 27, 16, 12, 162, 0, 17, 42, 27, 182, 0, 162] dwX11_freeRule_0 rfl rfl)
theorem dX11_freeRule_2 : decode cX11_freeRule 2 = .ok (.iload_n 1, 1) := dko_27 (dk_t 2 2 [27, 16, 12, 162, 0, 17, 42, 27, 182, 0, 162] dwX11_freeRule_0 rfl rfl)
theorem dX11_freeRule_3 : decode cX11_freeRule 3 = .ok (.bipush 12, 2) := dko_16 (dk_t 3 3 [16, 12, 162, 0, 17, 42, 27, 182, 0, 162] dwX11_freeRule_0 rfl rfl)
theorem dX11_freeRule_5 : decode cX11_freeRule 5 = .ok (.if_icmp .ge 17, 3) := dko_162 (dk_t 5 5 [162, 0, 17, 42, 27, 182, 0, 162] dwX11_freeRule_0 rfl rfl)
theorem dX11_freeRule_8 : decode cX11_freeRule 8 = .ok (.aload_n 0, 1) := dko_42 (dk_t 8 8 [42, 27, 182, 0, 162] dwX11_freeRule_0 rfl rfl)
theorem dX11_freeRule_9 : decode cX11_freeRule 9 = .ok (.iload_n 1, 1) := dko_27 (dk_t 9 9 [27, 182, 0, 162] dwX11_freeRule_0 rfl rfl)
theorem dX11_freeRule_10 : decode cX11_freeRule 10 = .ok (.invokevirtual 162, 3) := dko_182 (dk_t 10 10 [182, 0, 162] dwX11_freeRule_0 rfl rfl)
theorem dwX11_freeRule_13 : dkW cX11_freeRule 13 [153, 0, 9, 132, 1, 1, 167, 255, 239, 27, 172] = true := by decide +kernel
theorem dX11_freeRule_13 : decode cX11_freeRule 13 = .ok (.ifCond .eq 9, 3) := dko_153 dwX11_freeRule_13
theorem dX11_freeRule_16 : decode cX11_freeRule 16 = .ok (.iinc 1 1, 3) := dko_132 (dk_t 3 16 [132, 1, 1, 167, 255, 239, 27, 172] dwX11_freeRule_13 rfl rfl)
theorem dX11_freeRule_19 : decode cX11_freeRule 19 = .ok (.goto (-17), 3) := dko_167 (dk_t 6 19 [167, 255, 239, 27, 172] dwX11_freeRule_13 rfl rfl)
theorem dX11_freeRule_22 : decode cX11_freeRule 22 = .ok (.iload_n 1, 1) := dko_27 (dk_t 9 22 [27, 172] dwX11_freeRule_13 rfl rfl)
theorem dX11_freeRule_23 : decode cX11_freeRule 23 = .ok (.ireturn, 1) := dko_172 (dk_t 10 23 [172] dwX11_freeRule_13 rfl rfl)
theorem dwX11_rule_0 : dkW cX11_rule 0 [42, 3, 181, 0, 134, 42, 182, 0, 231, 42, 182, 1, 36, 60] = true := by decide +kernel
theorem dX11_rule_0 : decode cX11_rule 0 = .ok (.aload_n 0, 1) := dko_42 dwX11_rule_0
theorem dX11_rule_1 : decode cX11_rule 1 = .ok (.iconst 0, 1) := dko_3 (dk_t 1 1 [3, 181, 0, 134, 42, 182, 0, 231, 42, 182, 1, 36, 60] dwX11_rule_0 rfl rfl)
theorem dX11_rule_2 : decode cX11_rule 2 = .ok (.putfield 134, 3) := dko_181 (dk_t 2 2 [181, 0, 134, 42, 182, 0, 231, 42, 182, 1, 36, 60] dwX11_rule_0 rfl rfl)
theorem dX11_rule_5 : decode cX11_rule 5 = .ok (.aload_n 0, 1) := dko_42 (dk_t 5 5 [42, 182, 0, 231, 42, 182, 1, 36, 60] dwX11_rule_0 rfl rfl)
theorem dX11_rule_6 : decode cX11_rule 6 = .ok (.invokevirtual 231, 3) := dko_182 (dk_t 6 6 [182, 0, 231, 42, 182, 1, 36, 60] dwX11_rule_0 rfl rfl)
theorem dX11_rule_9 : decode cX11_rule 9 = .ok (.aload_n 0, 1) := dko_42 (dk_t 9 9 [42, 182, 1, 36, 60] dwX11_rule_0 rfl rfl)
theorem dX11_rule_10 : decode cX11_rule 10 = .ok (.invokevirtual 292, 3) := dko_182 (dk_t 10 10 [182, 1, 36, 60] dwX11_rule_0 rfl rfl)
theorem dX11_rule_13 : decode cX11_rule 13 = .ok (.istore_n 1, 1) := dko_60 (dk_t 13 13 [60] dwX11_rule_0 rfl rfl)
theorem dwX11_rule_14 : dkW cX11_rule 14 [42, 3, 181, 0, 245, 27, 154, 0, 12, 17, 252, 24, 42] = true := by decide +kernel
theorem dX11_rule_14 : decode cX11_rule 14 = .ok (.aload_n 0, 1) := dko_42 dwX11_rule_14
theorem dX11_rule_15 : decode cX11_rule 15 = .ok (.iconst 0, 1) := dko_3 (dk_t 1 15 [3, 181, 0, 245, 27, 154, 0, 12, 17, 252, 24, 42] dwX11_rule_14 rfl rfl)
theorem dX11_rule_16 : decode cX11_rule 16 = .ok (.putfield 245, 3) := dko_181 (dk_t 2 16 [181, 0, 245, 27, 154, 0, 12, 17, 252, 24, 42] dwX11_rule_14 rfl rfl)
theorem dX11_rule_19 : decode cX11_rule 19 = .ok (.iload_n 1, 1) := dko_27 (dk_t 5 19 [27, 154, 0, 12, 17, 252, 24, 42] dwX11_rule_14 rfl rfl)
theorem dX11_rule_20 : decode cX11_rule 20 = .ok (.ifCond .ne 12, 3) := dko_154 (dk_t 6 20 [154, 0, 12, 17, 252, 24, 42] dwX11_rule_14 rfl rfl)
theorem dX11_rule_23 : decode cX11_rule 23 = .ok (.sipush (-1000), 3) := dko_17 (dk_t 9 23 [17, 252, 24, 42] dwX11_rule_14 rfl rfl)
theorem dX11_rule_26 : decode cX11_rule 26 = .ok (.aload_n 0, 1) := dko_42 (dk_t 12 26 [42] dwX11_rule_14 rfl rfl)
theorem dwX11_rule_27 : dkW cX11_rule 27 [180, 1, 9, 100, 172, 42, 180, 0, 206, 153, 0, 6, 16, 253] = true := by decide +kernel
theorem dX11_rule_27 : decode cX11_rule 27 = .ok (.getfield 265, 3) := dko_180 dwX11_rule_27
theorem dX11_rule_30 : decode cX11_rule 30 = .ok (.isub, 1) := dko_100 (dk_t 3 30 [100, 172, 42, 180, 0, 206, 153, 0, 6, 16, 253] dwX11_rule_27 rfl rfl)
theorem dX11_rule_31 : decode cX11_rule 31 = .ok (.ireturn, 1) := dko_172 (dk_t 4 31 [172, 42, 180, 0, 206, 153, 0, 6, 16, 253] dwX11_rule_27 rfl rfl)
theorem dX11_rule_32 : decode cX11_rule 32 = .ok (.aload_n 0, 1) := dko_42 (dk_t 5 32 [42, 180, 0, 206, 153, 0, 6, 16, 253] dwX11_rule_27 rfl rfl)
theorem dX11_rule_33 : decode cX11_rule 33 = .ok (.getfield 206, 3) := dko_180 (dk_t 6 33 [180, 0, 206, 153, 0, 6, 16, 253] dwX11_rule_27 rfl rfl)
theorem dX11_rule_36 : decode cX11_rule 36 = .ok (.ifCond .eq 6, 3) := dko_153 (dk_t 9 36 [153, 0, 6, 16, 253] dwX11_rule_27 rfl rfl)
theorem dX11_rule_39 : decode cX11_rule 39 = .ok (.bipush (-3), 2) := dko_16 (dk_t 12 39 [16, 253] dwX11_rule_27 rfl rfl)
theorem dwX11_rule_41 : dkW cX11_rule 41 [172, 42, 182, 1, 40, 61, 28, 16, 12, 160, 0, 6, 16, 252] = true := by decide +kernel
theorem dX11_rule_41 : decode cX11_rule 41 = .ok (.ireturn, 1) := dko_172 dwX11_rule_41
theorem dX11_rule_42 : decode cX11_rule 42 = .ok (.aload_n 0, 1) := dko_42 (dk_t 1 42 [42, 182, 1, 40, 61, 28, 16, 12, 160, 0, 6, 16, 252] dwX11_rule_41 rfl rfl)
theorem dX11_rule_43 : decode cX11_rule 43 = .ok (.invokevirtual 296, 3) := dko_182 (dk_t 2 43 [182, 1, 40, 61, 28, 16, 12, 160, 0, 6, 16, 252] dwX11_rule_41 rfl rfl)
theorem dX11_rule_46 : decode cX11_rule 46 = .ok (.istore_n 2, 1) := dko_61 (dk_t 5 46 [61, 28, 16, 12, 160, 0, 6, 16, 252] dwX11_rule_41 rfl rfl)
theorem dX11_rule_47 : decode cX11_rule 47 = .ok (.iload_n 2, 1) := dko_28 (dk_t 6 47 [28, 16, 12, 160, 0, 6, 16, 252] dwX11_rule_41 rfl rfl)
theorem dX11_rule_48 : decode cX11_rule 48 = .ok (.bipush 12, 2) := dko_16 (dk_t 7 48 [16, 12, 160, 0, 6, 16, 252] dwX11_rule_41 rfl rfl)
theorem dX11_rule_50 : decode cX11_rule 50 = .ok (.if_icmp .ne 6, 3) := dko_160 (dk_t 9 50 [160, 0, 6, 16, 252] dwX11_rule_41 rfl rfl)
theorem dX11_rule_53 : decode cX11_rule 53 = .ok (.bipush (-4), 2) := dko_16 (dk_t 12 53 [16, 252] dwX11_rule_41 rfl rfl)
theorem dwX11_rule_55 : dkW cX11_rule 55 [172, 3, 62, 29, 16, 9, 162, 0, 26, 42, 180, 0, 33] = true := by decide +kernel
theorem dX11_rule_55 : decode cX11_rule 55 = .ok (.ireturn, 1) := dko_172 dwX11_rule_55
theorem dX11_rule_56 : decode cX11_rule 56 = .ok (.iconst 0, 1) := dko_3 (dk_t 1 56 [3, 62, 29, 16, 9, 162, 0, 26, 42, 180, 0, 33] dwX11_rule_55 rfl rfl)
theorem dX11_rule_57 : decode cX11_rule 57 = .ok (.istore_n 3, 1) := dko_62 (dk_t 2 57 [62, 29, 16, 9, 162, 0, 26, 42, 180, 0, 33] dwX11_rule_55 rfl rfl)
theorem dX11_rule_58 : decode cX11_rule 58 = .ok (.iload_n 3, 1) := dko_29 (dk_t 3 58 [29, 16, 9, 162, 0, 26, 42, 180, 0, 33] dwX11_rule_55 rfl rfl)
theorem dX11_rule_59 : decode cX11_rule 59 = .ok (.bipush 9, 2) := dko_16 (dk_t 4 59 [16, 9, 162, 0, 26, 42, 180, 0, 33] dwX11_rule_55 rfl rfl)
theorem dX11_rule_61 : decode cX11_rule 61 = .ok (.if_icmp .ge 26, 3) := dko_162 (dk_t 6 61 [162, 0, 26, 42, 180, 0, 33] dwX11_rule_55 rfl rfl)
theorem dX11_rule_64 : decode cX11_rule 64 = .ok (.aload_n 0, 1) := dko_42 (dk_t 9 64 [42, 180, 0, 33] dwX11_rule_55 rfl rfl)
theorem dX11_rule_65 : decode cX11_rule 65 = .ok (.getfield 33, 3) := dko_180 (dk_t 10 65 [180, 0, 33] dwX11_rule_55 rfl rfl)
theorem dwX11_rule_68 : dkW cX11_rule 68 [16, 10, 28, 104, 29, 96, 42, 180, 0, 106, 29, 46, 79] = true := by decide +kernel
theorem dX11_rule_68 : decode cX11_rule 68 = .ok (.bipush 10, 2) := dko_16 dwX11_rule_68
theorem dX11_rule_70 : decode cX11_rule 70 = .ok (.iload_n 2, 1) := dko_28 (dk_t 2 70 [28, 104, 29, 96, 42, 180, 0, 106, 29, 46, 79] dwX11_rule_68 rfl rfl)
theorem dX11_rule_71 : decode cX11_rule 71 = .ok (.imul, 1) := dko_104 (dk_t 3 71 [104, 29, 96, 42, 180, 0, 106, 29, 46, 79] dwX11_rule_68 rfl rfl)
theorem dX11_rule_72 : decode cX11_rule 72 = .ok (.iload_n 3, 1) := dko_29 (dk_t 4 72 [29, 96, 42, 180, 0, 106, 29, 46, 79] dwX11_rule_68 rfl rfl)
theorem dX11_rule_73 : decode cX11_rule 73 = .ok (.iadd, 1) := dko_96 (dk_t 5 73 [96, 42, 180, 0, 106, 29, 46, 79] dwX11_rule_68 rfl rfl)
theorem dX11_rule_74 : decode cX11_rule 74 = .ok (.aload_n 0, 1) := dko_42 (dk_t 6 74 [42, 180, 0, 106, 29, 46, 79] dwX11_rule_68 rfl rfl)
theorem dX11_rule_75 : decode cX11_rule 75 = .ok (.getfield 106, 3) := dko_180 (dk_t 7 75 [180, 0, 106, 29, 46, 79] dwX11_rule_68 rfl rfl)
theorem dX11_rule_78 : decode cX11_rule 78 = .ok (.iload_n 3, 1) := dko_29 (dk_t 10 78 [29, 46, 79] dwX11_rule_68 rfl rfl)
theorem dX11_rule_79 : decode cX11_rule 79 = .ok (.iaload, 1) := dko_46 (dk_t 11 79 [46, 79] dwX11_rule_68 rfl rfl)
theorem dX11_rule_80 : decode cX11_rule 80 = .ok (.iastore, 1) := dko_79 (dk_t 12 80 [79] dwX11_rule_68 rfl rfl)
theorem dwX11_rule_81 : dkW cX11_rule 81 [132, 3, 1, 167, 255, 230, 42, 28, 182, 0, 179, 62, 29, 42] = true := by decide +kernel
theorem dX11_rule_81 : decode cX11_rule 81 = .ok (.iinc 3 1, 3) := dko_132 dwX11_rule_81
theorem dX11_rule_84 : decode cX11_rule 84 = .ok (.goto (-26), 3) := dko_167 (dk_t 3 84 [167, 255, 230, 42, 28, 182, 0, 179, 62, 29, 42] dwX11_rule_81 rfl rfl)
theorem dX11_rule_87 : decode cX11_rule 87 = .ok (.aload_n 0, 1) := dko_42 (dk_t 6 87 [42, 28, 182, 0, 179, 62, 29, 42] dwX11_rule_81 rfl rfl)
theorem dX11_rule_88 : decode cX11_rule 88 = .ok (.iload_n 2, 1) := dko_28 (dk_t 7 88 [28, 182, 0, 179, 62, 29, 42] dwX11_rule_81 rfl rfl)
theorem dX11_rule_89 : decode cX11_rule 89 = .ok (.invokevirtual 179, 3) := dko_182 (dk_t 8 89 [182, 0, 179, 62, 29, 42] dwX11_rule_81 rfl rfl)
theorem dX11_rule_92 : decode cX11_rule 92 = .ok (.istore_n 3, 1) := dko_62 (dk_t 11 92 [62, 29, 42] dwX11_rule_81 rfl rfl)
theorem dX11_rule_93 : decode cX11_rule 93 = .ok (.iload_n 3, 1) := dko_29 (dk_t 12 93 [29, 42] dwX11_rule_81 rfl rfl)
theorem dX11_rule_94 : decode cX11_rule 94 = .ok (.aload_n 0, 1) := dko_42 (dk_t 13 94 [42] dwX11_rule_81 rfl rfl)
theorem dwX11_rule_95 : dkW cX11_rule 95 [28, 182, 0, 183, 163, 0, 42, 42, 28, 29, 42, 180, 0, 9] = true := by decide +kernel
theorem dX11_rule_95 : decode cX11_rule 95 = .ok (.iload_n 2, 1) := dko_28 dwX11_rule_95
theorem dX11_rule_96 : decode cX11_rule 96 = .ok (.invokevirtual 183, 3) := dko_182 (dk_t 1 96 [182, 0, 183, 163, 0, 42, 42, 28, 29, 42, 180, 0, 9] dwX11_rule_95 rfl rfl)
theorem dX11_rule_99 : decode cX11_rule 99 = .ok (.if_icmp .gt 42, 3) := dko_163 (dk_t 4 99 [163, 0, 42, 42, 28, 29, 42, 180, 0, 9] dwX11_rule_95 rfl rfl)
theorem dX11_rule_102 : decode cX11_rule 102 = .ok (.aload_n 0, 1) := dko_42 (dk_t 7 102 [42, 28, 29, 42, 180, 0, 9] dwX11_rule_95 rfl rfl)
theorem dX11_rule_103 : decode cX11_rule 103 = .ok (.iload_n 2, 1) := dko_28 (dk_t 8 103 [28, 29, 42, 180, 0, 9] dwX11_rule_95 rfl rfl)
theorem dX11_rule_104 : decode cX11_rule 104 = .ok (.iload_n 3, 1) := dko_29 (dk_t 9 104 [29, 42, 180, 0, 9] dwX11_rule_95 rfl rfl)
theorem dX11_rule_105 : decode cX11_rule 105 = .ok (.aload_n 0, 1) := dko_42 (dk_t 10 105 [42, 180, 0, 9] dwX11_rule_95 rfl rfl)
theorem dX11_rule_106 : decode cX11_rule 106 = .ok (.getfield 9, 3) := dko_180 (dk_t 11 106 [180, 0, 9] dwX11_rule_95 rfl rfl)
theorem dwX11_rule_109 : dkW cX11_rule 109 [3, 182, 0, 221, 153, 0, 22, 42, 28, 29, 182, 1, 43, 42] = true := by decide +kernel
theorem dX11_rule_109 : decode cX11_rule 109 = .ok (.iconst 0, 1) := dko_3 dwX11_rule_109
theorem dX11_rule_110 : decode cX11_rule 110 = .ok (.invokevirtual 221, 3) := dko_182 (dk_t 1 110 [182, 0, 221, 153, 0, 22, 42, 28, 29, 182, 1, 43, 42] dwX11_rule_109 rfl rfl)
theorem dX11_rule_113 : decode cX11_rule 113 = .ok (.ifCond .eq 22, 3) := dko_153 (dk_t 4 113 [153, 0, 22, 42, 28, 29, 182, 1, 43, 42] dwX11_rule_109 rfl rfl)
theorem dX11_rule_116 : decode cX11_rule 116 = .ok (.aload_n 0, 1) := dko_42 (dk_t 7 116 [42, 28, 29, 182, 1, 43, 42] dwX11_rule_109 rfl rfl)
theorem dX11_rule_117 : decode cX11_rule 117 = .ok (.iload_n 2, 1) := dko_28 (dk_t 8 117 [28, 29, 182, 1, 43, 42] dwX11_rule_109 rfl rfl)
theorem dX11_rule_118 : decode cX11_rule 118 = .ok (.iload_n 3, 1) := dko_29 (dk_t 9 118 [29, 182, 1, 43, 42] dwX11_rule_109 rfl rfl)
theorem dX11_rule_119 : decode cX11_rule 119 = .ok (.invokevirtual 299, 3) := dko_182 (dk_t 10 119 [182, 1, 43, 42] dwX11_rule_109 rfl rfl)
theorem dX11_rule_122 : decode cX11_rule 122 = .ok (.aload_n 0, 1) := dko_42 (dk_t 13 122 [42] dwX11_rule_109 rfl rfl)
theorem dwX11_rule_123 : dkW cX11_rule 123 [180, 0, 33, 16, 10, 28, 104, 2, 79, 16, 251, 172] = true := by decide +kernel
theorem dX11_rule_123 : decode cX11_rule 123 = .ok (.getfield 33, 3) := dko_180 dwX11_rule_123
theorem dX11_rule_126 : decode cX11_rule 126 = .ok (.bipush 10, 2) := dko_16 (dk_t 3 126 [16, 10, 28, 104, 2, 79, 16, 251, 172] dwX11_rule_123 rfl rfl)
theorem dX11_rule_128 : decode cX11_rule 128 = .ok (.iload_n 2, 1) := dko_28 (dk_t 5 128 [28, 104, 2, 79, 16, 251, 172] dwX11_rule_123 rfl rfl)
theorem dX11_rule_129 : decode cX11_rule 129 = .ok (.imul, 1) := dko_104 (dk_t 6 129 [104, 2, 79, 16, 251, 172] dwX11_rule_123 rfl rfl)
theorem dX11_rule_130 : decode cX11_rule 130 = .ok (.iconst (-1), 1) := dko_2 (dk_t 7 130 [2, 79, 16, 251, 172] dwX11_rule_123 rfl rfl)
theorem dX11_rule_131 : decode cX11_rule 131 = .ok (.iastore, 1) := dko_79 (dk_t 8 131 [79, 16, 251, 172] dwX11_rule_123 rfl rfl)
theorem dX11_rule_132 : decode cX11_rule 132 = .ok (.bipush (-5), 2) := dko_16 (dk_t 9 132 [16, 251, 172] dwX11_rule_123 rfl rfl)
theorem dX11_rule_134 : decode cX11_rule 134 = .ok (.ireturn, 1) := dko_172 (dk_t 11 134 [172] dwX11_rule_123 rfl rfl)
theorem dwX11_rule_135 : dkW cX11_rule 135 [132, 3, 1, 167, 255, 211, 28, 172] = true := by decide +kernel
theorem dX11_rule_135 : decode cX11_rule 135 = .ok (.iinc 3 1, 3) := dko_132 dwX11_rule_135
theorem dX11_rule_138 : decode cX11_rule 138 = .ok (.goto (-45), 3) := dko_167 (dk_t 3 138 [167, 255, 211, 28, 172] dwX11_rule_135 rfl rfl)
theorem dX11_rule_141 : decode cX11_rule 141 = .ok (.iload_n 2, 1) := dko_28 (dk_t 6 141 [28, 172] dwX11_rule_135 rfl rfl)
theorem dX11_rule_142 : decode cX11_rule 142 = .ok (.ireturn, 1) := dko_172 (dk_t 7 142 [172] dwX11_rule_135 rfl rfl)
theorem dwX11_drop_0 : dkW cX11_drop 0 [42, 3, 181, 0, 134, 42, 182, 0, 231, 42, 27, 182, 0, 162] = true := by decide +kernel
theorem dX11_drop_0 : decode cX11_drop 0 = .ok (.aload_n 0, 1) := dko_42 dwX11_drop_0
theorem dX11_drop_1 : decode cX11_drop 1 = .ok (.iconst 0, 1) := dko_3 (dk_t 1 1 [3, 181, 0, 134, 42, 182, 0, 231, 42, 27, 182, 0, 162] dwX11_drop_0 rfl rfl)
theorem dX11_drop_2 : decode cX11_drop 2 = .ok (.putfield 134, 3) := dko_181 (dk_t 2 2 [181, 0, 134, 42, 182, 0, 231, 42, 27, 182, 0, 162] dwX11_drop_0 rfl rfl)
theorem dX11_drop_5 : decode cX11_drop 5 = .ok (.aload_n 0, 1) := dko_42 (dk_t 5 5 [42, 182, 0, 231, 42, 27, 182, 0, 162] dwX11_drop_0 rfl rfl)
theorem dX11_drop_6 : decode cX11_drop 6 = .ok (.invokevirtual 231, 3) := dko_182 (dk_t 6 6 [182, 0, 231, 42, 27, 182, 0, 162] dwX11_drop_0 rfl rfl)
theorem dX11_drop_9 : decode cX11_drop 9 = .ok (.aload_n 0, 1) := dko_42 (dk_t 9 9 [42, 27, 182, 0, 162] dwX11_drop_0 rfl rfl)
theorem dX11_drop_10 : decode cX11_drop 10 = .ok (.iload_n 1, 1) := dko_27 (dk_t 10 10 [27, 182, 0, 162] dwX11_drop_0 rfl rfl)
theorem dX11_drop_11 : decode cX11_drop 11 = .ok (.invokevirtual 162, 3) := dko_182 (dk_t 11 11 [182, 0, 162] dwX11_drop_0 rfl rfl)
theorem dwX11_drop_14 : dkW cX11_drop 14 [154, 0, 6, 16, 254, 172, 42, 180, 0, 206, 153, 0, 6] = true := by decide +kernel
theorem dX11_drop_14 : decode cX11_drop 14 = .ok (.ifCond .ne 6, 3) := dko_154 dwX11_drop_14
theorem dX11_drop_17 : decode cX11_drop 17 = .ok (.bipush (-2), 2) := dko_16 (dk_t 3 17 [16, 254, 172, 42, 180, 0, 206, 153, 0, 6] dwX11_drop_14 rfl rfl)
theorem dX11_drop_19 : decode cX11_drop 19 = .ok (.ireturn, 1) := dko_172 (dk_t 5 19 [172, 42, 180, 0, 206, 153, 0, 6] dwX11_drop_14 rfl rfl)
theorem dX11_drop_20 : decode cX11_drop 20 = .ok (.aload_n 0, 1) := dko_42 (dk_t 6 20 [42, 180, 0, 206, 153, 0, 6] dwX11_drop_14 rfl rfl)
theorem dX11_drop_21 : decode cX11_drop 21 = .ok (.getfield 206, 3) := dko_180 (dk_t 7 21 [180, 0, 206, 153, 0, 6] dwX11_drop_14 rfl rfl)
theorem dX11_drop_24 : decode cX11_drop 24 = .ok (.ifCond .eq 6, 3) := dko_153 (dk_t 10 24 [153, 0, 6] dwX11_drop_14 rfl rfl)
theorem dwX11_drop_27 : dkW cX11_drop 27 [16, 253, 172, 42, 180, 0, 33, 16, 10, 27, 104, 2, 79, 42] = true := by decide +kernel
theorem dX11_drop_27 : decode cX11_drop 27 = .ok (.bipush (-3), 2) := dko_16 dwX11_drop_27
theorem dX11_drop_29 : decode cX11_drop 29 = .ok (.ireturn, 1) := dko_172 (dk_t 2 29 [172, 42, 180, 0, 33, 16, 10, 27, 104, 2, 79, 42] dwX11_drop_27 rfl rfl)
theorem dX11_drop_30 : decode cX11_drop 30 = .ok (.aload_n 0, 1) := dko_42 (dk_t 3 30 [42, 180, 0, 33, 16, 10, 27, 104, 2, 79, 42] dwX11_drop_27 rfl rfl)
theorem dX11_drop_31 : decode cX11_drop 31 = .ok (.getfield 33, 3) := dko_180 (dk_t 4 31 [180, 0, 33, 16, 10, 27, 104, 2, 79, 42] dwX11_drop_27 rfl rfl)
theorem dX11_drop_34 : decode cX11_drop 34 = .ok (.bipush 10, 2) := dko_16 (dk_t 7 34 [16, 10, 27, 104, 2, 79, 42] dwX11_drop_27 rfl rfl)
theorem dX11_drop_36 : decode cX11_drop 36 = .ok (.iload_n 1, 1) := dko_27 (dk_t 9 36 [27, 104, 2, 79, 42] dwX11_drop_27 rfl rfl)
theorem dX11_drop_37 : decode cX11_drop 37 = .ok (.imul, 1) := dko_104 (dk_t 10 37 [104, 2, 79, 42] dwX11_drop_27 rfl rfl)
theorem dX11_drop_38 : decode cX11_drop 38 = .ok (.iconst (-1), 1) := dko_2 (dk_t 11 38 [2, 79, 42] dwX11_drop_27 rfl rfl)
theorem dX11_drop_39 : decode cX11_drop 39 = .ok (.iastore, 1) := dko_79 (dk_t 12 39 [79, 42] dwX11_drop_27 rfl rfl)
theorem dX11_drop_40 : decode cX11_drop 40 = .ok (.aload_n 0, 1) := dko_42 (dk_t 13 40 [42] dwX11_drop_27 rfl rfl)
theorem dwX11_drop_41 : dkW cX11_drop 41 [182, 1, 47, 172] = true := by decide +kernel
theorem dX11_drop_41 : decode cX11_drop 41 = .ok (.invokevirtual 303, 3) := dko_182 dwX11_drop_41
theorem dX11_drop_44 : decode cX11_drop 44 = .ok (.ireturn, 1) := dko_172 (dk_t 3 44 [172] dwX11_drop_41 rfl rfl)
theorem dwX11_inQueue_0 : dkW cX11_inQueue 0 [42, 182, 0, 218, 3, 61, 3, 62, 29, 42, 180, 0, 203] = true := by decide +kernel
theorem dX11_inQueue_0 : decode cX11_inQueue 0 = .ok (.aload_n 0, 1) := dko_42 dwX11_inQueue_0
theorem dX11_inQueue_1 : decode cX11_inQueue 1 = .ok (.invokevirtual 218, 3) := dko_182 (dk_t 1 1 [182, 0, 218, 3, 61, 3, 62, 29, 42, 180, 0, 203] dwX11_inQueue_0 rfl rfl)
theorem dX11_inQueue_4 : decode cX11_inQueue 4 = .ok (.iconst 0, 1) := dko_3 (dk_t 4 4 [3, 61, 3, 62, 29, 42, 180, 0, 203] dwX11_inQueue_0 rfl rfl)
theorem dX11_inQueue_5 : decode cX11_inQueue 5 = .ok (.istore_n 2, 1) := dko_61 (dk_t 5 5 [61, 3, 62, 29, 42, 180, 0, 203] dwX11_inQueue_0 rfl rfl)
theorem dX11_inQueue_6 : decode cX11_inQueue 6 = .ok (.iconst 0, 1) := dko_3 (dk_t 6 6 [3, 62, 29, 42, 180, 0, 203] dwX11_inQueue_0 rfl rfl)
theorem dX11_inQueue_7 : decode cX11_inQueue 7 = .ok (.istore_n 3, 1) := dko_62 (dk_t 7 7 [62, 29, 42, 180, 0, 203] dwX11_inQueue_0 rfl rfl)
theorem dX11_inQueue_8 : decode cX11_inQueue 8 = .ok (.iload_n 3, 1) := dko_29 (dk_t 8 8 [29, 42, 180, 0, 203] dwX11_inQueue_0 rfl rfl)
theorem dX11_inQueue_9 : decode cX11_inQueue 9 = .ok (.aload_n 0, 1) := dko_42 (dk_t 9 9 [42, 180, 0, 203] dwX11_inQueue_0 rfl rfl)
theorem dX11_inQueue_10 : decode cX11_inQueue 10 = .ok (.getfield 203, 3) := dko_180 (dk_t 10 10 [180, 0, 203] dwX11_inQueue_0 rfl rfl)
theorem dwX11_inQueue_13 : dkW cX11_inQueue 13 [162, 0, 27, 28, 42, 180, 0, 51, 29, 46, 27, 160, 0, 7] = true := by decide +kernel
theorem dX11_inQueue_13 : decode cX11_inQueue 13 = .ok (.if_icmp .ge 27, 3) := dko_162 dwX11_inQueue_13
theorem dX11_inQueue_16 : decode cX11_inQueue 16 = .ok (.iload_n 2, 1) := dko_28 (dk_t 3 16 [28, 42, 180, 0, 51, 29, 46, 27, 160, 0, 7] dwX11_inQueue_13 rfl rfl)
theorem dX11_inQueue_17 : decode cX11_inQueue 17 = .ok (.aload_n 0, 1) := dko_42 (dk_t 4 17 [42, 180, 0, 51, 29, 46, 27, 160, 0, 7] dwX11_inQueue_13 rfl rfl)
theorem dX11_inQueue_18 : decode cX11_inQueue 18 = .ok (.getfield 51, 3) := dko_180 (dk_t 5 18 [180, 0, 51, 29, 46, 27, 160, 0, 7] dwX11_inQueue_13 rfl rfl)
theorem dX11_inQueue_21 : decode cX11_inQueue 21 = .ok (.iload_n 3, 1) := dko_29 (dk_t 8 21 [29, 46, 27, 160, 0, 7] dwX11_inQueue_13 rfl rfl)
theorem dX11_inQueue_22 : decode cX11_inQueue 22 = .ok (.iaload, 1) := dko_46 (dk_t 9 22 [46, 27, 160, 0, 7] dwX11_inQueue_13 rfl rfl)
theorem dX11_inQueue_23 : decode cX11_inQueue 23 = .ok (.iload_n 1, 1) := dko_27 (dk_t 10 23 [27, 160, 0, 7] dwX11_inQueue_13 rfl rfl)
theorem dX11_inQueue_24 : decode cX11_inQueue 24 = .ok (.if_icmp .ne 7, 3) := dko_160 (dk_t 11 24 [160, 0, 7] dwX11_inQueue_13 rfl rfl)
theorem dwX11_inQueue_27 : dkW cX11_inQueue 27 [4, 167, 0, 4, 3, 96, 61, 132, 3, 1, 167, 255, 227, 28] = true := by decide +kernel
theorem dX11_inQueue_27 : decode cX11_inQueue 27 = .ok (.iconst 1, 1) := dko_4 dwX11_inQueue_27
theorem dX11_inQueue_28 : decode cX11_inQueue 28 = .ok (.goto 4, 3) := dko_167 (dk_t 1 28 [167, 0, 4, 3, 96, 61, 132, 3, 1, 167, 255, 227, 28] dwX11_inQueue_27 rfl rfl)
theorem dX11_inQueue_31 : decode cX11_inQueue 31 = .ok (.iconst 0, 1) := dko_3 (dk_t 4 31 [3, 96, 61, 132, 3, 1, 167, 255, 227, 28] dwX11_inQueue_27 rfl rfl)
theorem dX11_inQueue_32 : decode cX11_inQueue 32 = .ok (.iadd, 1) := dko_96 (dk_t 5 32 [96, 61, 132, 3, 1, 167, 255, 227, 28] dwX11_inQueue_27 rfl rfl)
theorem dX11_inQueue_33 : decode cX11_inQueue 33 = .ok (.istore_n 2, 1) := dko_61 (dk_t 6 33 [61, 132, 3, 1, 167, 255, 227, 28] dwX11_inQueue_27 rfl rfl)
theorem dX11_inQueue_34 : decode cX11_inQueue 34 = .ok (.iinc 3 1, 3) := dko_132 (dk_t 7 34 [132, 3, 1, 167, 255, 227, 28] dwX11_inQueue_27 rfl rfl)
theorem dX11_inQueue_37 : decode cX11_inQueue 37 = .ok (.goto (-29), 3) := dko_167 (dk_t 10 37 [167, 255, 227, 28] dwX11_inQueue_27 rfl rfl)
theorem dX11_inQueue_40 : decode cX11_inQueue 40 = .ok (.iload_n 2, 1) := dko_28 (dk_t 13 40 [28] dwX11_inQueue_27 rfl rfl)
theorem dwX11_inQueue_41 : dkW cX11_inQueue 41 [172] = true := by decide +kernel
theorem dX11_inQueue_41 : decode cX11_inQueue 41 = .ok (.ireturn, 1) := dko_172 dwX11_inQueue_41
theorem dwX11_later_0 : dkW cX11_later 0 [42, 3, 181, 0, 134, 42, 182, 0, 231, 42, 27, 182, 0, 162] = true := by decide +kernel
theorem dX11_later_0 : decode cX11_later 0 = .ok (.aload_n 0, 1) := dko_42 dwX11_later_0
theorem dX11_later_1 : decode cX11_later 1 = .ok (.iconst 0, 1) := dko_3 (dk_t 1 1 [3, 181, 0, 134, 42, 182, 0, 231, 42, 27, 182, 0, 162] dwX11_later_0 rfl rfl)
theorem dX11_later_2 : decode cX11_later 2 = .ok (.putfield 134, 3) := dko_181 (dk_t 2 2 [181, 0, 134, 42, 182, 0, 231, 42, 27, 182, 0, 162] dwX11_later_0 rfl rfl)
theorem dX11_later_5 : decode cX11_later 5 = .ok (.aload_n 0, 1) := dko_42 (dk_t 5 5 [42, 182, 0, 231, 42, 27, 182, 0, 162] dwX11_later_0 rfl rfl)
theorem dX11_later_6 : decode cX11_later 6 = .ok (.invokevirtual 231, 3) := dko_182 (dk_t 6 6 [182, 0, 231, 42, 27, 182, 0, 162] dwX11_later_0 rfl rfl)
theorem dX11_later_9 : decode cX11_later 9 = .ok (.aload_n 0, 1) := dko_42 (dk_t 9 9 [42, 27, 182, 0, 162] dwX11_later_0 rfl rfl)
theorem dX11_later_10 : decode cX11_later 10 = .ok (.iload_n 1, 1) := dko_27 (dk_t 10 10 [27, 182, 0, 162] dwX11_later_0 rfl rfl)
theorem dX11_later_11 : decode cX11_later 11 = .ok (.invokevirtual 162, 3) := dko_182 (dk_t 11 11 [182, 0, 162] dwX11_later_0 rfl rfl)
theorem dwX11_later_14 : dkW cX11_later 14 [154, 0, 6, 16, 254, 172, 42, 27, 16, 6, 182, 0, 165, 28] = true := by decide +kernel
theorem dX11_later_14 : decode cX11_later 14 = .ok (.ifCond .ne 6, 3) := dko_154 dwX11_later_14
theorem dX11_later_17 : decode cX11_later 17 = .ok (.bipush (-2), 2) := dko_16 (dk_t 3 17 [16, 254, 172, 42, 27, 16, 6, 182, 0, 165, 28] dwX11_later_14 rfl rfl)
theorem dX11_later_19 : decode cX11_later 19 = .ok (.ireturn, 1) := dko_172 (dk_t 5 19 [172, 42, 27, 16, 6, 182, 0, 165, 28] dwX11_later_14 rfl rfl)
theorem dX11_later_20 : decode cX11_later 20 = .ok (.aload_n 0, 1) := dko_42 (dk_t 6 20 [42, 27, 16, 6, 182, 0, 165, 28] dwX11_later_14 rfl rfl)
theorem dX11_later_21 : decode cX11_later 21 = .ok (.iload_n 1, 1) := dko_27 (dk_t 7 21 [27, 16, 6, 182, 0, 165, 28] dwX11_later_14 rfl rfl)
theorem dX11_later_22 : decode cX11_later 22 = .ok (.bipush 6, 2) := dko_16 (dk_t 8 22 [16, 6, 182, 0, 165, 28] dwX11_later_14 rfl rfl)
theorem dX11_later_24 : decode cX11_later 24 = .ok (.invokevirtual 165, 3) := dko_182 (dk_t 10 24 [182, 0, 165, 28] dwX11_later_14 rfl rfl)
theorem dX11_later_27 : decode cX11_later 27 = .ok (.iload_n 2, 1) := dko_28 (dk_t 13 27 [28] dwX11_later_14 rfl rfl)
theorem dwX11_later_28 : dkW cX11_later 28 [153, 0, 7, 4, 167, 0, 4, 3, 160, 0, 6, 16, 252, 172] = true := by decide +kernel
theorem dX11_later_28 : decode cX11_later 28 = .ok (.ifCond .eq 7, 3) := dko_153 dwX11_later_28
theorem dX11_later_31 : decode cX11_later 31 = .ok (.iconst 1, 1) := dko_4 (dk_t 3 31 [4, 167, 0, 4, 3, 160, 0, 6, 16, 252, 172] dwX11_later_28 rfl rfl)
theorem dX11_later_32 : decode cX11_later 32 = .ok (.goto 4, 3) := dko_167 (dk_t 4 32 [167, 0, 4, 3, 160, 0, 6, 16, 252, 172] dwX11_later_28 rfl rfl)
theorem dX11_later_35 : decode cX11_later 35 = .ok (.iconst 0, 1) := dko_3 (dk_t 7 35 [3, 160, 0, 6, 16, 252, 172] dwX11_later_28 rfl rfl)
theorem dX11_later_36 : decode cX11_later 36 = .ok (.if_icmp .ne 6, 3) := dko_160 (dk_t 8 36 [160, 0, 6, 16, 252, 172] dwX11_later_28 rfl rfl)
theorem dX11_later_39 : decode cX11_later 39 = .ok (.bipush (-4), 2) := dko_16 (dk_t 11 39 [16, 252, 172] dwX11_later_28 rfl rfl)
theorem dX11_later_41 : decode cX11_later 41 = .ok (.ireturn, 1) := dko_172 (dk_t 13 41 [172] dwX11_later_28 rfl rfl)
theorem dwX11_later_42 : dkW cX11_later 42 [28, 153, 0, 34, 42, 180, 0, 33, 16, 10, 27, 104, 16, 6] = true := by decide +kernel
theorem dX11_later_42 : decode cX11_later 42 = .ok (.iload_n 2, 1) := dko_28 dwX11_later_42
theorem dX11_later_43 : decode cX11_later 43 = .ok (.ifCond .eq 34, 3) := dko_153 (dk_t 1 43 [153, 0, 34, 42, 180, 0, 33, 16, 10, 27, 104, 16, 6] dwX11_later_42 rfl rfl)
theorem dX11_later_46 : decode cX11_later 46 = .ok (.aload_n 0, 1) := dko_42 (dk_t 4 46 [42, 180, 0, 33, 16, 10, 27, 104, 16, 6] dwX11_later_42 rfl rfl)
theorem dX11_later_47 : decode cX11_later 47 = .ok (.getfield 33, 3) := dko_180 (dk_t 5 47 [180, 0, 33, 16, 10, 27, 104, 16, 6] dwX11_later_42 rfl rfl)
theorem dX11_later_50 : decode cX11_later 50 = .ok (.bipush 10, 2) := dko_16 (dk_t 8 50 [16, 10, 27, 104, 16, 6] dwX11_later_42 rfl rfl)
theorem dX11_later_52 : decode cX11_later 52 = .ok (.iload_n 1, 1) := dko_27 (dk_t 10 52 [27, 104, 16, 6] dwX11_later_42 rfl rfl)
theorem dX11_later_53 : decode cX11_later 53 = .ok (.imul, 1) := dko_104 (dk_t 11 53 [104, 16, 6] dwX11_later_42 rfl rfl)
theorem dX11_later_54 : decode cX11_later 54 = .ok (.bipush 6, 2) := dko_16 (dk_t 12 54 [16, 6] dwX11_later_42 rfl rfl)
theorem dwX11_later_56 : dkW cX11_later 56 [96, 4, 79, 42, 27, 182, 1, 50, 62, 42, 180, 0, 27, 3] = true := by decide +kernel
theorem dX11_later_56 : decode cX11_later 56 = .ok (.iadd, 1) := dko_96 dwX11_later_56
theorem dX11_later_57 : decode cX11_later 57 = .ok (.iconst 1, 1) := dko_4 (dk_t 1 57 [4, 79, 42, 27, 182, 1, 50, 62, 42, 180, 0, 27, 3] dwX11_later_56 rfl rfl)
theorem dX11_later_58 : decode cX11_later 58 = .ok (.iastore, 1) := dko_79 (dk_t 2 58 [79, 42, 27, 182, 1, 50, 62, 42, 180, 0, 27, 3] dwX11_later_56 rfl rfl)
theorem dX11_later_59 : decode cX11_later 59 = .ok (.aload_n 0, 1) := dko_42 (dk_t 3 59 [42, 27, 182, 1, 50, 62, 42, 180, 0, 27, 3] dwX11_later_56 rfl rfl)
theorem dX11_later_60 : decode cX11_later 60 = .ok (.iload_n 1, 1) := dko_27 (dk_t 4 60 [27, 182, 1, 50, 62, 42, 180, 0, 27, 3] dwX11_later_56 rfl rfl)
theorem dX11_later_61 : decode cX11_later 61 = .ok (.invokevirtual 306, 3) := dko_182 (dk_t 5 61 [182, 1, 50, 62, 42, 180, 0, 27, 3] dwX11_later_56 rfl rfl)
theorem dX11_later_64 : decode cX11_later 64 = .ok (.istore_n 3, 1) := dko_62 (dk_t 8 64 [62, 42, 180, 0, 27, 3] dwX11_later_56 rfl rfl)
theorem dX11_later_65 : decode cX11_later 65 = .ok (.aload_n 0, 1) := dko_42 (dk_t 9 65 [42, 180, 0, 27, 3] dwX11_later_56 rfl rfl)
theorem dX11_later_66 : decode cX11_later 66 = .ok (.getfield 27, 3) := dko_180 (dk_t 10 66 [180, 0, 27, 3] dwX11_later_56 rfl rfl)
theorem dX11_later_69 : decode cX11_later 69 = .ok (.iconst 0, 1) := dko_3 (dk_t 13 69 [3] dwX11_later_56 rfl rfl)
theorem dwX11_later_70 : dkW cX11_later 70 [92, 46, 29, 96, 79, 29, 172, 42, 27, 182, 1, 50, 62, 3] = true := by decide +kernel
theorem dX11_later_70 : decode cX11_later 70 = .ok (.dup2, 1) := dko_92 dwX11_later_70
theorem dX11_later_71 : decode cX11_later 71 = .ok (.iaload, 1) := dko_46 (dk_t 1 71 [46, 29, 96, 79, 29, 172, 42, 27, 182, 1, 50, 62, 3] dwX11_later_70 rfl rfl)
theorem dX11_later_72 : decode cX11_later 72 = .ok (.iload_n 3, 1) := dko_29 (dk_t 2 72 [29, 96, 79, 29, 172, 42, 27, 182, 1, 50, 62, 3] dwX11_later_70 rfl rfl)
theorem dX11_later_73 : decode cX11_later 73 = .ok (.iadd, 1) := dko_96 (dk_t 3 73 [96, 79, 29, 172, 42, 27, 182, 1, 50, 62, 3] dwX11_later_70 rfl rfl)
theorem dX11_later_74 : decode cX11_later 74 = .ok (.iastore, 1) := dko_79 (dk_t 4 74 [79, 29, 172, 42, 27, 182, 1, 50, 62, 3] dwX11_later_70 rfl rfl)
theorem dX11_later_75 : decode cX11_later 75 = .ok (.iload_n 3, 1) := dko_29 (dk_t 5 75 [29, 172, 42, 27, 182, 1, 50, 62, 3] dwX11_later_70 rfl rfl)
theorem dX11_later_76 : decode cX11_later 76 = .ok (.ireturn, 1) := dko_172 (dk_t 6 76 [172, 42, 27, 182, 1, 50, 62, 3] dwX11_later_70 rfl rfl)
theorem dX11_later_77 : decode cX11_later 77 = .ok (.aload_n 0, 1) := dko_42 (dk_t 7 77 [42, 27, 182, 1, 50, 62, 3] dwX11_later_70 rfl rfl)
theorem dX11_later_78 : decode cX11_later 78 = .ok (.iload_n 1, 1) := dko_27 (dk_t 8 78 [27, 182, 1, 50, 62, 3] dwX11_later_70 rfl rfl)
theorem dX11_later_79 : decode cX11_later 79 = .ok (.invokevirtual 306, 3) := dko_182 (dk_t 9 79 [182, 1, 50, 62, 3] dwX11_later_70 rfl rfl)
theorem dX11_later_82 : decode cX11_later 82 = .ok (.istore_n 3, 1) := dko_62 (dk_t 12 82 [62, 3] dwX11_later_70 rfl rfl)
theorem dX11_later_83 : decode cX11_later 83 = .ok (.iconst 0, 1) := dko_3 (dk_t 13 83 [3] dwX11_later_70 rfl rfl)
theorem dwX11_later_84 : dkW cX11_later 84 [54, 4, 21, 4, 42, 180, 0, 203, 162, 0, 65, 42] = true := by decide +kernel
theorem dX11_later_84 : decode cX11_later 84 = .ok (.istore 4, 2) := dko_54 dwX11_later_84
theorem dX11_later_86 : decode cX11_later 86 = .ok (.iload 4, 2) := dko_21 (dk_t 2 86 [21, 4, 42, 180, 0, 203, 162, 0, 65, 42] dwX11_later_84 rfl rfl)
theorem dX11_later_88 : decode cX11_later 88 = .ok (.aload_n 0, 1) := dko_42 (dk_t 4 88 [42, 180, 0, 203, 162, 0, 65, 42] dwX11_later_84 rfl rfl)
theorem dX11_later_89 : decode cX11_later 89 = .ok (.getfield 203, 3) := dko_180 (dk_t 5 89 [180, 0, 203, 162, 0, 65, 42] dwX11_later_84 rfl rfl)
theorem dX11_later_92 : decode cX11_later 92 = .ok (.if_icmp .ge 65, 3) := dko_162 (dk_t 8 92 [162, 0, 65, 42] dwX11_later_84 rfl rfl)
theorem dX11_later_95 : decode cX11_later 95 = .ok (.aload_n 0, 1) := dko_42 (dk_t 11 95 [42] dwX11_later_84 rfl rfl)
theorem dwX11_later_96 : dkW cX11_later 96 [180, 0, 51, 21, 4, 46, 27, 160, 0, 48, 42, 180, 0, 30] = true := by decide +kernel
theorem dX11_later_96 : decode cX11_later 96 = .ok (.getfield 51, 3) := dko_180 dwX11_later_96
theorem dX11_later_99 : decode cX11_later 99 = .ok (.iload 4, 2) := dko_21 (dk_t 3 99 [21, 4, 46, 27, 160, 0, 48, 42, 180, 0, 30] dwX11_later_96 rfl rfl)
theorem dX11_later_101 : decode cX11_later 101 = .ok (.iaload, 1) := dko_46 (dk_t 5 101 [46, 27, 160, 0, 48, 42, 180, 0, 30] dwX11_later_96 rfl rfl)
theorem dX11_later_102 : decode cX11_later 102 = .ok (.iload_n 1, 1) := dko_27 (dk_t 6 102 [27, 160, 0, 48, 42, 180, 0, 30] dwX11_later_96 rfl rfl)
theorem dX11_later_103 : decode cX11_later 103 = .ok (.if_icmp .ne 48, 3) := dko_160 (dk_t 7 103 [160, 0, 48, 42, 180, 0, 30] dwX11_later_96 rfl rfl)
theorem dX11_later_106 : decode cX11_later 106 = .ok (.aload_n 0, 1) := dko_42 (dk_t 10 106 [42, 180, 0, 30] dwX11_later_96 rfl rfl)
theorem dX11_later_107 : decode cX11_later 107 = .ok (.getfield 30, 3) := dko_180 (dk_t 11 107 [180, 0, 30] dwX11_later_96 rfl rfl)
theorem dwX11_later_110 : dkW cX11_later 110 [3, 92, 46, 4, 96, 79, 42, 27, 42, 180, 0, 54, 21, 4] = true := by decide +kernel
theorem dX11_later_110 : decode cX11_later 110 = .ok (.iconst 0, 1) := dko_3 dwX11_later_110
theorem dX11_later_111 : decode cX11_later 111 = .ok (.dup2, 1) := dko_92 (dk_t 1 111 [92, 46, 4, 96, 79, 42, 27, 42, 180, 0, 54, 21, 4] dwX11_later_110 rfl rfl)
theorem dX11_later_112 : decode cX11_later 112 = .ok (.iaload, 1) := dko_46 (dk_t 2 112 [46, 4, 96, 79, 42, 27, 42, 180, 0, 54, 21, 4] dwX11_later_110 rfl rfl)
theorem dX11_later_113 : decode cX11_later 113 = .ok (.iconst 1, 1) := dko_4 (dk_t 3 113 [4, 96, 79, 42, 27, 42, 180, 0, 54, 21, 4] dwX11_later_110 rfl rfl)
theorem dX11_later_114 : decode cX11_later 114 = .ok (.iadd, 1) := dko_96 (dk_t 4 114 [96, 79, 42, 27, 42, 180, 0, 54, 21, 4] dwX11_later_110 rfl rfl)
theorem dX11_later_115 : decode cX11_later 115 = .ok (.iastore, 1) := dko_79 (dk_t 5 115 [79, 42, 27, 42, 180, 0, 54, 21, 4] dwX11_later_110 rfl rfl)
theorem dX11_later_116 : decode cX11_later 116 = .ok (.aload_n 0, 1) := dko_42 (dk_t 6 116 [42, 27, 42, 180, 0, 54, 21, 4] dwX11_later_110 rfl rfl)
theorem dX11_later_117 : decode cX11_later 117 = .ok (.iload_n 1, 1) := dko_27 (dk_t 7 117 [27, 42, 180, 0, 54, 21, 4] dwX11_later_110 rfl rfl)
theorem dX11_later_118 : decode cX11_later 118 = .ok (.aload_n 0, 1) := dko_42 (dk_t 8 118 [42, 180, 0, 54, 21, 4] dwX11_later_110 rfl rfl)
theorem dX11_later_119 : decode cX11_later 119 = .ok (.getfield 54, 3) := dko_180 (dk_t 9 119 [180, 0, 54, 21, 4] dwX11_later_110 rfl rfl)
theorem dX11_later_122 : decode cX11_later 122 = .ok (.iload 4, 2) := dko_21 (dk_t 12 122 [21, 4] dwX11_later_110 rfl rfl)
theorem dwX11_later_124 : dkW cX11_later 124 [46, 42, 180, 0, 9, 3, 182, 0, 221, 153, 0, 18, 42, 27] = true := by decide +kernel
theorem dX11_later_124 : decode cX11_later 124 = .ok (.iaload, 1) := dko_46 dwX11_later_124
theorem dX11_later_125 : decode cX11_later 125 = .ok (.aload_n 0, 1) := dko_42 (dk_t 1 125 [42, 180, 0, 9, 3, 182, 0, 221, 153, 0, 18, 42, 27] dwX11_later_124 rfl rfl)
theorem dX11_later_126 : decode cX11_later 126 = .ok (.getfield 9, 3) := dko_180 (dk_t 2 126 [180, 0, 9, 3, 182, 0, 221, 153, 0, 18, 42, 27] dwX11_later_124 rfl rfl)
theorem dX11_later_129 : decode cX11_later 129 = .ok (.iconst 0, 1) := dko_3 (dk_t 5 129 [3, 182, 0, 221, 153, 0, 18, 42, 27] dwX11_later_124 rfl rfl)
theorem dX11_later_130 : decode cX11_later 130 = .ok (.invokevirtual 221, 3) := dko_182 (dk_t 6 130 [182, 0, 221, 153, 0, 18, 42, 27] dwX11_later_124 rfl rfl)
theorem dX11_later_133 : decode cX11_later 133 = .ok (.ifCond .eq 18, 3) := dko_153 (dk_t 9 133 [153, 0, 18, 42, 27] dwX11_later_124 rfl rfl)
theorem dX11_later_136 : decode cX11_later 136 = .ok (.aload_n 0, 1) := dko_42 (dk_t 12 136 [42, 27] dwX11_later_124 rfl rfl)
theorem dX11_later_137 : decode cX11_later 137 = .ok (.iload_n 1, 1) := dko_27 (dk_t 13 137 [27] dwX11_later_124 rfl rfl)
theorem dwX11_later_138 : dkW cX11_later 138 [42, 180, 0, 54, 21, 4, 46, 182, 1, 43, 16, 251, 172] = true := by decide +kernel
theorem dX11_later_138 : decode cX11_later 138 = .ok (.aload_n 0, 1) := dko_42 dwX11_later_138
theorem dX11_later_139 : decode cX11_later 139 = .ok (.getfield 54, 3) := dko_180 (dk_t 1 139 [180, 0, 54, 21, 4, 46, 182, 1, 43, 16, 251, 172] dwX11_later_138 rfl rfl)
theorem dX11_later_142 : decode cX11_later 142 = .ok (.iload 4, 2) := dko_21 (dk_t 4 142 [21, 4, 46, 182, 1, 43, 16, 251, 172] dwX11_later_138 rfl rfl)
theorem dX11_later_144 : decode cX11_later 144 = .ok (.iaload, 1) := dko_46 (dk_t 6 144 [46, 182, 1, 43, 16, 251, 172] dwX11_later_138 rfl rfl)
theorem dX11_later_145 : decode cX11_later 145 = .ok (.invokevirtual 299, 3) := dko_182 (dk_t 7 145 [182, 1, 43, 16, 251, 172] dwX11_later_138 rfl rfl)
theorem dX11_later_148 : decode cX11_later 148 = .ok (.bipush (-5), 2) := dko_16 (dk_t 10 148 [16, 251, 172] dwX11_later_138 rfl rfl)
theorem dX11_later_150 : decode cX11_later 150 = .ok (.ireturn, 1) := dko_172 (dk_t 12 150 [172] dwX11_later_138 rfl rfl)
theorem dwX11_later_151 : dkW cX11_later 151 [132, 4, 1, 167, 255, 188, 42, 180, 0, 33, 16, 10, 27, 104] = true := by decide +kernel
theorem dX11_later_151 : decode cX11_later 151 = .ok (.iinc 4 1, 3) := dko_132 dwX11_later_151
theorem dX11_later_154 : decode cX11_later 154 = .ok (.goto (-68), 3) := dko_167 (dk_t 3 154 [167, 255, 188, 42, 180, 0, 33, 16, 10, 27, 104] dwX11_later_151 rfl rfl)
theorem dX11_later_157 : decode cX11_later 157 = .ok (.aload_n 0, 1) := dko_42 (dk_t 6 157 [42, 180, 0, 33, 16, 10, 27, 104] dwX11_later_151 rfl rfl)
theorem dX11_later_158 : decode cX11_later 158 = .ok (.getfield 33, 3) := dko_180 (dk_t 7 158 [180, 0, 33, 16, 10, 27, 104] dwX11_later_151 rfl rfl)
theorem dX11_later_161 : decode cX11_later 161 = .ok (.bipush 10, 2) := dko_16 (dk_t 10 161 [16, 10, 27, 104] dwX11_later_151 rfl rfl)
theorem dX11_later_163 : decode cX11_later 163 = .ok (.iload_n 1, 1) := dko_27 (dk_t 12 163 [27, 104] dwX11_later_151 rfl rfl)
theorem dX11_later_164 : decode cX11_later 164 = .ok (.imul, 1) := dko_104 (dk_t 13 164 [104] dwX11_later_151 rfl rfl)
theorem dwX11_later_165 : dkW cX11_later 165 [16, 6, 96, 3, 79, 29, 172] = true := by decide +kernel
theorem dX11_later_165 : decode cX11_later 165 = .ok (.bipush 6, 2) := dko_16 dwX11_later_165
theorem dX11_later_167 : decode cX11_later 167 = .ok (.iadd, 1) := dko_96 (dk_t 2 167 [96, 3, 79, 29, 172] dwX11_later_165 rfl rfl)
theorem dX11_later_168 : decode cX11_later 168 = .ok (.iconst 0, 1) := dko_3 (dk_t 3 168 [3, 79, 29, 172] dwX11_later_165 rfl rfl)
theorem dX11_later_169 : decode cX11_later 169 = .ok (.iastore, 1) := dko_79 (dk_t 4 169 [79, 29, 172] dwX11_later_165 rfl rfl)
theorem dX11_later_170 : decode cX11_later 170 = .ok (.iload_n 3, 1) := dko_29 (dk_t 5 170 [29, 172] dwX11_later_165 rfl rfl)
theorem dX11_later_171 : decode cX11_later 171 = .ok (.ireturn, 1) := dko_172 (dk_t 6 171 [172] dwX11_later_165 rfl rfl)
theorem dwX11_start_0 : dkW cX11_start 0 [42, 180, 0, 9, 3, 42, 180, 0, 21, 3, 184, 1, 53, 42] = true := by decide +kernel
theorem dX11_start_0 : decode cX11_start 0 = .ok (.aload_n 0, 1) := dko_42 dwX11_start_0
theorem dX11_start_1 : decode cX11_start 1 = .ok (.getfield 9, 3) := dko_180 (dk_t 1 1 [180, 0, 9, 3, 42, 180, 0, 21, 3, 184, 1, 53, 42] dwX11_start_0 rfl rfl)
theorem dX11_start_4 : decode cX11_start 4 = .ok (.iconst 0, 1) := dko_3 (dk_t 4 4 [3, 42, 180, 0, 21, 3, 184, 1, 53, 42] dwX11_start_0 rfl rfl)
theorem dX11_start_5 : decode cX11_start 5 = .ok (.aload_n 0, 1) := dko_42 (dk_t 5 5 [42, 180, 0, 21, 3, 184, 1, 53, 42] dwX11_start_0 rfl rfl)
theorem dX11_start_6 : decode cX11_start 6 = .ok (.getfield 21, 3) := dko_180 (dk_t 6 6 [180, 0, 21, 3, 184, 1, 53, 42] dwX11_start_0 rfl rfl)
theorem dX11_start_9 : decode cX11_start 9 = .ok (.iconst 0, 1) := dko_3 (dk_t 9 9 [3, 184, 1, 53, 42] dwX11_start_0 rfl rfl)
theorem dX11_start_10 : decode cX11_start 10 = .ok (.invokestatic 309, 3) := dko_184 (dk_t 10 10 [184, 1, 53, 42] dwX11_start_0 rfl rfl)
theorem dX11_start_13 : decode cX11_start 13 = .ok (.aload_n 0, 1) := dko_42 (dk_t 13 13 [42] dwX11_start_0 rfl rfl)
theorem dwX11_start_14 : dkW cX11_start 14 [42, 180, 0, 39, 42, 180, 0, 9, 3, 182, 0, 210, 177] = true := by decide +kernel
theorem dX11_start_14 : decode cX11_start 14 = .ok (.aload_n 0, 1) := dko_42 dwX11_start_14
theorem dX11_start_15 : decode cX11_start 15 = .ok (.getfield 39, 3) := dko_180 (dk_t 1 15 [180, 0, 39, 42, 180, 0, 9, 3, 182, 0, 210, 177] dwX11_start_14 rfl rfl)
theorem dX11_start_18 : decode cX11_start 18 = .ok (.aload_n 0, 1) := dko_42 (dk_t 4 18 [42, 180, 0, 9, 3, 182, 0, 210, 177] dwX11_start_14 rfl rfl)
theorem dX11_start_19 : decode cX11_start 19 = .ok (.getfield 9, 3) := dko_180 (dk_t 5 19 [180, 0, 9, 3, 182, 0, 210, 177] dwX11_start_14 rfl rfl)
theorem dX11_start_22 : decode cX11_start 22 = .ok (.iconst 0, 1) := dko_3 (dk_t 8 22 [3, 182, 0, 210, 177] dwX11_start_14 rfl rfl)
theorem dX11_start_23 : decode cX11_start 23 = .ok (.invokevirtual 210, 3) := dko_182 (dk_t 9 23 [182, 0, 210, 177] dwX11_start_14 rfl rfl)
theorem dX11_start_26 : decode cX11_start 26 = .ok (.return_, 1) := dko_177 (dk_t 12 26 [177] dwX11_start_14 rfl rfl)
theorem dwX11_asks_0 : dkW cX11_asks 0 [42, 27, 42, 180, 0, 39, 42, 180, 0, 36, 182, 0, 214, 42] = true := by decide +kernel
theorem dX11_asks_0 : decode cX11_asks 0 = .ok (.aload_n 0, 1) := dko_42 dwX11_asks_0
theorem dX11_asks_1 : decode cX11_asks 1 = .ok (.iload_n 1, 1) := dko_27 (dk_t 1 1 [27, 42, 180, 0, 39, 42, 180, 0, 36, 182, 0, 214, 42] dwX11_asks_0 rfl rfl)
theorem dX11_asks_2 : decode cX11_asks 2 = .ok (.aload_n 0, 1) := dko_42 (dk_t 2 2 [42, 180, 0, 39, 42, 180, 0, 36, 182, 0, 214, 42] dwX11_asks_0 rfl rfl)
theorem dX11_asks_3 : decode cX11_asks 3 = .ok (.getfield 39, 3) := dko_180 (dk_t 3 3 [180, 0, 39, 42, 180, 0, 36, 182, 0, 214, 42] dwX11_asks_0 rfl rfl)
theorem dX11_asks_6 : decode cX11_asks 6 = .ok (.aload_n 0, 1) := dko_42 (dk_t 6 6 [42, 180, 0, 36, 182, 0, 214, 42] dwX11_asks_0 rfl rfl)
theorem dX11_asks_7 : decode cX11_asks 7 = .ok (.getfield 36, 3) := dko_180 (dk_t 7 7 [180, 0, 36, 182, 0, 214, 42] dwX11_asks_0 rfl rfl)
theorem dX11_asks_10 : decode cX11_asks 10 = .ok (.invokevirtual 214, 3) := dko_182 (dk_t 10 10 [182, 0, 214, 42] dwX11_asks_0 rfl rfl)
theorem dX11_asks_13 : decode cX11_asks 13 = .ok (.aload_n 0, 1) := dko_42 (dk_t 13 13 [42] dwX11_asks_0 rfl rfl)
theorem dwX11_asks_14 : dkW cX11_asks 14 [182, 1, 57, 172] = true := by decide +kernel
theorem dX11_asks_14 : decode cX11_asks 14 = .ok (.invokevirtual 313, 3) := dko_182 dwX11_asks_14
theorem dX11_asks_17 : decode cX11_asks 17 = .ok (.ireturn, 1) := dko_172 (dk_t 3 17 [172] dwX11_asks_14 rfl rfl)
theorem dwX11_look_0 : dkW cX11_look 0 [42, 42, 180, 0, 36, 42, 180, 0, 9, 3, 182, 0, 210, 42] = true := by decide +kernel
theorem dX11_look_0 : decode cX11_look 0 = .ok (.aload_n 0, 1) := dko_42 dwX11_look_0
theorem dX11_look_1 : decode cX11_look 1 = .ok (.aload_n 0, 1) := dko_42 (dk_t 1 1 [42, 180, 0, 36, 42, 180, 0, 9, 3, 182, 0, 210, 42] dwX11_look_0 rfl rfl)
theorem dX11_look_2 : decode cX11_look 2 = .ok (.getfield 36, 3) := dko_180 (dk_t 2 2 [180, 0, 36, 42, 180, 0, 9, 3, 182, 0, 210, 42] dwX11_look_0 rfl rfl)
theorem dX11_look_5 : decode cX11_look 5 = .ok (.aload_n 0, 1) := dko_42 (dk_t 5 5 [42, 180, 0, 9, 3, 182, 0, 210, 42] dwX11_look_0 rfl rfl)
theorem dX11_look_6 : decode cX11_look 6 = .ok (.getfield 9, 3) := dko_180 (dk_t 6 6 [180, 0, 9, 3, 182, 0, 210, 42] dwX11_look_0 rfl rfl)
theorem dX11_look_9 : decode cX11_look 9 = .ok (.iconst 0, 1) := dko_3 (dk_t 9 9 [3, 182, 0, 210, 42] dwX11_look_0 rfl rfl)
theorem dX11_look_10 : decode cX11_look 10 = .ok (.invokevirtual 210, 3) := dko_182 (dk_t 10 10 [182, 0, 210, 42] dwX11_look_0 rfl rfl)
theorem dX11_look_13 : decode cX11_look 13 = .ok (.aload_n 0, 1) := dko_42 (dk_t 13 13 [42] dwX11_look_0 rfl rfl)
theorem dwX11_look_14 : dkW cX11_look 14 [5, 42, 180, 0, 39, 42, 180, 0, 36, 182, 0, 214, 42, 42] = true := by decide +kernel
theorem dX11_look_14 : decode cX11_look 14 = .ok (.iconst 2, 1) := dko_5 dwX11_look_14
theorem dX11_look_15 : decode cX11_look 15 = .ok (.aload_n 0, 1) := dko_42 (dk_t 1 15 [42, 180, 0, 39, 42, 180, 0, 36, 182, 0, 214, 42, 42] dwX11_look_14 rfl rfl)
theorem dX11_look_16 : decode cX11_look 16 = .ok (.getfield 39, 3) := dko_180 (dk_t 2 16 [180, 0, 39, 42, 180, 0, 36, 182, 0, 214, 42, 42] dwX11_look_14 rfl rfl)
theorem dX11_look_19 : decode cX11_look 19 = .ok (.aload_n 0, 1) := dko_42 (dk_t 5 19 [42, 180, 0, 36, 182, 0, 214, 42, 42] dwX11_look_14 rfl rfl)
theorem dX11_look_20 : decode cX11_look 20 = .ok (.getfield 36, 3) := dko_180 (dk_t 6 20 [180, 0, 36, 182, 0, 214, 42, 42] dwX11_look_14 rfl rfl)
theorem dX11_look_23 : decode cX11_look 23 = .ok (.invokevirtual 214, 3) := dko_182 (dk_t 9 23 [182, 0, 214, 42, 42] dwX11_look_14 rfl rfl)
theorem dX11_look_26 : decode cX11_look 26 = .ok (.aload_n 0, 1) := dko_42 (dk_t 12 26 [42, 42] dwX11_look_14 rfl rfl)
theorem dX11_look_27 : decode cX11_look 27 = .ok (.aload_n 0, 1) := dko_42 (dk_t 13 27 [42] dwX11_look_14 rfl rfl)
theorem dwX11_look_28 : dkW cX11_look 28 [180, 0, 203, 181, 1, 60, 42, 42, 3, 182, 1, 63] = true := by decide +kernel
theorem dX11_look_28 : decode cX11_look 28 = .ok (.getfield 203, 3) := dko_180 dwX11_look_28
theorem dX11_look_31 : decode cX11_look 31 = .ok (.putfield 316, 3) := dko_181 (dk_t 3 31 [181, 1, 60, 42, 42, 3, 182, 1, 63] dwX11_look_28 rfl rfl)
theorem dX11_look_34 : decode cX11_look 34 = .ok (.aload_n 0, 1) := dko_42 (dk_t 6 34 [42, 42, 3, 182, 1, 63] dwX11_look_28 rfl rfl)
theorem dX11_look_35 : decode cX11_look 35 = .ok (.aload_n 0, 1) := dko_42 (dk_t 7 35 [42, 3, 182, 1, 63] dwX11_look_28 rfl rfl)
theorem dX11_look_36 : decode cX11_look 36 = .ok (.iconst 0, 1) := dko_3 (dk_t 8 36 [3, 182, 1, 63] dwX11_look_28 rfl rfl)
theorem dX11_look_37 : decode cX11_look 37 = .ok (.invokevirtual 319, 3) := dko_182 (dk_t 9 37 [182, 1, 63] dwX11_look_28 rfl rfl)
theorem dwX11_look_40 : dkW cX11_look 40 [181, 1, 66, 42, 180, 1, 66, 172] = true := by decide +kernel
theorem dX11_look_40 : decode cX11_look 40 = .ok (.putfield 322, 3) := dko_181 dwX11_look_40
theorem dX11_look_43 : decode cX11_look 43 = .ok (.aload_n 0, 1) := dko_42 (dk_t 3 43 [42, 180, 1, 66, 172] dwX11_look_40 rfl rfl)
theorem dX11_look_44 : decode cX11_look 44 = .ok (.getfield 322, 3) := dko_180 (dk_t 4 44 [180, 1, 66, 172] dwX11_look_40 rfl rfl)
theorem dX11_look_47 : decode cX11_look 47 = .ok (.ireturn, 1) := dko_172 (dk_t 7 47 [172] dwX11_look_40 rfl rfl)
theorem dwX11_refuses_0 : dkW cX11_refuses 0 [42, 180, 0, 27, 8, 92, 46, 42, 180, 0, 206, 153, 0, 7] = true := by decide +kernel
theorem dX11_refuses_0 : decode cX11_refuses 0 = .ok (.aload_n 0, 1) := dko_42 dwX11_refuses_0
theorem dX11_refuses_1 : decode cX11_refuses 1 = .ok (.getfield 27, 3) := dko_180 (dk_t 1 1 [180, 0, 27, 8, 92, 46, 42, 180, 0, 206, 153, 0, 7] dwX11_refuses_0 rfl rfl)
theorem dX11_refuses_4 : decode cX11_refuses 4 = .ok (.iconst 5, 1) := dko_8 (dk_t 4 4 [8, 92, 46, 42, 180, 0, 206, 153, 0, 7] dwX11_refuses_0 rfl rfl)
theorem dX11_refuses_5 : decode cX11_refuses 5 = .ok (.dup2, 1) := dko_92 (dk_t 5 5 [92, 46, 42, 180, 0, 206, 153, 0, 7] dwX11_refuses_0 rfl rfl)
theorem dX11_refuses_6 : decode cX11_refuses 6 = .ok (.iaload, 1) := dko_46 (dk_t 6 6 [46, 42, 180, 0, 206, 153, 0, 7] dwX11_refuses_0 rfl rfl)
theorem dX11_refuses_7 : decode cX11_refuses 7 = .ok (.aload_n 0, 1) := dko_42 (dk_t 7 7 [42, 180, 0, 206, 153, 0, 7] dwX11_refuses_0 rfl rfl)
theorem dX11_refuses_8 : decode cX11_refuses 8 = .ok (.getfield 206, 3) := dko_180 (dk_t 8 8 [180, 0, 206, 153, 0, 7] dwX11_refuses_0 rfl rfl)
theorem dX11_refuses_11 : decode cX11_refuses 11 = .ok (.ifCond .eq 7, 3) := dko_153 (dk_t 11 11 [153, 0, 7] dwX11_refuses_0 rfl rfl)
theorem dwX11_refuses_14 : dkW cX11_refuses 14 [4, 167, 0, 4, 3, 96, 79, 27, 172] = true := by decide +kernel
theorem dX11_refuses_14 : decode cX11_refuses 14 = .ok (.iconst 1, 1) := dko_4 dwX11_refuses_14
theorem dX11_refuses_15 : decode cX11_refuses 15 = .ok (.goto 4, 3) := dko_167 (dk_t 1 15 [167, 0, 4, 3, 96, 79, 27, 172] dwX11_refuses_14 rfl rfl)
theorem dX11_refuses_18 : decode cX11_refuses 18 = .ok (.iconst 0, 1) := dko_3 (dk_t 4 18 [3, 96, 79, 27, 172] dwX11_refuses_14 rfl rfl)
theorem dX11_refuses_19 : decode cX11_refuses 19 = .ok (.iadd, 1) := dko_96 (dk_t 5 19 [96, 79, 27, 172] dwX11_refuses_14 rfl rfl)
theorem dX11_refuses_20 : decode cX11_refuses 20 = .ok (.iastore, 1) := dko_79 (dk_t 6 20 [79, 27, 172] dwX11_refuses_14 rfl rfl)
theorem dX11_refuses_21 : decode cX11_refuses 21 = .ok (.iload_n 1, 1) := dko_27 (dk_t 7 21 [27, 172] dwX11_refuses_14 rfl rfl)
theorem dX11_refuses_22 : decode cX11_refuses 22 = .ok (.ireturn, 1) := dko_172 (dk_t 8 22 [172] dwX11_refuses_14 rfl rfl)
theorem dwX11_goesBack_0 : dkW cX11_goesBack 0 [42, 180, 0, 21, 3, 42, 180, 0, 9, 3, 184, 1, 53, 42] = true := by decide +kernel
theorem dX11_goesBack_0 : decode cX11_goesBack 0 = .ok (.aload_n 0, 1) := dko_42 dwX11_goesBack_0
theorem dX11_goesBack_1 : decode cX11_goesBack 1 = .ok (.getfield 21, 3) := dko_180 (dk_t 1 1 [180, 0, 21, 3, 42, 180, 0, 9, 3, 184, 1, 53, 42] dwX11_goesBack_0 rfl rfl)
theorem dX11_goesBack_4 : decode cX11_goesBack 4 = .ok (.iconst 0, 1) := dko_3 (dk_t 4 4 [3, 42, 180, 0, 9, 3, 184, 1, 53, 42] dwX11_goesBack_0 rfl rfl)
theorem dX11_goesBack_5 : decode cX11_goesBack 5 = .ok (.aload_n 0, 1) := dko_42 (dk_t 5 5 [42, 180, 0, 9, 3, 184, 1, 53, 42] dwX11_goesBack_0 rfl rfl)
theorem dX11_goesBack_6 : decode cX11_goesBack 6 = .ok (.getfield 9, 3) := dko_180 (dk_t 6 6 [180, 0, 9, 3, 184, 1, 53, 42] dwX11_goesBack_0 rfl rfl)
theorem dX11_goesBack_9 : decode cX11_goesBack 9 = .ok (.iconst 0, 1) := dko_3 (dk_t 9 9 [3, 184, 1, 53, 42] dwX11_goesBack_0 rfl rfl)
theorem dX11_goesBack_10 : decode cX11_goesBack 10 = .ok (.invokestatic 309, 3) := dko_184 (dk_t 10 10 [184, 1, 53, 42] dwX11_goesBack_0 rfl rfl)
theorem dX11_goesBack_13 : decode cX11_goesBack 13 = .ok (.aload_n 0, 1) := dko_42 (dk_t 13 13 [42] dwX11_goesBack_0 rfl rfl)
theorem dwX11_goesBack_14 : dkW cX11_goesBack 14 [42, 180, 0, 51, 42, 180, 1, 66, 46, 42, 180, 0, 54, 42] = true := by decide +kernel
theorem dX11_goesBack_14 : decode cX11_goesBack 14 = .ok (.aload_n 0, 1) := dko_42 dwX11_goesBack_14
theorem dX11_goesBack_15 : decode cX11_goesBack 15 = .ok (.getfield 51, 3) := dko_180 (dk_t 1 15 [180, 0, 51, 42, 180, 1, 66, 46, 42, 180, 0, 54, 42] dwX11_goesBack_14 rfl rfl)
theorem dX11_goesBack_18 : decode cX11_goesBack 18 = .ok (.aload_n 0, 1) := dko_42 (dk_t 4 18 [42, 180, 1, 66, 46, 42, 180, 0, 54, 42] dwX11_goesBack_14 rfl rfl)
theorem dX11_goesBack_19 : decode cX11_goesBack 19 = .ok (.getfield 322, 3) := dko_180 (dk_t 5 19 [180, 1, 66, 46, 42, 180, 0, 54, 42] dwX11_goesBack_14 rfl rfl)
theorem dX11_goesBack_22 : decode cX11_goesBack 22 = .ok (.iaload, 1) := dko_46 (dk_t 8 22 [46, 42, 180, 0, 54, 42] dwX11_goesBack_14 rfl rfl)
theorem dX11_goesBack_23 : decode cX11_goesBack 23 = .ok (.aload_n 0, 1) := dko_42 (dk_t 9 23 [42, 180, 0, 54, 42] dwX11_goesBack_14 rfl rfl)
theorem dX11_goesBack_24 : decode cX11_goesBack 24 = .ok (.getfield 54, 3) := dko_180 (dk_t 10 24 [180, 0, 54, 42] dwX11_goesBack_14 rfl rfl)
theorem dX11_goesBack_27 : decode cX11_goesBack 27 = .ok (.aload_n 0, 1) := dko_42 (dk_t 13 27 [42] dwX11_goesBack_14 rfl rfl)
theorem dwX11_goesBack_28 : dkW cX11_goesBack 28 [180, 1, 66, 46, 182, 1, 43, 42, 16, 251, 182, 1, 69, 172] = true := by decide +kernel
theorem dX11_goesBack_28 : decode cX11_goesBack 28 = .ok (.getfield 322, 3) := dko_180 dwX11_goesBack_28
theorem dX11_goesBack_31 : decode cX11_goesBack 31 = .ok (.iaload, 1) := dko_46 (dk_t 3 31 [46, 182, 1, 43, 42, 16, 251, 182, 1, 69, 172] dwX11_goesBack_28 rfl rfl)
theorem dX11_goesBack_32 : decode cX11_goesBack 32 = .ok (.invokevirtual 299, 3) := dko_182 (dk_t 4 32 [182, 1, 43, 42, 16, 251, 182, 1, 69, 172] dwX11_goesBack_28 rfl rfl)
theorem dX11_goesBack_35 : decode cX11_goesBack 35 = .ok (.aload_n 0, 1) := dko_42 (dk_t 7 35 [42, 16, 251, 182, 1, 69, 172] dwX11_goesBack_28 rfl rfl)
theorem dX11_goesBack_36 : decode cX11_goesBack 36 = .ok (.bipush (-5), 2) := dko_16 (dk_t 8 36 [16, 251, 182, 1, 69, 172] dwX11_goesBack_28 rfl rfl)
theorem dX11_goesBack_38 : decode cX11_goesBack 38 = .ok (.invokevirtual 325, 3) := dko_182 (dk_t 10 38 [182, 1, 69, 172] dwX11_goesBack_28 rfl rfl)
theorem dX11_goesBack_41 : decode cX11_goesBack 41 = .ok (.ireturn, 1) := dko_172 (dk_t 13 41 [172] dwX11_goesBack_28 rfl rfl)
theorem dwX11_settles_0 : dkW cX11_settles 0 [42, 182, 1, 72, 2, 159, 0, 23, 42, 180, 0, 30, 3, 92] = true := by decide +kernel
theorem dX11_settles_0 : decode cX11_settles 0 = .ok (.aload_n 0, 1) := dko_42 dwX11_settles_0
theorem dX11_settles_1 : decode cX11_settles 1 = .ok (.invokevirtual 328, 3) := dko_182 (dk_t 1 1 [182, 1, 72, 2, 159, 0, 23, 42, 180, 0, 30, 3, 92] dwX11_settles_0 rfl rfl)
theorem dX11_settles_4 : decode cX11_settles 4 = .ok (.iconst (-1), 1) := dko_2 (dk_t 4 4 [2, 159, 0, 23, 42, 180, 0, 30, 3, 92] dwX11_settles_0 rfl rfl)
theorem dX11_settles_5 : decode cX11_settles 5 = .ok (.if_icmp .eq 23, 3) := dko_159 (dk_t 5 5 [159, 0, 23, 42, 180, 0, 30, 3, 92] dwX11_settles_0 rfl rfl)
theorem dX11_settles_8 : decode cX11_settles 8 = .ok (.aload_n 0, 1) := dko_42 (dk_t 8 8 [42, 180, 0, 30, 3, 92] dwX11_settles_0 rfl rfl)
theorem dX11_settles_9 : decode cX11_settles 9 = .ok (.getfield 30, 3) := dko_180 (dk_t 9 9 [180, 0, 30, 3, 92] dwX11_settles_0 rfl rfl)
theorem dX11_settles_12 : decode cX11_settles 12 = .ok (.iconst 0, 1) := dko_3 (dk_t 12 12 [3, 92] dwX11_settles_0 rfl rfl)
theorem dX11_settles_13 : decode cX11_settles 13 = .ok (.dup2, 1) := dko_92 (dk_t 13 13 [92] dwX11_settles_0 rfl rfl)
theorem dwX11_settles_14 : dkW cX11_settles 14 [46, 42, 180, 1, 66, 4, 96, 96, 79, 42, 182, 1, 75, 172] = true := by decide +kernel
theorem dX11_settles_14 : decode cX11_settles 14 = .ok (.iaload, 1) := dko_46 dwX11_settles_14
theorem dX11_settles_15 : decode cX11_settles 15 = .ok (.aload_n 0, 1) := dko_42 (dk_t 1 15 [42, 180, 1, 66, 4, 96, 96, 79, 42, 182, 1, 75, 172] dwX11_settles_14 rfl rfl)
theorem dX11_settles_16 : decode cX11_settles 16 = .ok (.getfield 322, 3) := dko_180 (dk_t 2 16 [180, 1, 66, 4, 96, 96, 79, 42, 182, 1, 75, 172] dwX11_settles_14 rfl rfl)
theorem dX11_settles_19 : decode cX11_settles 19 = .ok (.iconst 1, 1) := dko_4 (dk_t 5 19 [4, 96, 96, 79, 42, 182, 1, 75, 172] dwX11_settles_14 rfl rfl)
theorem dX11_settles_20 : decode cX11_settles 20 = .ok (.iadd, 1) := dko_96 (dk_t 6 20 [96, 96, 79, 42, 182, 1, 75, 172] dwX11_settles_14 rfl rfl)
theorem dX11_settles_21 : decode cX11_settles 21 = .ok (.iadd, 1) := dko_96 (dk_t 7 21 [96, 79, 42, 182, 1, 75, 172] dwX11_settles_14 rfl rfl)
theorem dX11_settles_22 : decode cX11_settles 22 = .ok (.iastore, 1) := dko_79 (dk_t 8 22 [79, 42, 182, 1, 75, 172] dwX11_settles_14 rfl rfl)
theorem dX11_settles_23 : decode cX11_settles 23 = .ok (.aload_n 0, 1) := dko_42 (dk_t 9 23 [42, 182, 1, 75, 172] dwX11_settles_14 rfl rfl)
theorem dX11_settles_24 : decode cX11_settles 24 = .ok (.invokevirtual 331, 3) := dko_182 (dk_t 10 24 [182, 1, 75, 172] dwX11_settles_14 rfl rfl)
theorem dX11_settles_27 : decode cX11_settles 27 = .ok (.ireturn, 1) := dko_172 (dk_t 13 27 [172] dwX11_settles_14 rfl rfl)
theorem dwX11_settles_28 : dkW cX11_settles 28 [42, 180, 0, 30, 3, 92, 46, 42, 180, 0, 203, 96, 79, 42] = true := by decide +kernel
theorem dX11_settles_28 : decode cX11_settles 28 = .ok (.aload_n 0, 1) := dko_42 dwX11_settles_28
theorem dX11_settles_29 : decode cX11_settles 29 = .ok (.getfield 30, 3) := dko_180 (dk_t 1 29 [180, 0, 30, 3, 92, 46, 42, 180, 0, 203, 96, 79, 42] dwX11_settles_28 rfl rfl)
theorem dX11_settles_32 : decode cX11_settles 32 = .ok (.iconst 0, 1) := dko_3 (dk_t 4 32 [3, 92, 46, 42, 180, 0, 203, 96, 79, 42] dwX11_settles_28 rfl rfl)
theorem dX11_settles_33 : decode cX11_settles 33 = .ok (.dup2, 1) := dko_92 (dk_t 5 33 [92, 46, 42, 180, 0, 203, 96, 79, 42] dwX11_settles_28 rfl rfl)
theorem dX11_settles_34 : decode cX11_settles 34 = .ok (.iaload, 1) := dko_46 (dk_t 6 34 [46, 42, 180, 0, 203, 96, 79, 42] dwX11_settles_28 rfl rfl)
theorem dX11_settles_35 : decode cX11_settles 35 = .ok (.aload_n 0, 1) := dko_42 (dk_t 7 35 [42, 180, 0, 203, 96, 79, 42] dwX11_settles_28 rfl rfl)
theorem dX11_settles_36 : decode cX11_settles 36 = .ok (.getfield 203, 3) := dko_180 (dk_t 8 36 [180, 0, 203, 96, 79, 42] dwX11_settles_28 rfl rfl)
theorem dX11_settles_39 : decode cX11_settles 39 = .ok (.iadd, 1) := dko_96 (dk_t 11 39 [96, 79, 42] dwX11_settles_28 rfl rfl)
theorem dX11_settles_40 : decode cX11_settles 40 = .ok (.iastore, 1) := dko_79 (dk_t 12 40 [79, 42] dwX11_settles_28 rfl rfl)
theorem dX11_settles_41 : decode cX11_settles 41 = .ok (.aload_n 0, 1) := dko_42 (dk_t 13 41 [42] dwX11_settles_28 rfl rfl)
theorem dwX11_settles_42 : dkW cX11_settles 42 [180, 0, 206, 153, 0, 44, 42, 180, 0, 27, 7, 92, 46, 4] = true := by decide +kernel
theorem dX11_settles_42 : decode cX11_settles 42 = .ok (.getfield 206, 3) := dko_180 dwX11_settles_42
theorem dX11_settles_45 : decode cX11_settles 45 = .ok (.ifCond .eq 44, 3) := dko_153 (dk_t 3 45 [153, 0, 44, 42, 180, 0, 27, 7, 92, 46, 4] dwX11_settles_42 rfl rfl)
theorem dX11_settles_48 : decode cX11_settles 48 = .ok (.aload_n 0, 1) := dko_42 (dk_t 6 48 [42, 180, 0, 27, 7, 92, 46, 4] dwX11_settles_42 rfl rfl)
theorem dX11_settles_49 : decode cX11_settles 49 = .ok (.getfield 27, 3) := dko_180 (dk_t 7 49 [180, 0, 27, 7, 92, 46, 4] dwX11_settles_42 rfl rfl)
theorem dX11_settles_52 : decode cX11_settles 52 = .ok (.iconst 4, 1) := dko_7 (dk_t 10 52 [7, 92, 46, 4] dwX11_settles_42 rfl rfl)
theorem dX11_settles_53 : decode cX11_settles 53 = .ok (.dup2, 1) := dko_92 (dk_t 11 53 [92, 46, 4] dwX11_settles_42 rfl rfl)
theorem dX11_settles_54 : decode cX11_settles 54 = .ok (.iaload, 1) := dko_46 (dk_t 12 54 [46, 4] dwX11_settles_42 rfl rfl)
theorem dX11_settles_55 : decode cX11_settles 55 = .ok (.iconst 1, 1) := dko_4 (dk_t 13 55 [4] dwX11_settles_42 rfl rfl)
theorem dwX11_settles_56 : dkW cX11_settles 56 [96, 79, 42, 42, 180, 0, 42, 42, 180, 0, 15, 3] = true := by decide +kernel
theorem dX11_settles_56 : decode cX11_settles 56 = .ok (.iadd, 1) := dko_96 dwX11_settles_56
theorem dX11_settles_57 : decode cX11_settles 57 = .ok (.iastore, 1) := dko_79 (dk_t 1 57 [79, 42, 42, 180, 0, 42, 42, 180, 0, 15, 3] dwX11_settles_56 rfl rfl)
theorem dX11_settles_58 : decode cX11_settles 58 = .ok (.aload_n 0, 1) := dko_42 (dk_t 2 58 [42, 42, 180, 0, 42, 42, 180, 0, 15, 3] dwX11_settles_56 rfl rfl)
theorem dX11_settles_59 : decode cX11_settles 59 = .ok (.aload_n 0, 1) := dko_42 (dk_t 3 59 [42, 180, 0, 42, 42, 180, 0, 15, 3] dwX11_settles_56 rfl rfl)
theorem dX11_settles_60 : decode cX11_settles 60 = .ok (.getfield 42, 3) := dko_180 (dk_t 4 60 [180, 0, 42, 42, 180, 0, 15, 3] dwX11_settles_56 rfl rfl)
theorem dX11_settles_63 : decode cX11_settles 63 = .ok (.aload_n 0, 1) := dko_42 (dk_t 7 63 [42, 180, 0, 15, 3] dwX11_settles_56 rfl rfl)
theorem dX11_settles_64 : decode cX11_settles 64 = .ok (.getfield 15, 3) := dko_180 (dk_t 8 64 [180, 0, 15, 3] dwX11_settles_56 rfl rfl)
theorem dX11_settles_67 : decode cX11_settles 67 = .ok (.iconst 0, 1) := dko_3 (dk_t 11 67 [3] dwX11_settles_56 rfl rfl)
theorem dwX11_settles_68 : dkW cX11_settles 68 [182, 0, 210, 42, 42, 180, 0, 39, 42, 180, 0, 36, 4] = true := by decide +kernel
theorem dX11_settles_68 : decode cX11_settles 68 = .ok (.invokevirtual 210, 3) := dko_182 dwX11_settles_68
theorem dX11_settles_71 : decode cX11_settles 71 = .ok (.aload_n 0, 1) := dko_42 (dk_t 3 71 [42, 42, 180, 0, 39, 42, 180, 0, 36, 4] dwX11_settles_68 rfl rfl)
theorem dX11_settles_72 : decode cX11_settles 72 = .ok (.aload_n 0, 1) := dko_42 (dk_t 4 72 [42, 180, 0, 39, 42, 180, 0, 36, 4] dwX11_settles_68 rfl rfl)
theorem dX11_settles_73 : decode cX11_settles 73 = .ok (.getfield 39, 3) := dko_180 (dk_t 5 73 [180, 0, 39, 42, 180, 0, 36, 4] dwX11_settles_68 rfl rfl)
theorem dX11_settles_76 : decode cX11_settles 76 = .ok (.aload_n 0, 1) := dko_42 (dk_t 8 76 [42, 180, 0, 36, 4] dwX11_settles_68 rfl rfl)
theorem dX11_settles_77 : decode cX11_settles 77 = .ok (.getfield 36, 3) := dko_180 (dk_t 9 77 [180, 0, 36, 4] dwX11_settles_68 rfl rfl)
theorem dX11_settles_80 : decode cX11_settles 80 = .ok (.iconst 1, 1) := dko_4 (dk_t 12 80 [4] dwX11_settles_68 rfl rfl)
theorem dwX11_settles_81 : dkW cX11_settles 81 [182, 1, 78, 42, 180, 1, 60, 172, 42, 42, 4, 182, 1, 63] = true := by decide +kernel
theorem dX11_settles_81 : decode cX11_settles 81 = .ok (.invokevirtual 334, 3) := dko_182 dwX11_settles_81
theorem dX11_settles_84 : decode cX11_settles 84 = .ok (.aload_n 0, 1) := dko_42 (dk_t 3 84 [42, 180, 1, 60, 172, 42, 42, 4, 182, 1, 63] dwX11_settles_81 rfl rfl)
theorem dX11_settles_85 : decode cX11_settles 85 = .ok (.getfield 316, 3) := dko_180 (dk_t 4 85 [180, 1, 60, 172, 42, 42, 4, 182, 1, 63] dwX11_settles_81 rfl rfl)
theorem dX11_settles_88 : decode cX11_settles 88 = .ok (.ireturn, 1) := dko_172 (dk_t 7 88 [172, 42, 42, 4, 182, 1, 63] dwX11_settles_81 rfl rfl)
theorem dX11_settles_89 : decode cX11_settles 89 = .ok (.aload_n 0, 1) := dko_42 (dk_t 8 89 [42, 42, 4, 182, 1, 63] dwX11_settles_81 rfl rfl)
theorem dX11_settles_90 : decode cX11_settles 90 = .ok (.aload_n 0, 1) := dko_42 (dk_t 9 90 [42, 4, 182, 1, 63] dwX11_settles_81 rfl rfl)
theorem dX11_settles_91 : decode cX11_settles 91 = .ok (.iconst 1, 1) := dko_4 (dk_t 10 91 [4, 182, 1, 63] dwX11_settles_81 rfl rfl)
theorem dX11_settles_92 : decode cX11_settles 92 = .ok (.invokevirtual 319, 3) := dko_182 (dk_t 11 92 [182, 1, 63] dwX11_settles_81 rfl rfl)
theorem dwX11_settles_95 : dkW cX11_settles 95 [181, 1, 66, 42, 182, 1, 81, 42, 180, 1, 66, 2] = true := by decide +kernel
theorem dX11_settles_95 : decode cX11_settles 95 = .ok (.putfield 322, 3) := dko_181 dwX11_settles_95
theorem dX11_settles_98 : decode cX11_settles 98 = .ok (.aload_n 0, 1) := dko_42 (dk_t 3 98 [42, 182, 1, 81, 42, 180, 1, 66, 2] dwX11_settles_95 rfl rfl)
theorem dX11_settles_99 : decode cX11_settles 99 = .ok (.invokevirtual 337, 3) := dko_182 (dk_t 4 99 [182, 1, 81, 42, 180, 1, 66, 2] dwX11_settles_95 rfl rfl)
theorem dX11_settles_102 : decode cX11_settles 102 = .ok (.aload_n 0, 1) := dko_42 (dk_t 7 102 [42, 180, 1, 66, 2] dwX11_settles_95 rfl rfl)
theorem dX11_settles_103 : decode cX11_settles 103 = .ok (.getfield 322, 3) := dko_180 (dk_t 8 103 [180, 1, 66, 2] dwX11_settles_95 rfl rfl)
theorem dX11_settles_106 : decode cX11_settles 106 = .ok (.iconst (-1), 1) := dko_2 (dk_t 11 106 [2] dwX11_settles_95 rfl rfl)
theorem dwX11_settles_107 : dkW cX11_settles 107 [159, 0, 18, 42, 180, 0, 30, 5, 92, 46, 4, 96, 79, 42] = true := by decide +kernel
theorem dX11_settles_107 : decode cX11_settles 107 = .ok (.if_icmp .eq 18, 3) := dko_159 dwX11_settles_107
theorem dX11_settles_110 : decode cX11_settles 110 = .ok (.aload_n 0, 1) := dko_42 (dk_t 3 110 [42, 180, 0, 30, 5, 92, 46, 4, 96, 79, 42] dwX11_settles_107 rfl rfl)
theorem dX11_settles_111 : decode cX11_settles 111 = .ok (.getfield 30, 3) := dko_180 (dk_t 4 111 [180, 0, 30, 5, 92, 46, 4, 96, 79, 42] dwX11_settles_107 rfl rfl)
theorem dX11_settles_114 : decode cX11_settles 114 = .ok (.iconst 2, 1) := dko_5 (dk_t 7 114 [5, 92, 46, 4, 96, 79, 42] dwX11_settles_107 rfl rfl)
theorem dX11_settles_115 : decode cX11_settles 115 = .ok (.dup2, 1) := dko_92 (dk_t 8 115 [92, 46, 4, 96, 79, 42] dwX11_settles_107 rfl rfl)
theorem dX11_settles_116 : decode cX11_settles 116 = .ok (.iaload, 1) := dko_46 (dk_t 9 116 [46, 4, 96, 79, 42] dwX11_settles_107 rfl rfl)
theorem dX11_settles_117 : decode cX11_settles 117 = .ok (.iconst 1, 1) := dko_4 (dk_t 10 117 [4, 96, 79, 42] dwX11_settles_107 rfl rfl)
theorem dX11_settles_118 : decode cX11_settles 118 = .ok (.iadd, 1) := dko_96 (dk_t 11 118 [96, 79, 42] dwX11_settles_107 rfl rfl)
theorem dX11_settles_119 : decode cX11_settles 119 = .ok (.iastore, 1) := dko_79 (dk_t 12 119 [79, 42] dwX11_settles_107 rfl rfl)
theorem dX11_settles_120 : decode cX11_settles 120 = .ok (.aload_n 0, 1) := dko_42 (dk_t 13 120 [42] dwX11_settles_107 rfl rfl)
theorem dwX11_settles_121 : dkW cX11_settles 121 [182, 1, 75, 172, 42, 180, 0, 30, 4, 92, 46, 4, 96, 79] = true := by decide +kernel
theorem dX11_settles_121 : decode cX11_settles 121 = .ok (.invokevirtual 331, 3) := dko_182 dwX11_settles_121
theorem dX11_settles_124 : decode cX11_settles 124 = .ok (.ireturn, 1) := dko_172 (dk_t 3 124 [172, 42, 180, 0, 30, 4, 92, 46, 4, 96, 79] dwX11_settles_121 rfl rfl)
theorem dX11_settles_125 : decode cX11_settles 125 = .ok (.aload_n 0, 1) := dko_42 (dk_t 4 125 [42, 180, 0, 30, 4, 92, 46, 4, 96, 79] dwX11_settles_121 rfl rfl)
theorem dX11_settles_126 : decode cX11_settles 126 = .ok (.getfield 30, 3) := dko_180 (dk_t 5 126 [180, 0, 30, 4, 92, 46, 4, 96, 79] dwX11_settles_121 rfl rfl)
theorem dX11_settles_129 : decode cX11_settles 129 = .ok (.iconst 1, 1) := dko_4 (dk_t 8 129 [4, 92, 46, 4, 96, 79] dwX11_settles_121 rfl rfl)
theorem dX11_settles_130 : decode cX11_settles 130 = .ok (.dup2, 1) := dko_92 (dk_t 9 130 [92, 46, 4, 96, 79] dwX11_settles_121 rfl rfl)
theorem dX11_settles_131 : decode cX11_settles 131 = .ok (.iaload, 1) := dko_46 (dk_t 10 131 [46, 4, 96, 79] dwX11_settles_121 rfl rfl)
theorem dX11_settles_132 : decode cX11_settles 132 = .ok (.iconst 1, 1) := dko_4 (dk_t 11 132 [4, 96, 79] dwX11_settles_121 rfl rfl)
theorem dX11_settles_133 : decode cX11_settles 133 = .ok (.iadd, 1) := dko_96 (dk_t 12 133 [96, 79] dwX11_settles_121 rfl rfl)
theorem dX11_settles_134 : decode cX11_settles 134 = .ok (.iastore, 1) := dko_79 (dk_t 13 134 [79] dwX11_settles_121 rfl rfl)
theorem dwX11_settles_135 : dkW cX11_settles 135 [42, 180, 1, 60, 172] = true := by decide +kernel
theorem dX11_settles_135 : decode cX11_settles 135 = .ok (.aload_n 0, 1) := dko_42 dwX11_settles_135
theorem dX11_settles_136 : decode cX11_settles 136 = .ok (.getfield 316, 3) := dko_180 (dk_t 1 136 [180, 1, 60, 172] dwX11_settles_135 rfl rfl)
theorem dX11_settles_139 : decode cX11_settles 139 = .ok (.ireturn, 1) := dko_172 (dk_t 4 139 [172] dwX11_settles_135 rfl rfl)
theorem dwX11_moves_0 : dkW cX11_moves 0 [3, 54, 4, 21, 4, 16, 12, 162, 0, 163, 42, 21, 4] = true := by decide +kernel
theorem dX11_moves_0 : decode cX11_moves 0 = .ok (.iconst 0, 1) := dko_3 dwX11_moves_0
theorem dX11_moves_1 : decode cX11_moves 1 = .ok (.istore 4, 2) := dko_54 (dk_t 1 1 [54, 4, 21, 4, 16, 12, 162, 0, 163, 42, 21, 4] dwX11_moves_0 rfl rfl)
theorem dX11_moves_3 : decode cX11_moves 3 = .ok (.iload 4, 2) := dko_21 (dk_t 3 3 [21, 4, 16, 12, 162, 0, 163, 42, 21, 4] dwX11_moves_0 rfl rfl)
theorem dX11_moves_5 : decode cX11_moves 5 = .ok (.bipush 12, 2) := dko_16 (dk_t 5 5 [16, 12, 162, 0, 163, 42, 21, 4] dwX11_moves_0 rfl rfl)
theorem dX11_moves_7 : decode cX11_moves 7 = .ok (.if_icmp .ge 163, 3) := dko_162 (dk_t 7 7 [162, 0, 163, 42, 21, 4] dwX11_moves_0 rfl rfl)
theorem dX11_moves_10 : decode cX11_moves 10 = .ok (.aload_n 0, 1) := dko_42 (dk_t 10 10 [42, 21, 4] dwX11_moves_0 rfl rfl)
theorem dX11_moves_11 : decode cX11_moves 11 = .ok (.iload 4, 2) := dko_21 (dk_t 11 11 [21, 4] dwX11_moves_0 rfl rfl)
theorem dwX11_moves_13 : dkW cX11_moves 13 [182, 0, 162, 153, 0, 148, 42, 21, 4, 16, 6, 182, 0, 165] = true := by decide +kernel
theorem dX11_moves_13 : decode cX11_moves 13 = .ok (.invokevirtual 162, 3) := dko_182 dwX11_moves_13
theorem dX11_moves_16 : decode cX11_moves 16 = .ok (.ifCond .eq 148, 3) := dko_153 (dk_t 3 16 [153, 0, 148, 42, 21, 4, 16, 6, 182, 0, 165] dwX11_moves_13 rfl rfl)
theorem dX11_moves_19 : decode cX11_moves 19 = .ok (.aload_n 0, 1) := dko_42 (dk_t 6 19 [42, 21, 4, 16, 6, 182, 0, 165] dwX11_moves_13 rfl rfl)
theorem dX11_moves_20 : decode cX11_moves 20 = .ok (.iload 4, 2) := dko_21 (dk_t 7 20 [21, 4, 16, 6, 182, 0, 165] dwX11_moves_13 rfl rfl)
theorem dX11_moves_22 : decode cX11_moves 22 = .ok (.bipush 6, 2) := dko_16 (dk_t 9 22 [16, 6, 182, 0, 165] dwX11_moves_13 rfl rfl)
theorem dX11_moves_24 : decode cX11_moves 24 = .ok (.invokevirtual 165, 3) := dko_182 (dk_t 11 24 [182, 0, 165] dwX11_moves_13 rfl rfl)
theorem dwX11_moves_27 : dkW cX11_moves 27 [4, 160, 0, 136, 42, 21, 4, 182, 0, 179, 54, 5, 21, 5] = true := by decide +kernel
theorem dX11_moves_27 : decode cX11_moves 27 = .ok (.iconst 1, 1) := dko_4 dwX11_moves_27
theorem dX11_moves_28 : decode cX11_moves 28 = .ok (.if_icmp .ne 136, 3) := dko_160 (dk_t 1 28 [160, 0, 136, 42, 21, 4, 182, 0, 179, 54, 5, 21, 5] dwX11_moves_27 rfl rfl)
theorem dX11_moves_31 : decode cX11_moves 31 = .ok (.aload_n 0, 1) := dko_42 (dk_t 4 31 [42, 21, 4, 182, 0, 179, 54, 5, 21, 5] dwX11_moves_27 rfl rfl)
theorem dX11_moves_32 : decode cX11_moves 32 = .ok (.iload 4, 2) := dko_21 (dk_t 5 32 [21, 4, 182, 0, 179, 54, 5, 21, 5] dwX11_moves_27 rfl rfl)
theorem dX11_moves_34 : decode cX11_moves 34 = .ok (.invokevirtual 179, 3) := dko_182 (dk_t 7 34 [182, 0, 179, 54, 5, 21, 5] dwX11_moves_27 rfl rfl)
theorem dX11_moves_37 : decode cX11_moves 37 = .ok (.istore 5, 2) := dko_54 (dk_t 10 37 [54, 5, 21, 5] dwX11_moves_27 rfl rfl)
theorem dX11_moves_39 : decode cX11_moves 39 = .ok (.iload 5, 2) := dko_21 (dk_t 12 39 [21, 5] dwX11_moves_27 rfl rfl)
theorem dwX11_moves_41 : dkW cX11_moves 41 [42, 21, 4, 182, 0, 183, 163, 0, 117, 21, 4, 21, 5] = true := by decide +kernel
theorem dX11_moves_41 : decode cX11_moves 41 = .ok (.aload_n 0, 1) := dko_42 dwX11_moves_41
theorem dX11_moves_42 : decode cX11_moves 42 = .ok (.iload 4, 2) := dko_21 (dk_t 1 42 [21, 4, 182, 0, 183, 163, 0, 117, 21, 4, 21, 5] dwX11_moves_41 rfl rfl)
theorem dX11_moves_44 : decode cX11_moves 44 = .ok (.invokevirtual 183, 3) := dko_182 (dk_t 3 44 [182, 0, 183, 163, 0, 117, 21, 4, 21, 5] dwX11_moves_41 rfl rfl)
theorem dX11_moves_47 : decode cX11_moves 47 = .ok (.if_icmp .gt 117, 3) := dko_163 (dk_t 6 47 [163, 0, 117, 21, 4, 21, 5] dwX11_moves_41 rfl rfl)
theorem dX11_moves_50 : decode cX11_moves 50 = .ok (.iload 4, 2) := dko_21 (dk_t 9 50 [21, 4, 21, 5] dwX11_moves_41 rfl rfl)
theorem dX11_moves_52 : decode cX11_moves 52 = .ok (.iload 5, 2) := dko_21 (dk_t 11 52 [21, 5] dwX11_moves_41 rfl rfl)
theorem dwX11_moves_54 : dkW cX11_moves 54 [184, 0, 186, 54, 6, 43, 21, 6, 46, 42, 180, 0, 42] = true := by decide +kernel
theorem dX11_moves_54 : decode cX11_moves 54 = .ok (.invokestatic 186, 3) := dko_184 dwX11_moves_54
theorem dX11_moves_57 : decode cX11_moves 57 = .ok (.istore 6, 2) := dko_54 (dk_t 3 57 [54, 6, 43, 21, 6, 46, 42, 180, 0, 42] dwX11_moves_54 rfl rfl)
theorem dX11_moves_59 : decode cX11_moves 59 = .ok (.aload_n 1, 1) := dko_43 (dk_t 5 59 [43, 21, 6, 46, 42, 180, 0, 42] dwX11_moves_54 rfl rfl)
theorem dX11_moves_60 : decode cX11_moves 60 = .ok (.iload 6, 2) := dko_21 (dk_t 6 60 [21, 6, 46, 42, 180, 0, 42] dwX11_moves_54 rfl rfl)
theorem dX11_moves_62 : decode cX11_moves 62 = .ok (.iaload, 1) := dko_46 (dk_t 8 62 [46, 42, 180, 0, 42] dwX11_moves_54 rfl rfl)
theorem dX11_moves_63 : decode cX11_moves 63 = .ok (.aload_n 0, 1) := dko_42 (dk_t 9 63 [42, 180, 0, 42] dwX11_moves_54 rfl rfl)
theorem dX11_moves_64 : decode cX11_moves 64 = .ok (.getfield 42, 3) := dko_180 (dk_t 10 64 [180, 0, 42] dwX11_moves_54 rfl rfl)
theorem dwX11_moves_67 : dkW cX11_moves 67 [21, 6, 46, 159, 0, 7, 4, 167, 0, 4, 3, 54, 7, 44] = true := by decide +kernel
theorem dX11_moves_67 : decode cX11_moves 67 = .ok (.iload 6, 2) := dko_21 dwX11_moves_67
theorem dX11_moves_69 : decode cX11_moves 69 = .ok (.iaload, 1) := dko_46 (dk_t 2 69 [46, 159, 0, 7, 4, 167, 0, 4, 3, 54, 7, 44] dwX11_moves_67 rfl rfl)
theorem dX11_moves_70 : decode cX11_moves 70 = .ok (.if_icmp .eq 7, 3) := dko_159 (dk_t 3 70 [159, 0, 7, 4, 167, 0, 4, 3, 54, 7, 44] dwX11_moves_67 rfl rfl)
theorem dX11_moves_73 : decode cX11_moves 73 = .ok (.iconst 1, 1) := dko_4 (dk_t 6 73 [4, 167, 0, 4, 3, 54, 7, 44] dwX11_moves_67 rfl rfl)
theorem dX11_moves_74 : decode cX11_moves 74 = .ok (.goto 4, 3) := dko_167 (dk_t 7 74 [167, 0, 4, 3, 54, 7, 44] dwX11_moves_67 rfl rfl)
theorem dX11_moves_77 : decode cX11_moves 77 = .ok (.iconst 0, 1) := dko_3 (dk_t 10 77 [3, 54, 7, 44] dwX11_moves_67 rfl rfl)
theorem dX11_moves_78 : decode cX11_moves 78 = .ok (.istore 7, 2) := dko_54 (dk_t 11 78 [54, 7, 44] dwX11_moves_67 rfl rfl)
theorem dX11_moves_80 : decode cX11_moves 80 = .ok (.aload_n 2, 1) := dko_44 (dk_t 13 80 [44] dwX11_moves_67 rfl rfl)
theorem dwX11_moves_81 : dkW cX11_moves 81 [21, 6, 46, 42, 180, 0, 42, 21, 6, 46, 159, 0, 7, 4] = true := by decide +kernel
theorem dX11_moves_81 : decode cX11_moves 81 = .ok (.iload 6, 2) := dko_21 dwX11_moves_81
theorem dX11_moves_83 : decode cX11_moves 83 = .ok (.iaload, 1) := dko_46 (dk_t 2 83 [46, 42, 180, 0, 42, 21, 6, 46, 159, 0, 7, 4] dwX11_moves_81 rfl rfl)
theorem dX11_moves_84 : decode cX11_moves 84 = .ok (.aload_n 0, 1) := dko_42 (dk_t 3 84 [42, 180, 0, 42, 21, 6, 46, 159, 0, 7, 4] dwX11_moves_81 rfl rfl)
theorem dX11_moves_85 : decode cX11_moves 85 = .ok (.getfield 42, 3) := dko_180 (dk_t 4 85 [180, 0, 42, 21, 6, 46, 159, 0, 7, 4] dwX11_moves_81 rfl rfl)
theorem dX11_moves_88 : decode cX11_moves 88 = .ok (.iload 6, 2) := dko_21 (dk_t 7 88 [21, 6, 46, 159, 0, 7, 4] dwX11_moves_81 rfl rfl)
theorem dX11_moves_90 : decode cX11_moves 90 = .ok (.iaload, 1) := dko_46 (dk_t 9 90 [46, 159, 0, 7, 4] dwX11_moves_81 rfl rfl)
theorem dX11_moves_91 : decode cX11_moves 91 = .ok (.if_icmp .eq 7, 3) := dko_159 (dk_t 10 91 [159, 0, 7, 4] dwX11_moves_81 rfl rfl)
theorem dX11_moves_94 : decode cX11_moves 94 = .ok (.iconst 1, 1) := dko_4 (dk_t 13 94 [4] dwX11_moves_81 rfl rfl)
theorem dwX11_moves_95 : dkW cX11_moves 95 [167, 0, 4, 3, 54, 8, 42, 180, 0, 27, 29, 4] = true := by decide +kernel
theorem dX11_moves_95 : decode cX11_moves 95 = .ok (.goto 4, 3) := dko_167 dwX11_moves_95
theorem dX11_moves_98 : decode cX11_moves 98 = .ok (.iconst 0, 1) := dko_3 (dk_t 3 98 [3, 54, 8, 42, 180, 0, 27, 29, 4] dwX11_moves_95 rfl rfl)
theorem dX11_moves_99 : decode cX11_moves 99 = .ok (.istore 8, 2) := dko_54 (dk_t 4 99 [54, 8, 42, 180, 0, 27, 29, 4] dwX11_moves_95 rfl rfl)
theorem dX11_moves_101 : decode cX11_moves 101 = .ok (.aload_n 0, 1) := dko_42 (dk_t 6 101 [42, 180, 0, 27, 29, 4] dwX11_moves_95 rfl rfl)
theorem dX11_moves_102 : decode cX11_moves 102 = .ok (.getfield 27, 3) := dko_180 (dk_t 7 102 [180, 0, 27, 29, 4] dwX11_moves_95 rfl rfl)
theorem dX11_moves_105 : decode cX11_moves 105 = .ok (.iload_n 3, 1) := dko_29 (dk_t 10 105 [29, 4] dwX11_moves_95 rfl rfl)
theorem dX11_moves_106 : decode cX11_moves 106 = .ok (.iconst 1, 1) := dko_4 (dk_t 11 106 [4] dwX11_moves_95 rfl rfl)
theorem dwX11_moves_107 : dkW cX11_moves 107 [160, 0, 7, 3, 167, 0, 4, 6, 92, 46, 21, 8] = true := by decide +kernel
theorem dX11_moves_107 : decode cX11_moves 107 = .ok (.if_icmp .ne 7, 3) := dko_160 dwX11_moves_107
theorem dX11_moves_110 : decode cX11_moves 110 = .ok (.iconst 0, 1) := dko_3 (dk_t 3 110 [3, 167, 0, 4, 6, 92, 46, 21, 8] dwX11_moves_107 rfl rfl)
theorem dX11_moves_111 : decode cX11_moves 111 = .ok (.goto 4, 3) := dko_167 (dk_t 4 111 [167, 0, 4, 6, 92, 46, 21, 8] dwX11_moves_107 rfl rfl)
theorem dX11_moves_114 : decode cX11_moves 114 = .ok (.iconst 3, 1) := dko_6 (dk_t 7 114 [6, 92, 46, 21, 8] dwX11_moves_107 rfl rfl)
theorem dX11_moves_115 : decode cX11_moves 115 = .ok (.dup2, 1) := dko_92 (dk_t 8 115 [92, 46, 21, 8] dwX11_moves_107 rfl rfl)
theorem dX11_moves_116 : decode cX11_moves 116 = .ok (.iaload, 1) := dko_46 (dk_t 9 116 [46, 21, 8] dwX11_moves_107 rfl rfl)
theorem dX11_moves_117 : decode cX11_moves 117 = .ok (.iload 8, 2) := dko_21 (dk_t 10 117 [21, 8] dwX11_moves_107 rfl rfl)
theorem dwX11_moves_119 : dkW cX11_moves 119 [153, 0, 12, 21, 7, 154, 0, 7, 4, 167, 0, 4, 3, 96] = true := by decide +kernel
theorem dX11_moves_119 : decode cX11_moves 119 = .ok (.ifCond .eq 12, 3) := dko_153 dwX11_moves_119
theorem dX11_moves_122 : decode cX11_moves 122 = .ok (.iload 7, 2) := dko_21 (dk_t 3 122 [21, 7, 154, 0, 7, 4, 167, 0, 4, 3, 96] dwX11_moves_119 rfl rfl)
theorem dX11_moves_124 : decode cX11_moves 124 = .ok (.ifCond .ne 7, 3) := dko_154 (dk_t 5 124 [154, 0, 7, 4, 167, 0, 4, 3, 96] dwX11_moves_119 rfl rfl)
theorem dX11_moves_127 : decode cX11_moves 127 = .ok (.iconst 1, 1) := dko_4 (dk_t 8 127 [4, 167, 0, 4, 3, 96] dwX11_moves_119 rfl rfl)
theorem dX11_moves_128 : decode cX11_moves 128 = .ok (.goto 4, 3) := dko_167 (dk_t 9 128 [167, 0, 4, 3, 96] dwX11_moves_119 rfl rfl)
theorem dX11_moves_131 : decode cX11_moves 131 = .ok (.iconst 0, 1) := dko_3 (dk_t 12 131 [3, 96] dwX11_moves_119 rfl rfl)
theorem dX11_moves_132 : decode cX11_moves 132 = .ok (.iadd, 1) := dko_96 (dk_t 13 132 [96] dwX11_moves_119 rfl rfl)
theorem dwX11_moves_133 : dkW cX11_moves 133 [79, 42, 180, 0, 27, 29, 92, 46, 21, 7, 153, 0, 12] = true := by decide +kernel
theorem dX11_moves_133 : decode cX11_moves 133 = .ok (.iastore, 1) := dko_79 dwX11_moves_133
theorem dX11_moves_134 : decode cX11_moves 134 = .ok (.aload_n 0, 1) := dko_42 (dk_t 1 134 [42, 180, 0, 27, 29, 92, 46, 21, 7, 153, 0, 12] dwX11_moves_133 rfl rfl)
theorem dX11_moves_135 : decode cX11_moves 135 = .ok (.getfield 27, 3) := dko_180 (dk_t 2 135 [180, 0, 27, 29, 92, 46, 21, 7, 153, 0, 12] dwX11_moves_133 rfl rfl)
theorem dX11_moves_138 : decode cX11_moves 138 = .ok (.iload_n 3, 1) := dko_29 (dk_t 5 138 [29, 92, 46, 21, 7, 153, 0, 12] dwX11_moves_133 rfl rfl)
theorem dX11_moves_139 : decode cX11_moves 139 = .ok (.dup2, 1) := dko_92 (dk_t 6 139 [92, 46, 21, 7, 153, 0, 12] dwX11_moves_133 rfl rfl)
theorem dX11_moves_140 : decode cX11_moves 140 = .ok (.iaload, 1) := dko_46 (dk_t 7 140 [46, 21, 7, 153, 0, 12] dwX11_moves_133 rfl rfl)
theorem dX11_moves_141 : decode cX11_moves 141 = .ok (.iload 7, 2) := dko_21 (dk_t 8 141 [21, 7, 153, 0, 12] dwX11_moves_133 rfl rfl)
theorem dX11_moves_143 : decode cX11_moves 143 = .ok (.ifCond .eq 12, 3) := dko_153 (dk_t 10 143 [153, 0, 12] dwX11_moves_133 rfl rfl)
theorem dwX11_moves_146 : dkW cX11_moves 146 [21, 8, 154, 0, 7, 4, 167, 0, 4, 3, 96, 79] = true := by decide +kernel
theorem dX11_moves_146 : decode cX11_moves 146 = .ok (.iload 8, 2) := dko_21 dwX11_moves_146
theorem dX11_moves_148 : decode cX11_moves 148 = .ok (.ifCond .ne 7, 3) := dko_154 (dk_t 2 148 [154, 0, 7, 4, 167, 0, 4, 3, 96, 79] dwX11_moves_146 rfl rfl)
theorem dX11_moves_151 : decode cX11_moves 151 = .ok (.iconst 1, 1) := dko_4 (dk_t 5 151 [4, 167, 0, 4, 3, 96, 79] dwX11_moves_146 rfl rfl)
theorem dX11_moves_152 : decode cX11_moves 152 = .ok (.goto 4, 3) := dko_167 (dk_t 6 152 [167, 0, 4, 3, 96, 79] dwX11_moves_146 rfl rfl)
theorem dX11_moves_155 : decode cX11_moves 155 = .ok (.iconst 0, 1) := dko_3 (dk_t 9 155 [3, 96, 79] dwX11_moves_146 rfl rfl)
theorem dX11_moves_156 : decode cX11_moves 156 = .ok (.iadd, 1) := dko_96 (dk_t 10 156 [96, 79] dwX11_moves_146 rfl rfl)
theorem dX11_moves_157 : decode cX11_moves 157 = .ok (.iastore, 1) := dko_79 (dk_t 11 157 [79] dwX11_moves_146 rfl rfl)
theorem dwX11_moves_158 : dkW cX11_moves 158 [132, 5, 1, 167, 255, 134, 132, 4, 1, 167, 255, 92, 177] = true := by decide +kernel
theorem dX11_moves_158 : decode cX11_moves 158 = .ok (.iinc 5 1, 3) := dko_132 dwX11_moves_158
theorem dX11_moves_161 : decode cX11_moves 161 = .ok (.goto (-122), 3) := dko_167 (dk_t 3 161 [167, 255, 134, 132, 4, 1, 167, 255, 92, 177] dwX11_moves_158 rfl rfl)
theorem dX11_moves_164 : decode cX11_moves 164 = .ok (.iinc 4 1, 3) := dko_132 (dk_t 6 164 [132, 4, 1, 167, 255, 92, 177] dwX11_moves_158 rfl rfl)
theorem dX11_moves_167 : decode cX11_moves 167 = .ok (.goto (-164), 3) := dko_167 (dk_t 9 167 [167, 255, 92, 177] dwX11_moves_158 rfl rfl)
theorem dX11_moves_170 : decode cX11_moves 170 = .ok (.return_, 1) := dko_177 (dk_t 12 170 [177] dwX11_moves_158 rfl rfl)
theorem dwX11_takeAsked_0 : dkW cX11_takeAsked 0 [42, 42, 180, 1, 66, 2, 160, 0, 10, 42, 180, 0, 203] = true := by decide +kernel
theorem dX11_takeAsked_0 : decode cX11_takeAsked 0 = .ok (.aload_n 0, 1) := dko_42 dwX11_takeAsked_0
theorem dX11_takeAsked_1 : decode cX11_takeAsked 1 = .ok (.aload_n 0, 1) := dko_42 (dk_t 1 1 [42, 180, 1, 66, 2, 160, 0, 10, 42, 180, 0, 203] dwX11_takeAsked_0 rfl rfl)
theorem dX11_takeAsked_2 : decode cX11_takeAsked 2 = .ok (.getfield 322, 3) := dko_180 (dk_t 2 2 [180, 1, 66, 2, 160, 0, 10, 42, 180, 0, 203] dwX11_takeAsked_0 rfl rfl)
theorem dX11_takeAsked_5 : decode cX11_takeAsked 5 = .ok (.iconst (-1), 1) := dko_2 (dk_t 5 5 [2, 160, 0, 10, 42, 180, 0, 203] dwX11_takeAsked_0 rfl rfl)
theorem dX11_takeAsked_6 : decode cX11_takeAsked 6 = .ok (.if_icmp .ne 10, 3) := dko_160 (dk_t 6 6 [160, 0, 10, 42, 180, 0, 203] dwX11_takeAsked_0 rfl rfl)
theorem dX11_takeAsked_9 : decode cX11_takeAsked 9 = .ok (.aload_n 0, 1) := dko_42 (dk_t 9 9 [42, 180, 0, 203] dwX11_takeAsked_0 rfl rfl)
theorem dX11_takeAsked_10 : decode cX11_takeAsked 10 = .ok (.getfield 203, 3) := dko_180 (dk_t 10 10 [180, 0, 203] dwX11_takeAsked_0 rfl rfl)
theorem dwX11_takeAsked_13 : dkW cX11_takeAsked 13 [167, 0, 9, 42, 180, 1, 66, 4, 96, 181, 1, 84, 42, 42] = true := by decide +kernel
theorem dX11_takeAsked_13 : decode cX11_takeAsked 13 = .ok (.goto 9, 3) := dko_167 dwX11_takeAsked_13
theorem dX11_takeAsked_16 : decode cX11_takeAsked 16 = .ok (.aload_n 0, 1) := dko_42 (dk_t 3 16 [42, 180, 1, 66, 4, 96, 181, 1, 84, 42, 42] dwX11_takeAsked_13 rfl rfl)
theorem dX11_takeAsked_17 : decode cX11_takeAsked 17 = .ok (.getfield 322, 3) := dko_180 (dk_t 4 17 [180, 1, 66, 4, 96, 181, 1, 84, 42, 42] dwX11_takeAsked_13 rfl rfl)
theorem dX11_takeAsked_20 : decode cX11_takeAsked 20 = .ok (.iconst 1, 1) := dko_4 (dk_t 7 20 [4, 96, 181, 1, 84, 42, 42] dwX11_takeAsked_13 rfl rfl)
theorem dX11_takeAsked_21 : decode cX11_takeAsked 21 = .ok (.iadd, 1) := dko_96 (dk_t 8 21 [96, 181, 1, 84, 42, 42] dwX11_takeAsked_13 rfl rfl)
theorem dX11_takeAsked_22 : decode cX11_takeAsked 22 = .ok (.putfield 340, 3) := dko_181 (dk_t 9 22 [181, 1, 84, 42, 42] dwX11_takeAsked_13 rfl rfl)
theorem dX11_takeAsked_25 : decode cX11_takeAsked 25 = .ok (.aload_n 0, 1) := dko_42 (dk_t 12 25 [42, 42] dwX11_takeAsked_13 rfl rfl)
theorem dX11_takeAsked_26 : decode cX11_takeAsked 26 = .ok (.aload_n 0, 1) := dko_42 (dk_t 13 26 [42] dwX11_takeAsked_13 rfl rfl)
theorem dwX11_takeAsked_27 : dkW cX11_takeAsked 27 [180, 1, 66, 181, 0, 115, 3, 60, 27, 42, 180, 1, 84] = true := by decide +kernel
theorem dX11_takeAsked_27 : decode cX11_takeAsked 27 = .ok (.getfield 322, 3) := dko_180 dwX11_takeAsked_27
theorem dX11_takeAsked_30 : decode cX11_takeAsked 30 = .ok (.putfield 115, 3) := dko_181 (dk_t 3 30 [181, 0, 115, 3, 60, 27, 42, 180, 1, 84] dwX11_takeAsked_27 rfl rfl)
theorem dX11_takeAsked_33 : decode cX11_takeAsked 33 = .ok (.iconst 0, 1) := dko_3 (dk_t 6 33 [3, 60, 27, 42, 180, 1, 84] dwX11_takeAsked_27 rfl rfl)
theorem dX11_takeAsked_34 : decode cX11_takeAsked 34 = .ok (.istore_n 1, 1) := dko_60 (dk_t 7 34 [60, 27, 42, 180, 1, 84] dwX11_takeAsked_27 rfl rfl)
theorem dX11_takeAsked_35 : decode cX11_takeAsked 35 = .ok (.iload_n 1, 1) := dko_27 (dk_t 8 35 [27, 42, 180, 1, 84] dwX11_takeAsked_27 rfl rfl)
theorem dX11_takeAsked_36 : decode cX11_takeAsked 36 = .ok (.aload_n 0, 1) := dko_42 (dk_t 9 36 [42, 180, 1, 84] dwX11_takeAsked_27 rfl rfl)
theorem dX11_takeAsked_37 : decode cX11_takeAsked 37 = .ok (.getfield 340, 3) := dko_180 (dk_t 10 37 [180, 1, 84] dwX11_takeAsked_27 rfl rfl)
theorem dwX11_takeAsked_40 : dkW cX11_takeAsked 40 [162, 0, 33, 42, 180, 0, 109, 27, 42, 180, 0, 51, 27, 46] = true := by decide +kernel
theorem dX11_takeAsked_40 : decode cX11_takeAsked 40 = .ok (.if_icmp .ge 33, 3) := dko_162 dwX11_takeAsked_40
theorem dX11_takeAsked_43 : decode cX11_takeAsked 43 = .ok (.aload_n 0, 1) := dko_42 (dk_t 3 43 [42, 180, 0, 109, 27, 42, 180, 0, 51, 27, 46] dwX11_takeAsked_40 rfl rfl)
theorem dX11_takeAsked_44 : decode cX11_takeAsked 44 = .ok (.getfield 109, 3) := dko_180 (dk_t 4 44 [180, 0, 109, 27, 42, 180, 0, 51, 27, 46] dwX11_takeAsked_40 rfl rfl)
theorem dX11_takeAsked_47 : decode cX11_takeAsked 47 = .ok (.iload_n 1, 1) := dko_27 (dk_t 7 47 [27, 42, 180, 0, 51, 27, 46] dwX11_takeAsked_40 rfl rfl)
theorem dX11_takeAsked_48 : decode cX11_takeAsked 48 = .ok (.aload_n 0, 1) := dko_42 (dk_t 8 48 [42, 180, 0, 51, 27, 46] dwX11_takeAsked_40 rfl rfl)
theorem dX11_takeAsked_49 : decode cX11_takeAsked 49 = .ok (.getfield 51, 3) := dko_180 (dk_t 9 49 [180, 0, 51, 27, 46] dwX11_takeAsked_40 rfl rfl)
theorem dX11_takeAsked_52 : decode cX11_takeAsked 52 = .ok (.iload_n 1, 1) := dko_27 (dk_t 12 52 [27, 46] dwX11_takeAsked_40 rfl rfl)
theorem dX11_takeAsked_53 : decode cX11_takeAsked 53 = .ok (.iaload, 1) := dko_46 (dk_t 13 53 [46] dwX11_takeAsked_40 rfl rfl)
theorem dwX11_takeAsked_54 : dkW cX11_takeAsked 54 [79, 42, 180, 0, 112, 27, 42, 180, 0, 54, 27, 46, 79] = true := by decide +kernel
theorem dX11_takeAsked_54 : decode cX11_takeAsked 54 = .ok (.iastore, 1) := dko_79 dwX11_takeAsked_54
theorem dX11_takeAsked_55 : decode cX11_takeAsked 55 = .ok (.aload_n 0, 1) := dko_42 (dk_t 1 55 [42, 180, 0, 112, 27, 42, 180, 0, 54, 27, 46, 79] dwX11_takeAsked_54 rfl rfl)
theorem dX11_takeAsked_56 : decode cX11_takeAsked 56 = .ok (.getfield 112, 3) := dko_180 (dk_t 2 56 [180, 0, 112, 27, 42, 180, 0, 54, 27, 46, 79] dwX11_takeAsked_54 rfl rfl)
theorem dX11_takeAsked_59 : decode cX11_takeAsked 59 = .ok (.iload_n 1, 1) := dko_27 (dk_t 5 59 [27, 42, 180, 0, 54, 27, 46, 79] dwX11_takeAsked_54 rfl rfl)
theorem dX11_takeAsked_60 : decode cX11_takeAsked 60 = .ok (.aload_n 0, 1) := dko_42 (dk_t 6 60 [42, 180, 0, 54, 27, 46, 79] dwX11_takeAsked_54 rfl rfl)
theorem dX11_takeAsked_61 : decode cX11_takeAsked 61 = .ok (.getfield 54, 3) := dko_180 (dk_t 7 61 [180, 0, 54, 27, 46, 79] dwX11_takeAsked_54 rfl rfl)
theorem dX11_takeAsked_64 : decode cX11_takeAsked 64 = .ok (.iload_n 1, 1) := dko_27 (dk_t 10 64 [27, 46, 79] dwX11_takeAsked_54 rfl rfl)
theorem dX11_takeAsked_65 : decode cX11_takeAsked 65 = .ok (.iaload, 1) := dko_46 (dk_t 11 65 [46, 79] dwX11_takeAsked_54 rfl rfl)
theorem dX11_takeAsked_66 : decode cX11_takeAsked 66 = .ok (.iastore, 1) := dko_79 (dk_t 12 66 [79] dwX11_takeAsked_54 rfl rfl)
theorem dwX11_takeAsked_67 : dkW cX11_takeAsked 67 [132, 1, 1, 167, 255, 221, 42, 180, 0, 30, 3, 92, 46, 42] = true := by decide +kernel
theorem dX11_takeAsked_67 : decode cX11_takeAsked 67 = .ok (.iinc 1 1, 3) := dko_132 dwX11_takeAsked_67
theorem dX11_takeAsked_70 : decode cX11_takeAsked 70 = .ok (.goto (-35), 3) := dko_167 (dk_t 3 70 [167, 255, 221, 42, 180, 0, 30, 3, 92, 46, 42] dwX11_takeAsked_67 rfl rfl)
theorem dX11_takeAsked_73 : decode cX11_takeAsked 73 = .ok (.aload_n 0, 1) := dko_42 (dk_t 6 73 [42, 180, 0, 30, 3, 92, 46, 42] dwX11_takeAsked_67 rfl rfl)
theorem dX11_takeAsked_74 : decode cX11_takeAsked 74 = .ok (.getfield 30, 3) := dko_180 (dk_t 7 74 [180, 0, 30, 3, 92, 46, 42] dwX11_takeAsked_67 rfl rfl)
theorem dX11_takeAsked_77 : decode cX11_takeAsked 77 = .ok (.iconst 0, 1) := dko_3 (dk_t 10 77 [3, 92, 46, 42] dwX11_takeAsked_67 rfl rfl)
theorem dX11_takeAsked_78 : decode cX11_takeAsked 78 = .ok (.dup2, 1) := dko_92 (dk_t 11 78 [92, 46, 42] dwX11_takeAsked_67 rfl rfl)
theorem dX11_takeAsked_79 : decode cX11_takeAsked 79 = .ok (.iaload, 1) := dko_46 (dk_t 12 79 [46, 42] dwX11_takeAsked_67 rfl rfl)
theorem dX11_takeAsked_80 : decode cX11_takeAsked 80 = .ok (.aload_n 0, 1) := dko_42 (dk_t 13 80 [42] dwX11_takeAsked_67 rfl rfl)
theorem dwX11_takeAsked_81 : dkW cX11_takeAsked 81 [180, 1, 84, 96, 79, 177] = true := by decide +kernel
theorem dX11_takeAsked_81 : decode cX11_takeAsked 81 = .ok (.getfield 340, 3) := dko_180 dwX11_takeAsked_81
theorem dX11_takeAsked_84 : decode cX11_takeAsked 84 = .ok (.iadd, 1) := dko_96 (dk_t 3 84 [96, 79, 177] dwX11_takeAsked_81 rfl rfl)
theorem dX11_takeAsked_85 : decode cX11_takeAsked 85 = .ok (.iastore, 1) := dko_79 (dk_t 4 85 [79, 177] dwX11_takeAsked_81 rfl rfl)
theorem dX11_takeAsked_86 : decode cX11_takeAsked 86 = .ok (.return_, 1) := dko_177 (dk_t 5 86 [177] dwX11_takeAsked_81 rfl rfl)
theorem dwX11_put_0 : dkW cX11_put 0 [42, 3, 181, 0, 134, 42, 182, 0, 231, 27, 184, 0, 149] = true := by decide +kernel
theorem dX11_put_0 : decode cX11_put 0 = .ok (.aload_n 0, 1) := dko_42 dwX11_put_0
theorem dX11_put_1 : decode cX11_put 1 = .ok (.iconst 0, 1) := dko_3 (dk_t 1 1 [3, 181, 0, 134, 42, 182, 0, 231, 27, 184, 0, 149] dwX11_put_0 rfl rfl)
theorem dX11_put_2 : decode cX11_put 2 = .ok (.putfield 134, 3) := dko_181 (dk_t 2 2 [181, 0, 134, 42, 182, 0, 231, 27, 184, 0, 149] dwX11_put_0 rfl rfl)
theorem dX11_put_5 : decode cX11_put 5 = .ok (.aload_n 0, 1) := dko_42 (dk_t 5 5 [42, 182, 0, 231, 27, 184, 0, 149] dwX11_put_0 rfl rfl)
theorem dX11_put_6 : decode cX11_put 6 = .ok (.invokevirtual 231, 3) := dko_182 (dk_t 6 6 [182, 0, 231, 27, 184, 0, 149] dwX11_put_0 rfl rfl)
theorem dX11_put_9 : decode cX11_put 9 = .ok (.iload_n 1, 1) := dko_27 (dk_t 9 9 [27, 184, 0, 149] dwX11_put_0 rfl rfl)
theorem dX11_put_10 : decode cX11_put 10 = .ok (.invokestatic 149, 3) := dko_184 (dk_t 10 10 [184, 0, 149] dwX11_put_0 rfl rfl)
theorem dwX11_put_13 : dkW cX11_put 13 [153, 0, 33, 28, 184, 0, 153, 153, 0, 26, 29, 184, 1, 87] = true := by decide +kernel
theorem dX11_put_13 : decode cX11_put 13 = .ok (.ifCond .eq 33, 3) := dko_153 dwX11_put_13
theorem dX11_put_16 : decode cX11_put 16 = .ok (.iload_n 2, 1) := dko_28 (dk_t 3 16 [28, 184, 0, 153, 153, 0, 26, 29, 184, 1, 87] dwX11_put_13 rfl rfl)
theorem dX11_put_17 : decode cX11_put 17 = .ok (.invokestatic 153, 3) := dko_184 (dk_t 4 17 [184, 0, 153, 153, 0, 26, 29, 184, 1, 87] dwX11_put_13 rfl rfl)
theorem dX11_put_20 : decode cX11_put 20 = .ok (.ifCond .eq 26, 3) := dko_153 (dk_t 7 20 [153, 0, 26, 29, 184, 1, 87] dwX11_put_13 rfl rfl)
theorem dX11_put_23 : decode cX11_put 23 = .ok (.iload_n 3, 1) := dko_29 (dk_t 10 23 [29, 184, 1, 87] dwX11_put_13 rfl rfl)
theorem dX11_put_24 : decode cX11_put 24 = .ok (.invokestatic 343, 3) := dko_184 (dk_t 11 24 [184, 1, 87] dwX11_put_13 rfl rfl)
theorem dwX11_put_27 : dkW cX11_put 27 [153, 0, 19, 21, 4, 184, 1, 87, 153, 0, 11, 21, 5] = true := by decide +kernel
theorem dX11_put_27 : decode cX11_put 27 = .ok (.ifCond .eq 19, 3) := dko_153 dwX11_put_27
theorem dX11_put_30 : decode cX11_put 30 = .ok (.iload 4, 2) := dko_21 (dk_t 3 30 [21, 4, 184, 1, 87, 153, 0, 11, 21, 5] dwX11_put_27 rfl rfl)
theorem dX11_put_32 : decode cX11_put 32 = .ok (.invokestatic 343, 3) := dko_184 (dk_t 5 32 [184, 1, 87, 153, 0, 11, 21, 5] dwX11_put_27 rfl rfl)
theorem dX11_put_35 : decode cX11_put 35 = .ok (.ifCond .eq 11, 3) := dko_153 (dk_t 8 35 [153, 0, 11, 21, 5] dwX11_put_27 rfl rfl)
theorem dX11_put_38 : decode cX11_put 38 = .ok (.iload 5, 2) := dko_21 (dk_t 11 38 [21, 5] dwX11_put_27 rfl rfl)
theorem dwX11_put_40 : dkW cX11_put 40 [184, 1, 87, 154, 0, 9, 42, 2, 182, 1, 69, 172, 42, 27] = true := by decide +kernel
theorem dX11_put_40 : decode cX11_put 40 = .ok (.invokestatic 343, 3) := dko_184 dwX11_put_40
theorem dX11_put_43 : decode cX11_put 43 = .ok (.ifCond .ne 9, 3) := dko_154 (dk_t 3 43 [154, 0, 9, 42, 2, 182, 1, 69, 172, 42, 27] dwX11_put_40 rfl rfl)
theorem dX11_put_46 : decode cX11_put 46 = .ok (.aload_n 0, 1) := dko_42 (dk_t 6 46 [42, 2, 182, 1, 69, 172, 42, 27] dwX11_put_40 rfl rfl)
theorem dX11_put_47 : decode cX11_put 47 = .ok (.iconst (-1), 1) := dko_2 (dk_t 7 47 [2, 182, 1, 69, 172, 42, 27] dwX11_put_40 rfl rfl)
theorem dX11_put_48 : decode cX11_put 48 = .ok (.invokevirtual 325, 3) := dko_182 (dk_t 8 48 [182, 1, 69, 172, 42, 27] dwX11_put_40 rfl rfl)
theorem dX11_put_51 : decode cX11_put 51 = .ok (.ireturn, 1) := dko_172 (dk_t 11 51 [172, 42, 27] dwX11_put_40 rfl rfl)
theorem dX11_put_52 : decode cX11_put 52 = .ok (.aload_n 0, 1) := dko_42 (dk_t 12 52 [42, 27] dwX11_put_40 rfl rfl)
theorem dX11_put_53 : decode cX11_put 53 = .ok (.iload_n 1, 1) := dko_27 (dk_t 13 53 [27] dwX11_put_40 rfl rfl)
theorem dwX11_put_54 : dkW cX11_put 54 [28, 182, 1, 90, 153, 0, 10, 42, 16, 252, 182, 1, 69, 172] = true := by decide +kernel
theorem dX11_put_54 : decode cX11_put 54 = .ok (.iload_n 2, 1) := dko_28 dwX11_put_54
theorem dX11_put_55 : decode cX11_put 55 = .ok (.invokevirtual 346, 3) := dko_182 (dk_t 1 55 [182, 1, 90, 153, 0, 10, 42, 16, 252, 182, 1, 69, 172] dwX11_put_54 rfl rfl)
theorem dX11_put_58 : decode cX11_put 58 = .ok (.ifCond .eq 10, 3) := dko_153 (dk_t 4 58 [153, 0, 10, 42, 16, 252, 182, 1, 69, 172] dwX11_put_54 rfl rfl)
theorem dX11_put_61 : decode cX11_put 61 = .ok (.aload_n 0, 1) := dko_42 (dk_t 7 61 [42, 16, 252, 182, 1, 69, 172] dwX11_put_54 rfl rfl)
theorem dX11_put_62 : decode cX11_put 62 = .ok (.bipush (-4), 2) := dko_16 (dk_t 8 62 [16, 252, 182, 1, 69, 172] dwX11_put_54 rfl rfl)
theorem dX11_put_64 : decode cX11_put 64 = .ok (.invokevirtual 325, 3) := dko_182 (dk_t 10 64 [182, 1, 69, 172] dwX11_put_54 rfl rfl)
theorem dX11_put_67 : decode cX11_put 67 = .ok (.ireturn, 1) := dko_172 (dk_t 13 67 [172] dwX11_put_54 rfl rfl)
theorem dwX11_put_68 : dkW cX11_put 68 [42, 182, 1, 94, 27, 28, 184, 0, 156, 54, 6, 42] = true := by decide +kernel
theorem dX11_put_68 : decode cX11_put 68 = .ok (.aload_n 0, 1) := dko_42 dwX11_put_68
theorem dX11_put_69 : decode cX11_put 69 = .ok (.invokevirtual 350, 3) := dko_182 (dk_t 1 69 [182, 1, 94, 27, 28, 184, 0, 156, 54, 6, 42] dwX11_put_68 rfl rfl)
theorem dX11_put_72 : decode cX11_put 72 = .ok (.iload_n 1, 1) := dko_27 (dk_t 4 72 [27, 28, 184, 0, 156, 54, 6, 42] dwX11_put_68 rfl rfl)
theorem dX11_put_73 : decode cX11_put 73 = .ok (.iload_n 2, 1) := dko_28 (dk_t 5 73 [28, 184, 0, 156, 54, 6, 42] dwX11_put_68 rfl rfl)
theorem dX11_put_74 : decode cX11_put 74 = .ok (.invokestatic 156, 3) := dko_184 (dk_t 6 74 [184, 0, 156, 54, 6, 42] dwX11_put_68 rfl rfl)
theorem dX11_put_77 : decode cX11_put 77 = .ok (.istore 6, 2) := dko_54 (dk_t 9 77 [54, 6, 42] dwX11_put_68 rfl rfl)
theorem dX11_put_79 : decode cX11_put 79 = .ok (.aload_n 0, 1) := dko_42 (dk_t 11 79 [42] dwX11_put_68 rfl rfl)
theorem dwX11_put_80 : dkW cX11_put 80 [180, 0, 9, 21, 6, 4, 79, 42, 180, 0, 9, 21, 6, 4] = true := by decide +kernel
theorem dX11_put_80 : decode cX11_put 80 = .ok (.getfield 9, 3) := dko_180 dwX11_put_80
theorem dX11_put_83 : decode cX11_put 83 = .ok (.iload 6, 2) := dko_21 (dk_t 3 83 [21, 6, 4, 79, 42, 180, 0, 9, 21, 6, 4] dwX11_put_80 rfl rfl)
theorem dX11_put_85 : decode cX11_put 85 = .ok (.iconst 1, 1) := dko_4 (dk_t 5 85 [4, 79, 42, 180, 0, 9, 21, 6, 4] dwX11_put_80 rfl rfl)
theorem dX11_put_86 : decode cX11_put 86 = .ok (.iastore, 1) := dko_79 (dk_t 6 86 [79, 42, 180, 0, 9, 21, 6, 4] dwX11_put_80 rfl rfl)
theorem dX11_put_87 : decode cX11_put 87 = .ok (.aload_n 0, 1) := dko_42 (dk_t 7 87 [42, 180, 0, 9, 21, 6, 4] dwX11_put_80 rfl rfl)
theorem dX11_put_88 : decode cX11_put 88 = .ok (.getfield 9, 3) := dko_180 (dk_t 8 88 [180, 0, 9, 21, 6, 4] dwX11_put_80 rfl rfl)
theorem dX11_put_91 : decode cX11_put 91 = .ok (.iload 6, 2) := dko_21 (dk_t 11 91 [21, 6, 4] dwX11_put_80 rfl rfl)
theorem dX11_put_93 : decode cX11_put 93 = .ok (.iconst 1, 1) := dko_4 (dk_t 13 93 [4] dwX11_put_80 rfl rfl)
theorem dwX11_put_94 : dkW cX11_put 94 [96, 29, 79, 42, 180, 0, 9, 21, 6, 5, 96, 21, 4, 79] = true := by decide +kernel
theorem dX11_put_94 : decode cX11_put 94 = .ok (.iadd, 1) := dko_96 dwX11_put_94
theorem dX11_put_95 : decode cX11_put 95 = .ok (.iload_n 3, 1) := dko_29 (dk_t 1 95 [29, 79, 42, 180, 0, 9, 21, 6, 5, 96, 21, 4, 79] dwX11_put_94 rfl rfl)
theorem dX11_put_96 : decode cX11_put 96 = .ok (.iastore, 1) := dko_79 (dk_t 2 96 [79, 42, 180, 0, 9, 21, 6, 5, 96, 21, 4, 79] dwX11_put_94 rfl rfl)
theorem dX11_put_97 : decode cX11_put 97 = .ok (.aload_n 0, 1) := dko_42 (dk_t 3 97 [42, 180, 0, 9, 21, 6, 5, 96, 21, 4, 79] dwX11_put_94 rfl rfl)
theorem dX11_put_98 : decode cX11_put 98 = .ok (.getfield 9, 3) := dko_180 (dk_t 4 98 [180, 0, 9, 21, 6, 5, 96, 21, 4, 79] dwX11_put_94 rfl rfl)
theorem dX11_put_101 : decode cX11_put 101 = .ok (.iload 6, 2) := dko_21 (dk_t 7 101 [21, 6, 5, 96, 21, 4, 79] dwX11_put_94 rfl rfl)
theorem dX11_put_103 : decode cX11_put 103 = .ok (.iconst 2, 1) := dko_5 (dk_t 9 103 [5, 96, 21, 4, 79] dwX11_put_94 rfl rfl)
theorem dX11_put_104 : decode cX11_put 104 = .ok (.iadd, 1) := dko_96 (dk_t 10 104 [96, 21, 4, 79] dwX11_put_94 rfl rfl)
theorem dX11_put_105 : decode cX11_put 105 = .ok (.iload 4, 2) := dko_21 (dk_t 11 105 [21, 4, 79] dwX11_put_94 rfl rfl)
theorem dX11_put_107 : decode cX11_put 107 = .ok (.iastore, 1) := dko_79 (dk_t 13 107 [79] dwX11_put_94 rfl rfl)
theorem dwX11_put_108 : dkW cX11_put 108 [42, 180, 0, 9, 21, 6, 6, 96, 21, 5, 79, 42] = true := by decide +kernel
theorem dX11_put_108 : decode cX11_put 108 = .ok (.aload_n 0, 1) := dko_42 dwX11_put_108
theorem dX11_put_109 : decode cX11_put 109 = .ok (.getfield 9, 3) := dko_180 (dk_t 1 109 [180, 0, 9, 21, 6, 6, 96, 21, 5, 79, 42] dwX11_put_108 rfl rfl)
theorem dX11_put_112 : decode cX11_put 112 = .ok (.iload 6, 2) := dko_21 (dk_t 4 112 [21, 6, 6, 96, 21, 5, 79, 42] dwX11_put_108 rfl rfl)
theorem dX11_put_114 : decode cX11_put 114 = .ok (.iconst 3, 1) := dko_6 (dk_t 6 114 [6, 96, 21, 5, 79, 42] dwX11_put_108 rfl rfl)
theorem dX11_put_115 : decode cX11_put 115 = .ok (.iadd, 1) := dko_96 (dk_t 7 115 [96, 21, 5, 79, 42] dwX11_put_108 rfl rfl)
theorem dX11_put_116 : decode cX11_put 116 = .ok (.iload 5, 2) := dko_21 (dk_t 8 116 [21, 5, 79, 42] dwX11_put_108 rfl rfl)
theorem dX11_put_118 : decode cX11_put 118 = .ok (.iastore, 1) := dko_79 (dk_t 10 118 [79, 42] dwX11_put_108 rfl rfl)
theorem dX11_put_119 : decode cX11_put 119 = .ok (.aload_n 0, 1) := dko_42 (dk_t 11 119 [42] dwX11_put_108 rfl rfl)
theorem dwX11_put_120 : dkW cX11_put 120 [182, 1, 97, 172] = true := by decide +kernel
theorem dX11_put_120 : decode cX11_put 120 = .ok (.invokevirtual 353, 3) := dko_182 dwX11_put_120
theorem dX11_put_123 : decode cX11_put 123 = .ok (.ireturn, 1) := dko_172 (dk_t 3 123 [172] dwX11_put_120 rfl rfl)
theorem dwX11_whyNotSet_0 : dkW cX11_whyNotSet 0 [27, 184, 0, 149, 153, 0, 25, 28, 184, 0, 153, 153, 0, 18] = true := by decide +kernel
theorem dX11_whyNotSet_0 : decode cX11_whyNotSet 0 = .ok (.iload_n 1, 1) := dko_27 dwX11_whyNotSet_0
theorem dX11_whyNotSet_1 : decode cX11_whyNotSet 1 = .ok (.invokestatic 149, 3) := dko_184 (dk_t 1 1 [184, 0, 149, 153, 0, 25, 28, 184, 0, 153, 153, 0, 18] dwX11_whyNotSet_0 rfl rfl)
theorem dX11_whyNotSet_4 : decode cX11_whyNotSet 4 = .ok (.ifCond .eq 25, 3) := dko_153 (dk_t 4 4 [153, 0, 25, 28, 184, 0, 153, 153, 0, 18] dwX11_whyNotSet_0 rfl rfl)
theorem dX11_whyNotSet_7 : decode cX11_whyNotSet 7 = .ok (.iload_n 2, 1) := dko_28 (dk_t 7 7 [28, 184, 0, 153, 153, 0, 18] dwX11_whyNotSet_0 rfl rfl)
theorem dX11_whyNotSet_8 : decode cX11_whyNotSet 8 = .ok (.invokestatic 153, 3) := dko_184 (dk_t 8 8 [184, 0, 153, 153, 0, 18] dwX11_whyNotSet_0 rfl rfl)
theorem dX11_whyNotSet_11 : decode cX11_whyNotSet 11 = .ok (.ifCond .eq 18, 3) := dko_153 (dk_t 11 11 [153, 0, 18] dwX11_whyNotSet_0 rfl rfl)
theorem dwX11_whyNotSet_14 : dkW cX11_whyNotSet 14 [29, 184, 1, 100, 153, 0, 11, 21, 4, 184, 1, 87] = true := by decide +kernel
theorem dX11_whyNotSet_14 : decode cX11_whyNotSet 14 = .ok (.iload_n 3, 1) := dko_29 dwX11_whyNotSet_14
theorem dX11_whyNotSet_15 : decode cX11_whyNotSet 15 = .ok (.invokestatic 356, 3) := dko_184 (dk_t 1 15 [184, 1, 100, 153, 0, 11, 21, 4, 184, 1, 87] dwX11_whyNotSet_14 rfl rfl)
theorem dX11_whyNotSet_18 : decode cX11_whyNotSet 18 = .ok (.ifCond .eq 11, 3) := dko_153 (dk_t 4 18 [153, 0, 11, 21, 4, 184, 1, 87] dwX11_whyNotSet_14 rfl rfl)
theorem dX11_whyNotSet_21 : decode cX11_whyNotSet 21 = .ok (.iload 4, 2) := dko_21 (dk_t 7 21 [21, 4, 184, 1, 87] dwX11_whyNotSet_14 rfl rfl)
theorem dX11_whyNotSet_23 : decode cX11_whyNotSet 23 = .ok (.invokestatic 343, 3) := dko_184 (dk_t 9 23 [184, 1, 87] dwX11_whyNotSet_14 rfl rfl)
theorem dwX11_whyNotSet_26 : dkW cX11_whyNotSet 26 [154, 0, 5, 2, 172, 42, 27, 28, 182, 1, 90, 154, 0, 6] = true := by decide +kernel
theorem dX11_whyNotSet_26 : decode cX11_whyNotSet 26 = .ok (.ifCond .ne 5, 3) := dko_154 dwX11_whyNotSet_26
theorem dX11_whyNotSet_29 : decode cX11_whyNotSet 29 = .ok (.iconst (-1), 1) := dko_2 (dk_t 3 29 [2, 172, 42, 27, 28, 182, 1, 90, 154, 0, 6] dwX11_whyNotSet_26 rfl rfl)
theorem dX11_whyNotSet_30 : decode cX11_whyNotSet 30 = .ok (.ireturn, 1) := dko_172 (dk_t 4 30 [172, 42, 27, 28, 182, 1, 90, 154, 0, 6] dwX11_whyNotSet_26 rfl rfl)
theorem dX11_whyNotSet_31 : decode cX11_whyNotSet 31 = .ok (.aload_n 0, 1) := dko_42 (dk_t 5 31 [42, 27, 28, 182, 1, 90, 154, 0, 6] dwX11_whyNotSet_26 rfl rfl)
theorem dX11_whyNotSet_32 : decode cX11_whyNotSet 32 = .ok (.iload_n 1, 1) := dko_27 (dk_t 6 32 [27, 28, 182, 1, 90, 154, 0, 6] dwX11_whyNotSet_26 rfl rfl)
theorem dX11_whyNotSet_33 : decode cX11_whyNotSet 33 = .ok (.iload_n 2, 1) := dko_28 (dk_t 7 33 [28, 182, 1, 90, 154, 0, 6] dwX11_whyNotSet_26 rfl rfl)
theorem dX11_whyNotSet_34 : decode cX11_whyNotSet 34 = .ok (.invokevirtual 346, 3) := dko_182 (dk_t 8 34 [182, 1, 90, 154, 0, 6] dwX11_whyNotSet_26 rfl rfl)
theorem dX11_whyNotSet_37 : decode cX11_whyNotSet 37 = .ok (.ifCond .ne 6, 3) := dko_154 (dk_t 11 37 [154, 0, 6] dwX11_whyNotSet_26 rfl rfl)
theorem dwX11_whyNotSet_40 : dkW cX11_whyNotSet 40 [16, 254, 172, 42, 180, 0, 9, 27, 28, 184, 0, 156, 4, 96] = true := by decide +kernel
theorem dX11_whyNotSet_40 : decode cX11_whyNotSet 40 = .ok (.bipush (-2), 2) := dko_16 dwX11_whyNotSet_40
theorem dX11_whyNotSet_42 : decode cX11_whyNotSet 42 = .ok (.ireturn, 1) := dko_172 (dk_t 2 42 [172, 42, 180, 0, 9, 27, 28, 184, 0, 156, 4, 96] dwX11_whyNotSet_40 rfl rfl)
theorem dX11_whyNotSet_43 : decode cX11_whyNotSet 43 = .ok (.aload_n 0, 1) := dko_42 (dk_t 3 43 [42, 180, 0, 9, 27, 28, 184, 0, 156, 4, 96] dwX11_whyNotSet_40 rfl rfl)
theorem dX11_whyNotSet_44 : decode cX11_whyNotSet 44 = .ok (.getfield 9, 3) := dko_180 (dk_t 4 44 [180, 0, 9, 27, 28, 184, 0, 156, 4, 96] dwX11_whyNotSet_40 rfl rfl)
theorem dX11_whyNotSet_47 : decode cX11_whyNotSet 47 = .ok (.iload_n 1, 1) := dko_27 (dk_t 7 47 [27, 28, 184, 0, 156, 4, 96] dwX11_whyNotSet_40 rfl rfl)
theorem dX11_whyNotSet_48 : decode cX11_whyNotSet 48 = .ok (.iload_n 2, 1) := dko_28 (dk_t 8 48 [28, 184, 0, 156, 4, 96] dwX11_whyNotSet_40 rfl rfl)
theorem dX11_whyNotSet_49 : decode cX11_whyNotSet 49 = .ok (.invokestatic 156, 3) := dko_184 (dk_t 9 49 [184, 0, 156, 4, 96] dwX11_whyNotSet_40 rfl rfl)
theorem dX11_whyNotSet_52 : decode cX11_whyNotSet 52 = .ok (.iconst 1, 1) := dko_4 (dk_t 12 52 [4, 96] dwX11_whyNotSet_40 rfl rfl)
theorem dX11_whyNotSet_53 : decode cX11_whyNotSet 53 = .ok (.iadd, 1) := dko_96 (dk_t 13 53 [96] dwX11_whyNotSet_40 rfl rfl)
theorem dwX11_whyNotSet_54 : dkW cX11_whyNotSet 54 [29, 96, 46, 21, 4, 160, 0, 8, 16, 252, 167, 0, 4, 3] = true := by decide +kernel
theorem dX11_whyNotSet_54 : decode cX11_whyNotSet 54 = .ok (.iload_n 3, 1) := dko_29 dwX11_whyNotSet_54
theorem dX11_whyNotSet_55 : decode cX11_whyNotSet 55 = .ok (.iadd, 1) := dko_96 (dk_t 1 55 [96, 46, 21, 4, 160, 0, 8, 16, 252, 167, 0, 4, 3] dwX11_whyNotSet_54 rfl rfl)
theorem dX11_whyNotSet_56 : decode cX11_whyNotSet 56 = .ok (.iaload, 1) := dko_46 (dk_t 2 56 [46, 21, 4, 160, 0, 8, 16, 252, 167, 0, 4, 3] dwX11_whyNotSet_54 rfl rfl)
theorem dX11_whyNotSet_57 : decode cX11_whyNotSet 57 = .ok (.iload 4, 2) := dko_21 (dk_t 3 57 [21, 4, 160, 0, 8, 16, 252, 167, 0, 4, 3] dwX11_whyNotSet_54 rfl rfl)
theorem dX11_whyNotSet_59 : decode cX11_whyNotSet 59 = .ok (.if_icmp .ne 8, 3) := dko_160 (dk_t 5 59 [160, 0, 8, 16, 252, 167, 0, 4, 3] dwX11_whyNotSet_54 rfl rfl)
theorem dX11_whyNotSet_62 : decode cX11_whyNotSet 62 = .ok (.bipush (-4), 2) := dko_16 (dk_t 8 62 [16, 252, 167, 0, 4, 3] dwX11_whyNotSet_54 rfl rfl)
theorem dX11_whyNotSet_64 : decode cX11_whyNotSet 64 = .ok (.goto 4, 3) := dko_167 (dk_t 10 64 [167, 0, 4, 3] dwX11_whyNotSet_54 rfl rfl)
theorem dX11_whyNotSet_67 : decode cX11_whyNotSet 67 = .ok (.iconst 0, 1) := dko_3 (dk_t 13 67 [3] dwX11_whyNotSet_54 rfl rfl)
theorem dwX11_whyNotSet_68 : dkW cX11_whyNotSet 68 [172] = true := by decide +kernel
theorem dX11_whyNotSet_68 : decode cX11_whyNotSet 68 = .ok (.ireturn, 1) := dko_172 dwX11_whyNotSet_68
theorem dwX11_set_0 : dkW cX11_set 0 [42, 3, 181, 0, 134, 42, 182, 0, 231, 42, 27, 28, 29] = true := by decide +kernel
theorem dX11_set_0 : decode cX11_set 0 = .ok (.aload_n 0, 1) := dko_42 dwX11_set_0
theorem dX11_set_1 : decode cX11_set 1 = .ok (.iconst 0, 1) := dko_3 (dk_t 1 1 [3, 181, 0, 134, 42, 182, 0, 231, 42, 27, 28, 29] dwX11_set_0 rfl rfl)
theorem dX11_set_2 : decode cX11_set 2 = .ok (.putfield 134, 3) := dko_181 (dk_t 2 2 [181, 0, 134, 42, 182, 0, 231, 42, 27, 28, 29] dwX11_set_0 rfl rfl)
theorem dX11_set_5 : decode cX11_set 5 = .ok (.aload_n 0, 1) := dko_42 (dk_t 5 5 [42, 182, 0, 231, 42, 27, 28, 29] dwX11_set_0 rfl rfl)
theorem dX11_set_6 : decode cX11_set 6 = .ok (.invokevirtual 231, 3) := dko_182 (dk_t 6 6 [182, 0, 231, 42, 27, 28, 29] dwX11_set_0 rfl rfl)
theorem dX11_set_9 : decode cX11_set 9 = .ok (.aload_n 0, 1) := dko_42 (dk_t 9 9 [42, 27, 28, 29] dwX11_set_0 rfl rfl)
theorem dX11_set_10 : decode cX11_set 10 = .ok (.iload_n 1, 1) := dko_27 (dk_t 10 10 [27, 28, 29] dwX11_set_0 rfl rfl)
theorem dX11_set_11 : decode cX11_set 11 = .ok (.iload_n 2, 1) := dko_28 (dk_t 11 11 [28, 29] dwX11_set_0 rfl rfl)
theorem dX11_set_12 : decode cX11_set 12 = .ok (.iload_n 3, 1) := dko_29 (dk_t 12 12 [29] dwX11_set_0 rfl rfl)
theorem dwX11_set_13 : dkW cX11_set 13 [21, 4, 182, 1, 103, 54, 5, 21, 5, 153, 0, 10, 42] = true := by decide +kernel
theorem dX11_set_13 : decode cX11_set 13 = .ok (.iload 4, 2) := dko_21 dwX11_set_13
theorem dX11_set_15 : decode cX11_set 15 = .ok (.invokevirtual 359, 3) := dko_182 (dk_t 2 15 [182, 1, 103, 54, 5, 21, 5, 153, 0, 10, 42] dwX11_set_13 rfl rfl)
theorem dX11_set_18 : decode cX11_set 18 = .ok (.istore 5, 2) := dko_54 (dk_t 5 18 [54, 5, 21, 5, 153, 0, 10, 42] dwX11_set_13 rfl rfl)
theorem dX11_set_20 : decode cX11_set 20 = .ok (.iload 5, 2) := dko_21 (dk_t 7 20 [21, 5, 153, 0, 10, 42] dwX11_set_13 rfl rfl)
theorem dX11_set_22 : decode cX11_set 22 = .ok (.ifCond .eq 10, 3) := dko_153 (dk_t 9 22 [153, 0, 10, 42] dwX11_set_13 rfl rfl)
theorem dX11_set_25 : decode cX11_set 25 = .ok (.aload_n 0, 1) := dko_42 (dk_t 12 25 [42] dwX11_set_13 rfl rfl)
theorem dwX11_set_26 : dkW cX11_set 26 [21, 5, 182, 1, 69, 172, 42, 182, 1, 94, 42, 180, 0, 9] = true := by decide +kernel
theorem dX11_set_26 : decode cX11_set 26 = .ok (.iload 5, 2) := dko_21 dwX11_set_26
theorem dX11_set_28 : decode cX11_set 28 = .ok (.invokevirtual 325, 3) := dko_182 (dk_t 2 28 [182, 1, 69, 172, 42, 182, 1, 94, 42, 180, 0, 9] dwX11_set_26 rfl rfl)
theorem dX11_set_31 : decode cX11_set 31 = .ok (.ireturn, 1) := dko_172 (dk_t 5 31 [172, 42, 182, 1, 94, 42, 180, 0, 9] dwX11_set_26 rfl rfl)
theorem dX11_set_32 : decode cX11_set 32 = .ok (.aload_n 0, 1) := dko_42 (dk_t 6 32 [42, 182, 1, 94, 42, 180, 0, 9] dwX11_set_26 rfl rfl)
theorem dX11_set_33 : decode cX11_set 33 = .ok (.invokevirtual 350, 3) := dko_182 (dk_t 7 33 [182, 1, 94, 42, 180, 0, 9] dwX11_set_26 rfl rfl)
theorem dX11_set_36 : decode cX11_set 36 = .ok (.aload_n 0, 1) := dko_42 (dk_t 10 36 [42, 180, 0, 9] dwX11_set_26 rfl rfl)
theorem dX11_set_37 : decode cX11_set 37 = .ok (.getfield 9, 3) := dko_180 (dk_t 11 37 [180, 0, 9] dwX11_set_26 rfl rfl)
theorem dwX11_set_40 : dkW cX11_set 40 [27, 28, 184, 0, 156, 4, 96, 29, 96, 21, 4, 79, 42] = true := by decide +kernel
theorem dX11_set_40 : decode cX11_set 40 = .ok (.iload_n 1, 1) := dko_27 dwX11_set_40
theorem dX11_set_41 : decode cX11_set 41 = .ok (.iload_n 2, 1) := dko_28 (dk_t 1 41 [28, 184, 0, 156, 4, 96, 29, 96, 21, 4, 79, 42] dwX11_set_40 rfl rfl)
theorem dX11_set_42 : decode cX11_set 42 = .ok (.invokestatic 156, 3) := dko_184 (dk_t 2 42 [184, 0, 156, 4, 96, 29, 96, 21, 4, 79, 42] dwX11_set_40 rfl rfl)
theorem dX11_set_45 : decode cX11_set 45 = .ok (.iconst 1, 1) := dko_4 (dk_t 5 45 [4, 96, 29, 96, 21, 4, 79, 42] dwX11_set_40 rfl rfl)
theorem dX11_set_46 : decode cX11_set 46 = .ok (.iadd, 1) := dko_96 (dk_t 6 46 [96, 29, 96, 21, 4, 79, 42] dwX11_set_40 rfl rfl)
theorem dX11_set_47 : decode cX11_set 47 = .ok (.iload_n 3, 1) := dko_29 (dk_t 7 47 [29, 96, 21, 4, 79, 42] dwX11_set_40 rfl rfl)
theorem dX11_set_48 : decode cX11_set 48 = .ok (.iadd, 1) := dko_96 (dk_t 8 48 [96, 21, 4, 79, 42] dwX11_set_40 rfl rfl)
theorem dX11_set_49 : decode cX11_set 49 = .ok (.iload 4, 2) := dko_21 (dk_t 9 49 [21, 4, 79, 42] dwX11_set_40 rfl rfl)
theorem dX11_set_51 : decode cX11_set 51 = .ok (.iastore, 1) := dko_79 (dk_t 11 51 [79, 42] dwX11_set_40 rfl rfl)
theorem dX11_set_52 : decode cX11_set 52 = .ok (.aload_n 0, 1) := dko_42 (dk_t 12 52 [42] dwX11_set_40 rfl rfl)
theorem dwX11_set_53 : dkW cX11_set 53 [182, 1, 97, 172] = true := by decide +kernel
theorem dX11_set_53 : decode cX11_set 53 = .ok (.invokevirtual 353, 3) := dko_182 dwX11_set_53
theorem dX11_set_56 : decode cX11_set 56 = .ok (.ireturn, 1) := dko_172 (dk_t 3 56 [172] dwX11_set_53 rfl rfl)
theorem dwX11_goes_0 : dkW cX11_goes 0 [42, 180, 0, 118, 27, 28, 79, 42, 180, 0, 121, 27, 29, 79] = true := by decide +kernel
theorem dX11_goes_0 : decode cX11_goes 0 = .ok (.aload_n 0, 1) := dko_42 dwX11_goes_0
theorem dX11_goes_1 : decode cX11_goes 1 = .ok (.getfield 118, 3) := dko_180 (dk_t 1 1 [180, 0, 118, 27, 28, 79, 42, 180, 0, 121, 27, 29, 79] dwX11_goes_0 rfl rfl)
theorem dX11_goes_4 : decode cX11_goes 4 = .ok (.iload_n 1, 1) := dko_27 (dk_t 4 4 [27, 28, 79, 42, 180, 0, 121, 27, 29, 79] dwX11_goes_0 rfl rfl)
theorem dX11_goes_5 : decode cX11_goes 5 = .ok (.iload_n 2, 1) := dko_28 (dk_t 5 5 [28, 79, 42, 180, 0, 121, 27, 29, 79] dwX11_goes_0 rfl rfl)
theorem dX11_goes_6 : decode cX11_goes 6 = .ok (.iastore, 1) := dko_79 (dk_t 6 6 [79, 42, 180, 0, 121, 27, 29, 79] dwX11_goes_0 rfl rfl)
theorem dX11_goes_7 : decode cX11_goes 7 = .ok (.aload_n 0, 1) := dko_42 (dk_t 7 7 [42, 180, 0, 121, 27, 29, 79] dwX11_goes_0 rfl rfl)
theorem dX11_goes_8 : decode cX11_goes 8 = .ok (.getfield 121, 3) := dko_180 (dk_t 8 8 [180, 0, 121, 27, 29, 79] dwX11_goes_0 rfl rfl)
theorem dX11_goes_11 : decode cX11_goes 11 = .ok (.iload_n 1, 1) := dko_27 (dk_t 11 11 [27, 29, 79] dwX11_goes_0 rfl rfl)
theorem dX11_goes_12 : decode cX11_goes 12 = .ok (.iload_n 3, 1) := dko_29 (dk_t 12 12 [29, 79] dwX11_goes_0 rfl rfl)
theorem dX11_goes_13 : decode cX11_goes 13 = .ok (.iastore, 1) := dko_79 (dk_t 13 13 [79] dwX11_goes_0 rfl rfl)
theorem dwX11_goes_14 : dkW cX11_goes 14 [42, 180, 0, 124, 27, 3, 79, 42, 180, 0, 127, 27, 3, 79] = true := by decide +kernel
theorem dX11_goes_14 : decode cX11_goes 14 = .ok (.aload_n 0, 1) := dko_42 dwX11_goes_14
theorem dX11_goes_15 : decode cX11_goes 15 = .ok (.getfield 124, 3) := dko_180 (dk_t 1 15 [180, 0, 124, 27, 3, 79, 42, 180, 0, 127, 27, 3, 79] dwX11_goes_14 rfl rfl)
theorem dX11_goes_18 : decode cX11_goes 18 = .ok (.iload_n 1, 1) := dko_27 (dk_t 4 18 [27, 3, 79, 42, 180, 0, 127, 27, 3, 79] dwX11_goes_14 rfl rfl)
theorem dX11_goes_19 : decode cX11_goes 19 = .ok (.iconst 0, 1) := dko_3 (dk_t 5 19 [3, 79, 42, 180, 0, 127, 27, 3, 79] dwX11_goes_14 rfl rfl)
theorem dX11_goes_20 : decode cX11_goes 20 = .ok (.iastore, 1) := dko_79 (dk_t 6 20 [79, 42, 180, 0, 127, 27, 3, 79] dwX11_goes_14 rfl rfl)
theorem dX11_goes_21 : decode cX11_goes 21 = .ok (.aload_n 0, 1) := dko_42 (dk_t 7 21 [42, 180, 0, 127, 27, 3, 79] dwX11_goes_14 rfl rfl)
theorem dX11_goes_22 : decode cX11_goes 22 = .ok (.getfield 127, 3) := dko_180 (dk_t 8 22 [180, 0, 127, 27, 3, 79] dwX11_goes_14 rfl rfl)
theorem dX11_goes_25 : decode cX11_goes 25 = .ok (.iload_n 1, 1) := dko_27 (dk_t 11 25 [27, 3, 79] dwX11_goes_14 rfl rfl)
theorem dX11_goes_26 : decode cX11_goes 26 = .ok (.iconst 0, 1) := dko_3 (dk_t 12 26 [3, 79] dwX11_goes_14 rfl rfl)
theorem dX11_goes_27 : decode cX11_goes 27 = .ok (.iastore, 1) := dko_79 (dk_t 13 27 [79] dwX11_goes_14 rfl rfl)
theorem dwX11_goes_28 : dkW cX11_goes 28 [42, 180, 0, 9, 28, 29, 184, 0, 156, 3, 79, 177] = true := by decide +kernel
theorem dX11_goes_28 : decode cX11_goes 28 = .ok (.aload_n 0, 1) := dko_42 dwX11_goes_28
theorem dX11_goes_29 : decode cX11_goes 29 = .ok (.getfield 9, 3) := dko_180 (dk_t 1 29 [180, 0, 9, 28, 29, 184, 0, 156, 3, 79, 177] dwX11_goes_28 rfl rfl)
theorem dX11_goes_32 : decode cX11_goes 32 = .ok (.iload_n 2, 1) := dko_28 (dk_t 4 32 [28, 29, 184, 0, 156, 3, 79, 177] dwX11_goes_28 rfl rfl)
theorem dX11_goes_33 : decode cX11_goes 33 = .ok (.iload_n 3, 1) := dko_29 (dk_t 5 33 [29, 184, 0, 156, 3, 79, 177] dwX11_goes_28 rfl rfl)
theorem dX11_goes_34 : decode cX11_goes 34 = .ok (.invokestatic 156, 3) := dko_184 (dk_t 6 34 [184, 0, 156, 3, 79, 177] dwX11_goes_28 rfl rfl)
theorem dX11_goes_37 : decode cX11_goes 37 = .ok (.iconst 0, 1) := dko_3 (dk_t 9 37 [3, 79, 177] dwX11_goes_28 rfl rfl)
theorem dX11_goes_38 : decode cX11_goes 38 = .ok (.iastore, 1) := dko_79 (dk_t 10 38 [79, 177] dwX11_goes_28 rfl rfl)
theorem dX11_goes_39 : decode cX11_goes 39 = .ok (.return_, 1) := dko_177 (dk_t 11 39 [177] dwX11_goes_28 rfl rfl)
theorem dwX11_isFor_0 : dkW cX11_isFor 0 [42, 27, 182, 0, 162, 153, 0, 37, 42, 27, 3, 182, 0, 165] = true := by decide +kernel
theorem dX11_isFor_0 : decode cX11_isFor 0 = .ok (.aload_n 0, 1) := dko_42 dwX11_isFor_0
theorem dX11_isFor_1 : decode cX11_isFor 1 = .ok (.iload_n 1, 1) := dko_27 (dk_t 1 1 [27, 182, 0, 162, 153, 0, 37, 42, 27, 3, 182, 0, 165] dwX11_isFor_0 rfl rfl)
theorem dX11_isFor_2 : decode cX11_isFor 2 = .ok (.invokevirtual 162, 3) := dko_182 (dk_t 2 2 [182, 0, 162, 153, 0, 37, 42, 27, 3, 182, 0, 165] dwX11_isFor_0 rfl rfl)
theorem dX11_isFor_5 : decode cX11_isFor 5 = .ok (.ifCond .eq 37, 3) := dko_153 (dk_t 5 5 [153, 0, 37, 42, 27, 3, 182, 0, 165] dwX11_isFor_0 rfl rfl)
theorem dX11_isFor_8 : decode cX11_isFor 8 = .ok (.aload_n 0, 1) := dko_42 (dk_t 8 8 [42, 27, 3, 182, 0, 165] dwX11_isFor_0 rfl rfl)
theorem dX11_isFor_9 : decode cX11_isFor 9 = .ok (.iload_n 1, 1) := dko_27 (dk_t 9 9 [27, 3, 182, 0, 165] dwX11_isFor_0 rfl rfl)
theorem dX11_isFor_10 : decode cX11_isFor 10 = .ok (.iconst 0, 1) := dko_3 (dk_t 10 10 [3, 182, 0, 165] dwX11_isFor_0 rfl rfl)
theorem dX11_isFor_11 : decode cX11_isFor 11 = .ok (.invokevirtual 165, 3) := dko_182 (dk_t 11 11 [182, 0, 165] dwX11_isFor_0 rfl rfl)
theorem dwX11_isFor_14 : dkW cX11_isFor 14 [4, 160, 0, 27, 42, 27, 6, 182, 0, 165, 28, 160, 0, 17] = true := by decide +kernel
theorem dX11_isFor_14 : decode cX11_isFor 14 = .ok (.iconst 1, 1) := dko_4 dwX11_isFor_14
theorem dX11_isFor_15 : decode cX11_isFor 15 = .ok (.if_icmp .ne 27, 3) := dko_160 (dk_t 1 15 [160, 0, 27, 42, 27, 6, 182, 0, 165, 28, 160, 0, 17] dwX11_isFor_14 rfl rfl)
theorem dX11_isFor_18 : decode cX11_isFor 18 = .ok (.aload_n 0, 1) := dko_42 (dk_t 4 18 [42, 27, 6, 182, 0, 165, 28, 160, 0, 17] dwX11_isFor_14 rfl rfl)
theorem dX11_isFor_19 : decode cX11_isFor 19 = .ok (.iload_n 1, 1) := dko_27 (dk_t 5 19 [27, 6, 182, 0, 165, 28, 160, 0, 17] dwX11_isFor_14 rfl rfl)
theorem dX11_isFor_20 : decode cX11_isFor 20 = .ok (.iconst 3, 1) := dko_6 (dk_t 6 20 [6, 182, 0, 165, 28, 160, 0, 17] dwX11_isFor_14 rfl rfl)
theorem dX11_isFor_21 : decode cX11_isFor 21 = .ok (.invokevirtual 165, 3) := dko_182 (dk_t 7 21 [182, 0, 165, 28, 160, 0, 17] dwX11_isFor_14 rfl rfl)
theorem dX11_isFor_24 : decode cX11_isFor 24 = .ok (.iload_n 2, 1) := dko_28 (dk_t 10 24 [28, 160, 0, 17] dwX11_isFor_14 rfl rfl)
theorem dX11_isFor_25 : decode cX11_isFor 25 = .ok (.if_icmp .ne 17, 3) := dko_160 (dk_t 11 25 [160, 0, 17] dwX11_isFor_14 rfl rfl)
theorem dwX11_isFor_28 : dkW cX11_isFor 28 [42, 27, 16, 8, 182, 0, 165, 158, 0, 7, 4, 167, 0, 4] = true := by decide +kernel
theorem dX11_isFor_28 : decode cX11_isFor 28 = .ok (.aload_n 0, 1) := dko_42 dwX11_isFor_28
theorem dX11_isFor_29 : decode cX11_isFor 29 = .ok (.iload_n 1, 1) := dko_27 (dk_t 1 29 [27, 16, 8, 182, 0, 165, 158, 0, 7, 4, 167, 0, 4] dwX11_isFor_28 rfl rfl)
theorem dX11_isFor_30 : decode cX11_isFor 30 = .ok (.bipush 8, 2) := dko_16 (dk_t 2 30 [16, 8, 182, 0, 165, 158, 0, 7, 4, 167, 0, 4] dwX11_isFor_28 rfl rfl)
theorem dX11_isFor_32 : decode cX11_isFor 32 = .ok (.invokevirtual 165, 3) := dko_182 (dk_t 4 32 [182, 0, 165, 158, 0, 7, 4, 167, 0, 4] dwX11_isFor_28 rfl rfl)
theorem dX11_isFor_35 : decode cX11_isFor 35 = .ok (.ifCond .le 7, 3) := dko_158 (dk_t 7 35 [158, 0, 7, 4, 167, 0, 4] dwX11_isFor_28 rfl rfl)
theorem dX11_isFor_38 : decode cX11_isFor 38 = .ok (.iconst 1, 1) := dko_4 (dk_t 10 38 [4, 167, 0, 4] dwX11_isFor_28 rfl rfl)
theorem dX11_isFor_39 : decode cX11_isFor 39 = .ok (.goto 4, 3) := dko_167 (dk_t 11 39 [167, 0, 4] dwX11_isFor_28 rfl rfl)
theorem dwX11_isFor_42 : dkW cX11_isFor 42 [3, 172] = true := by decide +kernel
theorem dX11_isFor_42 : decode cX11_isFor 42 = .ok (.iconst 0, 1) := dko_3 dwX11_isFor_42
theorem dX11_isFor_43 : decode cX11_isFor 43 = .ok (.ireturn, 1) := dko_172 (dk_t 1 43 [172] dwX11_isFor_42 rfl rfl)
theorem dwX11_cutAll_0 : dkW cX11_cutAll 0 [42, 3, 27, 28, 182, 1, 107, 4, 62, 29, 158, 0, 217, 29] = true := by decide +kernel
theorem dX11_cutAll_0 : decode cX11_cutAll 0 = .ok (.aload_n 0, 1) := dko_42 dwX11_cutAll_0
theorem dX11_cutAll_1 : decode cX11_cutAll 1 = .ok (.iconst 0, 1) := dko_3 (dk_t 1 1 [3, 27, 28, 182, 1, 107, 4, 62, 29, 158, 0, 217, 29] dwX11_cutAll_0 rfl rfl)
theorem dX11_cutAll_2 : decode cX11_cutAll 2 = .ok (.iload_n 1, 1) := dko_27 (dk_t 2 2 [27, 28, 182, 1, 107, 4, 62, 29, 158, 0, 217, 29] dwX11_cutAll_0 rfl rfl)
theorem dX11_cutAll_3 : decode cX11_cutAll 3 = .ok (.iload_n 2, 1) := dko_28 (dk_t 3 3 [28, 182, 1, 107, 4, 62, 29, 158, 0, 217, 29] dwX11_cutAll_0 rfl rfl)
theorem dX11_cutAll_4 : decode cX11_cutAll 4 = .ok (.invokevirtual 363, 3) := dko_182 (dk_t 4 4 [182, 1, 107, 4, 62, 29, 158, 0, 217, 29] dwX11_cutAll_0 rfl rfl)
theorem dX11_cutAll_7 : decode cX11_cutAll 7 = .ok (.iconst 1, 1) := dko_4 (dk_t 7 7 [4, 62, 29, 158, 0, 217, 29] dwX11_cutAll_0 rfl rfl)
theorem dX11_cutAll_8 : decode cX11_cutAll 8 = .ok (.istore_n 3, 1) := dko_62 (dk_t 8 8 [62, 29, 158, 0, 217, 29] dwX11_cutAll_0 rfl rfl)
theorem dX11_cutAll_9 : decode cX11_cutAll 9 = .ok (.iload_n 3, 1) := dko_29 (dk_t 9 9 [29, 158, 0, 217, 29] dwX11_cutAll_0 rfl rfl)
theorem dX11_cutAll_10 : decode cX11_cutAll 10 = .ok (.ifCond .le 217, 3) := dko_158 (dk_t 10 10 [158, 0, 217, 29] dwX11_cutAll_0 rfl rfl)
theorem dX11_cutAll_13 : decode cX11_cutAll 13 = .ok (.iload_n 3, 1) := dko_29 (dk_t 13 13 [29] dwX11_cutAll_0 rfl rfl)
theorem dwX11_cutAll_14 : dkW cX11_cutAll 14 [4, 100, 54, 4, 42, 180, 0, 124, 21, 4, 46, 16, 12] = true := by decide +kernel
theorem dX11_cutAll_14 : decode cX11_cutAll 14 = .ok (.iconst 1, 1) := dko_4 dwX11_cutAll_14
theorem dX11_cutAll_15 : decode cX11_cutAll 15 = .ok (.isub, 1) := dko_100 (dk_t 1 15 [100, 54, 4, 42, 180, 0, 124, 21, 4, 46, 16, 12] dwX11_cutAll_14 rfl rfl)
theorem dX11_cutAll_16 : decode cX11_cutAll 16 = .ok (.istore 4, 2) := dko_54 (dk_t 2 16 [54, 4, 42, 180, 0, 124, 21, 4, 46, 16, 12] dwX11_cutAll_14 rfl rfl)
theorem dX11_cutAll_18 : decode cX11_cutAll 18 = .ok (.aload_n 0, 1) := dko_42 (dk_t 4 18 [42, 180, 0, 124, 21, 4, 46, 16, 12] dwX11_cutAll_14 rfl rfl)
theorem dX11_cutAll_19 : decode cX11_cutAll 19 = .ok (.getfield 124, 3) := dko_180 (dk_t 5 19 [180, 0, 124, 21, 4, 46, 16, 12] dwX11_cutAll_14 rfl rfl)
theorem dX11_cutAll_22 : decode cX11_cutAll 22 = .ok (.iload 4, 2) := dko_21 (dk_t 8 22 [21, 4, 46, 16, 12] dwX11_cutAll_14 rfl rfl)
theorem dX11_cutAll_24 : decode cX11_cutAll 24 = .ok (.iaload, 1) := dko_46 (dk_t 10 24 [46, 16, 12] dwX11_cutAll_14 rfl rfl)
theorem dX11_cutAll_25 : decode cX11_cutAll 25 = .ok (.bipush 12, 2) := dko_16 (dk_t 11 25 [16, 12] dwX11_cutAll_14 rfl rfl)
theorem dwX11_cutAll_27 : dkW cX11_cutAll 27 [160, 0, 9, 132, 3, 255, 167, 0, 191, 42, 180, 0, 127] = true := by decide +kernel
theorem dX11_cutAll_27 : decode cX11_cutAll 27 = .ok (.if_icmp .ne 9, 3) := dko_160 dwX11_cutAll_27
theorem dX11_cutAll_30 : decode cX11_cutAll 30 = .ok (.iinc 3 (-1), 3) := dko_132 (dk_t 3 30 [132, 3, 255, 167, 0, 191, 42, 180, 0, 127] dwX11_cutAll_27 rfl rfl)
theorem dX11_cutAll_33 : decode cX11_cutAll 33 = .ok (.goto 191, 3) := dko_167 (dk_t 6 33 [167, 0, 191, 42, 180, 0, 127] dwX11_cutAll_27 rfl rfl)
theorem dX11_cutAll_36 : decode cX11_cutAll 36 = .ok (.aload_n 0, 1) := dko_42 (dk_t 9 36 [42, 180, 0, 127] dwX11_cutAll_27 rfl rfl)
theorem dX11_cutAll_37 : decode cX11_cutAll 37 = .ok (.getfield 127, 3) := dko_180 (dk_t 10 37 [180, 0, 127] dwX11_cutAll_27 rfl rfl)
theorem dwX11_cutAll_40 : dkW cX11_cutAll 40 [21, 4, 46, 16, 30, 159, 0, 24, 42, 42, 180, 0, 124] = true := by decide +kernel
theorem dX11_cutAll_40 : decode cX11_cutAll 40 = .ok (.iload 4, 2) := dko_21 dwX11_cutAll_40
theorem dX11_cutAll_42 : decode cX11_cutAll 42 = .ok (.iaload, 1) := dko_46 (dk_t 2 42 [46, 16, 30, 159, 0, 24, 42, 42, 180, 0, 124] dwX11_cutAll_40 rfl rfl)
theorem dX11_cutAll_43 : decode cX11_cutAll 43 = .ok (.bipush 30, 2) := dko_16 (dk_t 3 43 [16, 30, 159, 0, 24, 42, 42, 180, 0, 124] dwX11_cutAll_40 rfl rfl)
theorem dX11_cutAll_45 : decode cX11_cutAll 45 = .ok (.if_icmp .eq 24, 3) := dko_159 (dk_t 5 45 [159, 0, 24, 42, 42, 180, 0, 124] dwX11_cutAll_40 rfl rfl)
theorem dX11_cutAll_48 : decode cX11_cutAll 48 = .ok (.aload_n 0, 1) := dko_42 (dk_t 8 48 [42, 42, 180, 0, 124] dwX11_cutAll_40 rfl rfl)
theorem dX11_cutAll_49 : decode cX11_cutAll 49 = .ok (.aload_n 0, 1) := dko_42 (dk_t 9 49 [42, 180, 0, 124] dwX11_cutAll_40 rfl rfl)
theorem dX11_cutAll_50 : decode cX11_cutAll 50 = .ok (.getfield 124, 3) := dko_180 (dk_t 10 50 [180, 0, 124] dwX11_cutAll_40 rfl rfl)
theorem dwX11_cutAll_53 : dkW cX11_cutAll 53 [21, 4, 46, 42, 180, 0, 118, 21, 4, 46, 182, 1, 111] = true := by decide +kernel
theorem dX11_cutAll_53 : decode cX11_cutAll 53 = .ok (.iload 4, 2) := dko_21 dwX11_cutAll_53
theorem dX11_cutAll_55 : decode cX11_cutAll 55 = .ok (.iaload, 1) := dko_46 (dk_t 2 55 [46, 42, 180, 0, 118, 21, 4, 46, 182, 1, 111] dwX11_cutAll_53 rfl rfl)
theorem dX11_cutAll_56 : decode cX11_cutAll 56 = .ok (.aload_n 0, 1) := dko_42 (dk_t 3 56 [42, 180, 0, 118, 21, 4, 46, 182, 1, 111] dwX11_cutAll_53 rfl rfl)
theorem dX11_cutAll_57 : decode cX11_cutAll 57 = .ok (.getfield 118, 3) := dko_180 (dk_t 4 57 [180, 0, 118, 21, 4, 46, 182, 1, 111] dwX11_cutAll_53 rfl rfl)
theorem dX11_cutAll_60 : decode cX11_cutAll 60 = .ok (.iload 4, 2) := dko_21 (dk_t 7 60 [21, 4, 46, 182, 1, 111] dwX11_cutAll_53 rfl rfl)
theorem dX11_cutAll_62 : decode cX11_cutAll 62 = .ok (.iaload, 1) := dko_46 (dk_t 9 62 [46, 182, 1, 111] dwX11_cutAll_53 rfl rfl)
theorem dX11_cutAll_63 : decode cX11_cutAll 63 = .ok (.invokevirtual 367, 3) := dko_182 (dk_t 10 63 [182, 1, 111] dwX11_cutAll_53 rfl rfl)
theorem dwX11_cutAll_66 : dkW cX11_cutAll 66 [154, 0, 25, 42, 180, 0, 124, 21, 4, 92, 46, 4, 96, 79] = true := by decide +kernel
theorem dX11_cutAll_66 : decode cX11_cutAll 66 = .ok (.ifCond .ne 25, 3) := dko_154 dwX11_cutAll_66
theorem dX11_cutAll_69 : decode cX11_cutAll 69 = .ok (.aload_n 0, 1) := dko_42 (dk_t 3 69 [42, 180, 0, 124, 21, 4, 92, 46, 4, 96, 79] dwX11_cutAll_66 rfl rfl)
theorem dX11_cutAll_70 : decode cX11_cutAll 70 = .ok (.getfield 124, 3) := dko_180 (dk_t 4 70 [180, 0, 124, 21, 4, 92, 46, 4, 96, 79] dwX11_cutAll_66 rfl rfl)
theorem dX11_cutAll_73 : decode cX11_cutAll 73 = .ok (.iload 4, 2) := dko_21 (dk_t 7 73 [21, 4, 92, 46, 4, 96, 79] dwX11_cutAll_66 rfl rfl)
theorem dX11_cutAll_75 : decode cX11_cutAll 75 = .ok (.dup2, 1) := dko_92 (dk_t 9 75 [92, 46, 4, 96, 79] dwX11_cutAll_66 rfl rfl)
theorem dX11_cutAll_76 : decode cX11_cutAll 76 = .ok (.iaload, 1) := dko_46 (dk_t 10 76 [46, 4, 96, 79] dwX11_cutAll_66 rfl rfl)
theorem dX11_cutAll_77 : decode cX11_cutAll 77 = .ok (.iconst 1, 1) := dko_4 (dk_t 11 77 [4, 96, 79] dwX11_cutAll_66 rfl rfl)
theorem dX11_cutAll_78 : decode cX11_cutAll 78 = .ok (.iadd, 1) := dko_96 (dk_t 12 78 [96, 79] dwX11_cutAll_66 rfl rfl)
theorem dX11_cutAll_79 : decode cX11_cutAll 79 = .ok (.iastore, 1) := dko_79 (dk_t 13 79 [79] dwX11_cutAll_66 rfl rfl)
theorem dwX11_cutAll_80 : dkW cX11_cutAll 80 [42, 180, 0, 127, 21, 4, 3, 79, 167, 0, 136, 42] = true := by decide +kernel
theorem dX11_cutAll_80 : decode cX11_cutAll 80 = .ok (.aload_n 0, 1) := dko_42 dwX11_cutAll_80
theorem dX11_cutAll_81 : decode cX11_cutAll 81 = .ok (.getfield 127, 3) := dko_180 (dk_t 1 81 [180, 0, 127, 21, 4, 3, 79, 167, 0, 136, 42] dwX11_cutAll_80 rfl rfl)
theorem dX11_cutAll_84 : decode cX11_cutAll 84 = .ok (.iload 4, 2) := dko_21 (dk_t 4 84 [21, 4, 3, 79, 167, 0, 136, 42] dwX11_cutAll_80 rfl rfl)
theorem dX11_cutAll_86 : decode cX11_cutAll 86 = .ok (.iconst 0, 1) := dko_3 (dk_t 6 86 [3, 79, 167, 0, 136, 42] dwX11_cutAll_80 rfl rfl)
theorem dX11_cutAll_87 : decode cX11_cutAll 87 = .ok (.iastore, 1) := dko_79 (dk_t 7 87 [79, 167, 0, 136, 42] dwX11_cutAll_80 rfl rfl)
theorem dX11_cutAll_88 : decode cX11_cutAll 88 = .ok (.goto 136, 3) := dko_167 (dk_t 8 88 [167, 0, 136, 42] dwX11_cutAll_80 rfl rfl)
theorem dX11_cutAll_91 : decode cX11_cutAll 91 = .ok (.aload_n 0, 1) := dko_42 (dk_t 11 91 [42] dwX11_cutAll_80 rfl rfl)
theorem dwX11_cutAll_92 : dkW cX11_cutAll 92 [180, 0, 124, 21, 4, 46, 54, 5, 42, 180, 0, 127, 21, 4] = true := by decide +kernel
theorem dX11_cutAll_92 : decode cX11_cutAll 92 = .ok (.getfield 124, 3) := dko_180 dwX11_cutAll_92
theorem dX11_cutAll_95 : decode cX11_cutAll 95 = .ok (.iload 4, 2) := dko_21 (dk_t 3 95 [21, 4, 46, 54, 5, 42, 180, 0, 127, 21, 4] dwX11_cutAll_92 rfl rfl)
theorem dX11_cutAll_97 : decode cX11_cutAll 97 = .ok (.iaload, 1) := dko_46 (dk_t 5 97 [46, 54, 5, 42, 180, 0, 127, 21, 4] dwX11_cutAll_92 rfl rfl)
theorem dX11_cutAll_98 : decode cX11_cutAll 98 = .ok (.istore 5, 2) := dko_54 (dk_t 6 98 [54, 5, 42, 180, 0, 127, 21, 4] dwX11_cutAll_92 rfl rfl)
theorem dX11_cutAll_100 : decode cX11_cutAll 100 = .ok (.aload_n 0, 1) := dko_42 (dk_t 8 100 [42, 180, 0, 127, 21, 4] dwX11_cutAll_92 rfl rfl)
theorem dX11_cutAll_101 : decode cX11_cutAll 101 = .ok (.getfield 127, 3) := dko_180 (dk_t 9 101 [180, 0, 127, 21, 4] dwX11_cutAll_92 rfl rfl)
theorem dX11_cutAll_104 : decode cX11_cutAll 104 = .ok (.iload 4, 2) := dko_21 (dk_t 12 104 [21, 4] dwX11_cutAll_92 rfl rfl)
theorem dwX11_cutAll_106 : dkW cX11_cutAll 106 [46, 54, 6, 42, 180, 0, 127, 21, 4, 92, 46, 4, 96, 79] = true := by decide +kernel
theorem dX11_cutAll_106 : decode cX11_cutAll 106 = .ok (.iaload, 1) := dko_46 dwX11_cutAll_106
theorem dX11_cutAll_107 : decode cX11_cutAll 107 = .ok (.istore 6, 2) := dko_54 (dk_t 1 107 [54, 6, 42, 180, 0, 127, 21, 4, 92, 46, 4, 96, 79] dwX11_cutAll_106 rfl rfl)
theorem dX11_cutAll_109 : decode cX11_cutAll 109 = .ok (.aload_n 0, 1) := dko_42 (dk_t 3 109 [42, 180, 0, 127, 21, 4, 92, 46, 4, 96, 79] dwX11_cutAll_106 rfl rfl)
theorem dX11_cutAll_110 : decode cX11_cutAll 110 = .ok (.getfield 127, 3) := dko_180 (dk_t 4 110 [180, 0, 127, 21, 4, 92, 46, 4, 96, 79] dwX11_cutAll_106 rfl rfl)
theorem dX11_cutAll_113 : decode cX11_cutAll 113 = .ok (.iload 4, 2) := dko_21 (dk_t 7 113 [21, 4, 92, 46, 4, 96, 79] dwX11_cutAll_106 rfl rfl)
theorem dX11_cutAll_115 : decode cX11_cutAll 115 = .ok (.dup2, 1) := dko_92 (dk_t 9 115 [92, 46, 4, 96, 79] dwX11_cutAll_106 rfl rfl)
theorem dX11_cutAll_116 : decode cX11_cutAll 116 = .ok (.iaload, 1) := dko_46 (dk_t 10 116 [46, 4, 96, 79] dwX11_cutAll_106 rfl rfl)
theorem dX11_cutAll_117 : decode cX11_cutAll 117 = .ok (.iconst 1, 1) := dko_4 (dk_t 11 117 [4, 96, 79] dwX11_cutAll_106 rfl rfl)
theorem dX11_cutAll_118 : decode cX11_cutAll 118 = .ok (.iadd, 1) := dko_96 (dk_t 12 118 [96, 79] dwX11_cutAll_106 rfl rfl)
theorem dX11_cutAll_119 : decode cX11_cutAll 119 = .ok (.iastore, 1) := dko_79 (dk_t 13 119 [79] dwX11_cutAll_106 rfl rfl)
theorem dwX11_cutAll_120 : dkW cX11_cutAll 120 [42, 21, 5, 4, 182, 0, 165, 21, 6, 184, 0, 156, 54, 7] = true := by decide +kernel
theorem dX11_cutAll_120 : decode cX11_cutAll 120 = .ok (.aload_n 0, 1) := dko_42 dwX11_cutAll_120
theorem dX11_cutAll_121 : decode cX11_cutAll 121 = .ok (.iload 5, 2) := dko_21 (dk_t 1 121 [21, 5, 4, 182, 0, 165, 21, 6, 184, 0, 156, 54, 7] dwX11_cutAll_120 rfl rfl)
theorem dX11_cutAll_123 : decode cX11_cutAll 123 = .ok (.iconst 1, 1) := dko_4 (dk_t 3 123 [4, 182, 0, 165, 21, 6, 184, 0, 156, 54, 7] dwX11_cutAll_120 rfl rfl)
theorem dX11_cutAll_124 : decode cX11_cutAll 124 = .ok (.invokevirtual 165, 3) := dko_182 (dk_t 4 124 [182, 0, 165, 21, 6, 184, 0, 156, 54, 7] dwX11_cutAll_120 rfl rfl)
theorem dX11_cutAll_127 : decode cX11_cutAll 127 = .ok (.iload 6, 2) := dko_21 (dk_t 7 127 [21, 6, 184, 0, 156, 54, 7] dwX11_cutAll_120 rfl rfl)
theorem dX11_cutAll_129 : decode cX11_cutAll 129 = .ok (.invokestatic 156, 3) := dko_184 (dk_t 9 129 [184, 0, 156, 54, 7] dwX11_cutAll_120 rfl rfl)
theorem dX11_cutAll_132 : decode cX11_cutAll 132 = .ok (.istore 7, 2) := dko_54 (dk_t 12 132 [54, 7] dwX11_cutAll_120 rfl rfl)
theorem dwX11_cutAll_134 : dkW cX11_cutAll 134 [42, 180, 0, 9, 21, 7, 46, 4, 160, 0, 82, 42] = true := by decide +kernel
theorem dX11_cutAll_134 : decode cX11_cutAll 134 = .ok (.aload_n 0, 1) := dko_42 dwX11_cutAll_134
theorem dX11_cutAll_135 : decode cX11_cutAll 135 = .ok (.getfield 9, 3) := dko_180 (dk_t 1 135 [180, 0, 9, 21, 7, 46, 4, 160, 0, 82, 42] dwX11_cutAll_134 rfl rfl)
theorem dX11_cutAll_138 : decode cX11_cutAll 138 = .ok (.iload 7, 2) := dko_21 (dk_t 4 138 [21, 7, 46, 4, 160, 0, 82, 42] dwX11_cutAll_134 rfl rfl)
theorem dX11_cutAll_140 : decode cX11_cutAll 140 = .ok (.iaload, 1) := dko_46 (dk_t 6 140 [46, 4, 160, 0, 82, 42] dwX11_cutAll_134 rfl rfl)
theorem dX11_cutAll_141 : decode cX11_cutAll 141 = .ok (.iconst 1, 1) := dko_4 (dk_t 7 141 [4, 160, 0, 82, 42] dwX11_cutAll_134 rfl rfl)
theorem dX11_cutAll_142 : decode cX11_cutAll 142 = .ok (.if_icmp .ne 82, 3) := dko_160 (dk_t 8 142 [160, 0, 82, 42] dwX11_cutAll_134 rfl rfl)
theorem dX11_cutAll_145 : decode cX11_cutAll 145 = .ok (.aload_n 0, 1) := dko_42 (dk_t 11 145 [42] dwX11_cutAll_134 rfl rfl)
theorem dwX11_cutAll_146 : dkW cX11_cutAll 146 [180, 0, 9, 21, 7, 4, 96, 42, 21, 5, 5, 182, 0, 165] = true := by decide +kernel
theorem dX11_cutAll_146 : decode cX11_cutAll 146 = .ok (.getfield 9, 3) := dko_180 dwX11_cutAll_146
theorem dX11_cutAll_149 : decode cX11_cutAll 149 = .ok (.iload 7, 2) := dko_21 (dk_t 3 149 [21, 7, 4, 96, 42, 21, 5, 5, 182, 0, 165] dwX11_cutAll_146 rfl rfl)
theorem dX11_cutAll_151 : decode cX11_cutAll 151 = .ok (.iconst 1, 1) := dko_4 (dk_t 5 151 [4, 96, 42, 21, 5, 5, 182, 0, 165] dwX11_cutAll_146 rfl rfl)
theorem dX11_cutAll_152 : decode cX11_cutAll 152 = .ok (.iadd, 1) := dko_96 (dk_t 6 152 [96, 42, 21, 5, 5, 182, 0, 165] dwX11_cutAll_146 rfl rfl)
theorem dX11_cutAll_153 : decode cX11_cutAll 153 = .ok (.aload_n 0, 1) := dko_42 (dk_t 7 153 [42, 21, 5, 5, 182, 0, 165] dwX11_cutAll_146 rfl rfl)
theorem dX11_cutAll_154 : decode cX11_cutAll 154 = .ok (.iload 5, 2) := dko_21 (dk_t 8 154 [21, 5, 5, 182, 0, 165] dwX11_cutAll_146 rfl rfl)
theorem dX11_cutAll_156 : decode cX11_cutAll 156 = .ok (.iconst 2, 1) := dko_5 (dk_t 10 156 [5, 182, 0, 165] dwX11_cutAll_146 rfl rfl)
theorem dX11_cutAll_157 : decode cX11_cutAll 157 = .ok (.invokevirtual 165, 3) := dko_182 (dk_t 11 157 [182, 0, 165] dwX11_cutAll_146 rfl rfl)
theorem dwX11_cutAll_160 : dkW cX11_cutAll 160 [96, 46, 42, 180, 0, 121, 21, 4, 46, 160, 0, 55, 42] = true := by decide +kernel
theorem dX11_cutAll_160 : decode cX11_cutAll 160 = .ok (.iadd, 1) := dko_96 dwX11_cutAll_160
theorem dX11_cutAll_161 : decode cX11_cutAll 161 = .ok (.iaload, 1) := dko_46 (dk_t 1 161 [46, 42, 180, 0, 121, 21, 4, 46, 160, 0, 55, 42] dwX11_cutAll_160 rfl rfl)
theorem dX11_cutAll_162 : decode cX11_cutAll 162 = .ok (.aload_n 0, 1) := dko_42 (dk_t 2 162 [42, 180, 0, 121, 21, 4, 46, 160, 0, 55, 42] dwX11_cutAll_160 rfl rfl)
theorem dX11_cutAll_163 : decode cX11_cutAll 163 = .ok (.getfield 121, 3) := dko_180 (dk_t 3 163 [180, 0, 121, 21, 4, 46, 160, 0, 55, 42] dwX11_cutAll_160 rfl rfl)
theorem dX11_cutAll_166 : decode cX11_cutAll 166 = .ok (.iload 4, 2) := dko_21 (dk_t 6 166 [21, 4, 46, 160, 0, 55, 42] dwX11_cutAll_160 rfl rfl)
theorem dX11_cutAll_168 : decode cX11_cutAll 168 = .ok (.iaload, 1) := dko_46 (dk_t 8 168 [46, 160, 0, 55, 42] dwX11_cutAll_160 rfl rfl)
theorem dX11_cutAll_169 : decode cX11_cutAll 169 = .ok (.if_icmp .ne 55, 3) := dko_160 (dk_t 9 169 [160, 0, 55, 42] dwX11_cutAll_160 rfl rfl)
theorem dX11_cutAll_172 : decode cX11_cutAll 172 = .ok (.aload_n 0, 1) := dko_42 (dk_t 12 172 [42] dwX11_cutAll_160 rfl rfl)
theorem dwX11_cutAll_173 : dkW cX11_cutAll 173 [21, 5, 16, 8, 182, 0, 165, 5, 160, 0, 26, 42] = true := by decide +kernel
theorem dX11_cutAll_173 : decode cX11_cutAll 173 = .ok (.iload 5, 2) := dko_21 dwX11_cutAll_173
theorem dX11_cutAll_175 : decode cX11_cutAll 175 = .ok (.bipush 8, 2) := dko_16 (dk_t 2 175 [16, 8, 182, 0, 165, 5, 160, 0, 26, 42] dwX11_cutAll_173 rfl rfl)
theorem dX11_cutAll_177 : decode cX11_cutAll 177 = .ok (.invokevirtual 165, 3) := dko_182 (dk_t 4 177 [182, 0, 165, 5, 160, 0, 26, 42] dwX11_cutAll_173 rfl rfl)
theorem dX11_cutAll_180 : decode cX11_cutAll 180 = .ok (.iconst 2, 1) := dko_5 (dk_t 7 180 [5, 160, 0, 26, 42] dwX11_cutAll_173 rfl rfl)
theorem dX11_cutAll_181 : decode cX11_cutAll 181 = .ok (.if_icmp .ne 26, 3) := dko_160 (dk_t 8 181 [160, 0, 26, 42] dwX11_cutAll_173 rfl rfl)
theorem dX11_cutAll_184 : decode cX11_cutAll 184 = .ok (.aload_n 0, 1) := dko_42 (dk_t 11 184 [42] dwX11_cutAll_173 rfl rfl)
theorem dwX11_cutAll_185 : dkW cX11_cutAll 185 [180, 0, 9, 21, 7, 4, 96, 42, 21, 5, 5, 182, 0, 165] = true := by decide +kernel
theorem dX11_cutAll_185 : decode cX11_cutAll 185 = .ok (.getfield 9, 3) := dko_180 dwX11_cutAll_185
theorem dX11_cutAll_188 : decode cX11_cutAll 188 = .ok (.iload 7, 2) := dko_21 (dk_t 3 188 [21, 7, 4, 96, 42, 21, 5, 5, 182, 0, 165] dwX11_cutAll_185 rfl rfl)
theorem dX11_cutAll_190 : decode cX11_cutAll 190 = .ok (.iconst 1, 1) := dko_4 (dk_t 5 190 [4, 96, 42, 21, 5, 5, 182, 0, 165] dwX11_cutAll_185 rfl rfl)
theorem dX11_cutAll_191 : decode cX11_cutAll 191 = .ok (.iadd, 1) := dko_96 (dk_t 6 191 [96, 42, 21, 5, 5, 182, 0, 165] dwX11_cutAll_185 rfl rfl)
theorem dX11_cutAll_192 : decode cX11_cutAll 192 = .ok (.aload_n 0, 1) := dko_42 (dk_t 7 192 [42, 21, 5, 5, 182, 0, 165] dwX11_cutAll_185 rfl rfl)
theorem dX11_cutAll_193 : decode cX11_cutAll 193 = .ok (.iload 5, 2) := dko_21 (dk_t 8 193 [21, 5, 5, 182, 0, 165] dwX11_cutAll_185 rfl rfl)
theorem dX11_cutAll_195 : decode cX11_cutAll 195 = .ok (.iconst 2, 1) := dko_5 (dk_t 10 195 [5, 182, 0, 165] dwX11_cutAll_185 rfl rfl)
theorem dX11_cutAll_196 : decode cX11_cutAll 196 = .ok (.invokevirtual 165, 3) := dko_182 (dk_t 11 196 [182, 0, 165] dwX11_cutAll_185 rfl rfl)
theorem dwX11_cutAll_199 : dkW cX11_cutAll 199 [96, 17, 252, 24, 79, 167, 0, 20, 42, 29, 42, 21, 5, 4] = true := by decide +kernel
theorem dX11_cutAll_199 : decode cX11_cutAll 199 = .ok (.iadd, 1) := dko_96 dwX11_cutAll_199
theorem dX11_cutAll_200 : decode cX11_cutAll 200 = .ok (.sipush (-1000), 3) := dko_17 (dk_t 1 200 [17, 252, 24, 79, 167, 0, 20, 42, 29, 42, 21, 5, 4] dwX11_cutAll_199 rfl rfl)
theorem dX11_cutAll_203 : decode cX11_cutAll 203 = .ok (.iastore, 1) := dko_79 (dk_t 4 203 [79, 167, 0, 20, 42, 29, 42, 21, 5, 4] dwX11_cutAll_199 rfl rfl)
theorem dX11_cutAll_204 : decode cX11_cutAll 204 = .ok (.goto 20, 3) := dko_167 (dk_t 5 204 [167, 0, 20, 42, 29, 42, 21, 5, 4] dwX11_cutAll_199 rfl rfl)
theorem dX11_cutAll_207 : decode cX11_cutAll 207 = .ok (.aload_n 0, 1) := dko_42 (dk_t 8 207 [42, 29, 42, 21, 5, 4] dwX11_cutAll_199 rfl rfl)
theorem dX11_cutAll_208 : decode cX11_cutAll 208 = .ok (.iload_n 3, 1) := dko_29 (dk_t 9 208 [29, 42, 21, 5, 4] dwX11_cutAll_199 rfl rfl)
theorem dX11_cutAll_209 : decode cX11_cutAll 209 = .ok (.aload_n 0, 1) := dko_42 (dk_t 10 209 [42, 21, 5, 4] dwX11_cutAll_199 rfl rfl)
theorem dX11_cutAll_210 : decode cX11_cutAll 210 = .ok (.iload 5, 2) := dko_21 (dk_t 11 210 [21, 5, 4] dwX11_cutAll_199 rfl rfl)
theorem dX11_cutAll_212 : decode cX11_cutAll 212 = .ok (.iconst 1, 1) := dko_4 (dk_t 13 212 [4] dwX11_cutAll_199 rfl rfl)
theorem dwX11_cutAll_213 : dkW cX11_cutAll 213 [182, 0, 165, 21, 6, 182, 1, 107, 132, 3, 1, 167, 255, 41] = true := by decide +kernel
theorem dX11_cutAll_213 : decode cX11_cutAll 213 = .ok (.invokevirtual 165, 3) := dko_182 dwX11_cutAll_213
theorem dX11_cutAll_216 : decode cX11_cutAll 216 = .ok (.iload 6, 2) := dko_21 (dk_t 3 216 [21, 6, 182, 1, 107, 132, 3, 1, 167, 255, 41] dwX11_cutAll_213 rfl rfl)
theorem dX11_cutAll_218 : decode cX11_cutAll 218 = .ok (.invokevirtual 363, 3) := dko_182 (dk_t 5 218 [182, 1, 107, 132, 3, 1, 167, 255, 41] dwX11_cutAll_213 rfl rfl)
theorem dX11_cutAll_221 : decode cX11_cutAll 221 = .ok (.iinc 3 1, 3) := dko_132 (dk_t 8 221 [132, 3, 1, 167, 255, 41] dwX11_cutAll_213 rfl rfl)
theorem dX11_cutAll_224 : decode cX11_cutAll 224 = .ok (.goto (-215), 3) := dko_167 (dk_t 11 224 [167, 255, 41] dwX11_cutAll_213 rfl rfl)
theorem dwX11_cutAll_227 : dkW cX11_cutAll 227 [177] = true := by decide +kernel
theorem dX11_cutAll_227 : decode cX11_cutAll 227 = .ok (.return_, 1) := dko_177 dwX11_cutAll_227
theorem dwX11_cut_0 : dkW cX11_cut 0 [42, 3, 181, 0, 134, 42, 182, 0, 231, 27, 184, 0, 149] = true := by decide +kernel
theorem dX11_cut_0 : decode cX11_cut 0 = .ok (.aload_n 0, 1) := dko_42 dwX11_cut_0
theorem dX11_cut_1 : decode cX11_cut 1 = .ok (.iconst 0, 1) := dko_3 (dk_t 1 1 [3, 181, 0, 134, 42, 182, 0, 231, 27, 184, 0, 149] dwX11_cut_0 rfl rfl)
theorem dX11_cut_2 : decode cX11_cut 2 = .ok (.putfield 134, 3) := dko_181 (dk_t 2 2 [181, 0, 134, 42, 182, 0, 231, 27, 184, 0, 149] dwX11_cut_0 rfl rfl)
theorem dX11_cut_5 : decode cX11_cut 5 = .ok (.aload_n 0, 1) := dko_42 (dk_t 5 5 [42, 182, 0, 231, 27, 184, 0, 149] dwX11_cut_0 rfl rfl)
theorem dX11_cut_6 : decode cX11_cut 6 = .ok (.invokevirtual 231, 3) := dko_182 (dk_t 6 6 [182, 0, 231, 27, 184, 0, 149] dwX11_cut_0 rfl rfl)
theorem dX11_cut_9 : decode cX11_cut 9 = .ok (.iload_n 1, 1) := dko_27 (dk_t 9 9 [27, 184, 0, 149] dwX11_cut_0 rfl rfl)
theorem dX11_cut_10 : decode cX11_cut 10 = .ok (.invokestatic 149, 3) := dko_184 (dk_t 10 10 [184, 0, 149] dwX11_cut_0 rfl rfl)
theorem dwX11_cut_13 : dkW cX11_cut 13 [153, 0, 10, 28, 184, 0, 153, 154, 0, 9, 42, 2] = true := by decide +kernel
theorem dX11_cut_13 : decode cX11_cut 13 = .ok (.ifCond .eq 10, 3) := dko_153 dwX11_cut_13
theorem dX11_cut_16 : decode cX11_cut 16 = .ok (.iload_n 2, 1) := dko_28 (dk_t 3 16 [28, 184, 0, 153, 154, 0, 9, 42, 2] dwX11_cut_13 rfl rfl)
theorem dX11_cut_17 : decode cX11_cut 17 = .ok (.invokestatic 153, 3) := dko_184 (dk_t 4 17 [184, 0, 153, 154, 0, 9, 42, 2] dwX11_cut_13 rfl rfl)
theorem dX11_cut_20 : decode cX11_cut 20 = .ok (.ifCond .ne 9, 3) := dko_154 (dk_t 7 20 [154, 0, 9, 42, 2] dwX11_cut_13 rfl rfl)
theorem dX11_cut_23 : decode cX11_cut 23 = .ok (.aload_n 0, 1) := dko_42 (dk_t 10 23 [42, 2] dwX11_cut_13 rfl rfl)
theorem dX11_cut_24 : decode cX11_cut 24 = .ok (.iconst (-1), 1) := dko_2 (dk_t 11 24 [2] dwX11_cut_13 rfl rfl)
theorem dwX11_cut_25 : dkW cX11_cut 25 [182, 1, 69, 172, 42, 27, 28, 182, 1, 90, 154, 0, 10, 42] = true := by decide +kernel
theorem dX11_cut_25 : decode cX11_cut 25 = .ok (.invokevirtual 325, 3) := dko_182 dwX11_cut_25
theorem dX11_cut_28 : decode cX11_cut 28 = .ok (.ireturn, 1) := dko_172 (dk_t 3 28 [172, 42, 27, 28, 182, 1, 90, 154, 0, 10, 42] dwX11_cut_25 rfl rfl)
theorem dX11_cut_29 : decode cX11_cut 29 = .ok (.aload_n 0, 1) := dko_42 (dk_t 4 29 [42, 27, 28, 182, 1, 90, 154, 0, 10, 42] dwX11_cut_25 rfl rfl)
theorem dX11_cut_30 : decode cX11_cut 30 = .ok (.iload_n 1, 1) := dko_27 (dk_t 5 30 [27, 28, 182, 1, 90, 154, 0, 10, 42] dwX11_cut_25 rfl rfl)
theorem dX11_cut_31 : decode cX11_cut 31 = .ok (.iload_n 2, 1) := dko_28 (dk_t 6 31 [28, 182, 1, 90, 154, 0, 10, 42] dwX11_cut_25 rfl rfl)
theorem dX11_cut_32 : decode cX11_cut 32 = .ok (.invokevirtual 346, 3) := dko_182 (dk_t 7 32 [182, 1, 90, 154, 0, 10, 42] dwX11_cut_25 rfl rfl)
theorem dX11_cut_35 : decode cX11_cut 35 = .ok (.ifCond .ne 10, 3) := dko_154 (dk_t 10 35 [154, 0, 10, 42] dwX11_cut_25 rfl rfl)
theorem dX11_cut_38 : decode cX11_cut 38 = .ok (.aload_n 0, 1) := dko_42 (dk_t 13 38 [42] dwX11_cut_25 rfl rfl)
theorem dwX11_cut_39 : dkW cX11_cut 39 [16, 254, 182, 1, 69, 172, 42, 182, 1, 94, 42, 27, 28] = true := by decide +kernel
theorem dX11_cut_39 : decode cX11_cut 39 = .ok (.bipush (-2), 2) := dko_16 dwX11_cut_39
theorem dX11_cut_41 : decode cX11_cut 41 = .ok (.invokevirtual 325, 3) := dko_182 (dk_t 2 41 [182, 1, 69, 172, 42, 182, 1, 94, 42, 27, 28] dwX11_cut_39 rfl rfl)
theorem dX11_cut_44 : decode cX11_cut 44 = .ok (.ireturn, 1) := dko_172 (dk_t 5 44 [172, 42, 182, 1, 94, 42, 27, 28] dwX11_cut_39 rfl rfl)
theorem dX11_cut_45 : decode cX11_cut 45 = .ok (.aload_n 0, 1) := dko_42 (dk_t 6 45 [42, 182, 1, 94, 42, 27, 28] dwX11_cut_39 rfl rfl)
theorem dX11_cut_46 : decode cX11_cut 46 = .ok (.invokevirtual 350, 3) := dko_182 (dk_t 7 46 [182, 1, 94, 42, 27, 28] dwX11_cut_39 rfl rfl)
theorem dX11_cut_49 : decode cX11_cut 49 = .ok (.aload_n 0, 1) := dko_42 (dk_t 10 49 [42, 27, 28] dwX11_cut_39 rfl rfl)
theorem dX11_cut_50 : decode cX11_cut 50 = .ok (.iload_n 1, 1) := dko_27 (dk_t 11 50 [27, 28] dwX11_cut_39 rfl rfl)
theorem dX11_cut_51 : decode cX11_cut 51 = .ok (.iload_n 2, 1) := dko_28 (dk_t 12 51 [28] dwX11_cut_39 rfl rfl)
theorem dwX11_cut_52 : dkW cX11_cut 52 [182, 1, 114, 42, 182, 1, 97, 172] = true := by decide +kernel
theorem dX11_cut_52 : decode cX11_cut 52 = .ok (.invokevirtual 370, 3) := dko_182 dwX11_cut_52
theorem dX11_cut_55 : decode cX11_cut 55 = .ok (.aload_n 0, 1) := dko_42 (dk_t 3 55 [42, 182, 1, 97, 172] dwX11_cut_52 rfl rfl)
theorem dX11_cut_56 : decode cX11_cut 56 = .ok (.invokevirtual 353, 3) := dko_182 (dk_t 4 56 [182, 1, 97, 172] dwX11_cut_52 rfl rfl)
theorem dX11_cut_59 : decode cX11_cut 59 = .ok (.ireturn, 1) := dko_172 (dk_t 7 59 [172] dwX11_cut_52 rfl rfl)
theorem dwX11_rekey_0 : dkW cX11_rekey 0 [42, 3, 181, 0, 134, 42, 182, 0, 231, 27, 184, 0, 149] = true := by decide +kernel
theorem dX11_rekey_0 : decode cX11_rekey 0 = .ok (.aload_n 0, 1) := dko_42 dwX11_rekey_0
theorem dX11_rekey_1 : decode cX11_rekey 1 = .ok (.iconst 0, 1) := dko_3 (dk_t 1 1 [3, 181, 0, 134, 42, 182, 0, 231, 27, 184, 0, 149] dwX11_rekey_0 rfl rfl)
theorem dX11_rekey_2 : decode cX11_rekey 2 = .ok (.putfield 134, 3) := dko_181 (dk_t 2 2 [181, 0, 134, 42, 182, 0, 231, 27, 184, 0, 149] dwX11_rekey_0 rfl rfl)
theorem dX11_rekey_5 : decode cX11_rekey 5 = .ok (.aload_n 0, 1) := dko_42 (dk_t 5 5 [42, 182, 0, 231, 27, 184, 0, 149] dwX11_rekey_0 rfl rfl)
theorem dX11_rekey_6 : decode cX11_rekey 6 = .ok (.invokevirtual 231, 3) := dko_182 (dk_t 6 6 [182, 0, 231, 27, 184, 0, 149] dwX11_rekey_0 rfl rfl)
theorem dX11_rekey_9 : decode cX11_rekey 9 = .ok (.iload_n 1, 1) := dko_27 (dk_t 9 9 [27, 184, 0, 149] dwX11_rekey_0 rfl rfl)
theorem dX11_rekey_10 : decode cX11_rekey 10 = .ok (.invokestatic 149, 3) := dko_184 (dk_t 10 10 [184, 0, 149] dwX11_rekey_0 rfl rfl)
theorem dwX11_rekey_13 : dkW cX11_rekey 13 [153, 0, 17, 28, 184, 0, 153, 153, 0, 10, 29, 184, 0, 153] = true := by decide +kernel
theorem dX11_rekey_13 : decode cX11_rekey 13 = .ok (.ifCond .eq 17, 3) := dko_153 dwX11_rekey_13
theorem dX11_rekey_16 : decode cX11_rekey 16 = .ok (.iload_n 2, 1) := dko_28 (dk_t 3 16 [28, 184, 0, 153, 153, 0, 10, 29, 184, 0, 153] dwX11_rekey_13 rfl rfl)
theorem dX11_rekey_17 : decode cX11_rekey 17 = .ok (.invokestatic 153, 3) := dko_184 (dk_t 4 17 [184, 0, 153, 153, 0, 10, 29, 184, 0, 153] dwX11_rekey_13 rfl rfl)
theorem dX11_rekey_20 : decode cX11_rekey 20 = .ok (.ifCond .eq 10, 3) := dko_153 (dk_t 7 20 [153, 0, 10, 29, 184, 0, 153] dwX11_rekey_13 rfl rfl)
theorem dX11_rekey_23 : decode cX11_rekey 23 = .ok (.iload_n 3, 1) := dko_29 (dk_t 10 23 [29, 184, 0, 153] dwX11_rekey_13 rfl rfl)
theorem dX11_rekey_24 : decode cX11_rekey 24 = .ok (.invokestatic 153, 3) := dko_184 (dk_t 11 24 [184, 0, 153] dwX11_rekey_13 rfl rfl)
theorem dwX11_rekey_27 : dkW cX11_rekey 27 [154, 0, 9, 42, 2, 182, 1, 69, 172, 42, 27, 28] = true := by decide +kernel
theorem dX11_rekey_27 : decode cX11_rekey 27 = .ok (.ifCond .ne 9, 3) := dko_154 dwX11_rekey_27
theorem dX11_rekey_30 : decode cX11_rekey 30 = .ok (.aload_n 0, 1) := dko_42 (dk_t 3 30 [42, 2, 182, 1, 69, 172, 42, 27, 28] dwX11_rekey_27 rfl rfl)
theorem dX11_rekey_31 : decode cX11_rekey 31 = .ok (.iconst (-1), 1) := dko_2 (dk_t 4 31 [2, 182, 1, 69, 172, 42, 27, 28] dwX11_rekey_27 rfl rfl)
theorem dX11_rekey_32 : decode cX11_rekey 32 = .ok (.invokevirtual 325, 3) := dko_182 (dk_t 5 32 [182, 1, 69, 172, 42, 27, 28] dwX11_rekey_27 rfl rfl)
theorem dX11_rekey_35 : decode cX11_rekey 35 = .ok (.ireturn, 1) := dko_172 (dk_t 8 35 [172, 42, 27, 28] dwX11_rekey_27 rfl rfl)
theorem dX11_rekey_36 : decode cX11_rekey 36 = .ok (.aload_n 0, 1) := dko_42 (dk_t 9 36 [42, 27, 28] dwX11_rekey_27 rfl rfl)
theorem dX11_rekey_37 : decode cX11_rekey 37 = .ok (.iload_n 1, 1) := dko_27 (dk_t 10 37 [27, 28] dwX11_rekey_27 rfl rfl)
theorem dX11_rekey_38 : decode cX11_rekey 38 = .ok (.iload_n 2, 1) := dko_28 (dk_t 11 38 [28] dwX11_rekey_27 rfl rfl)
theorem dwX11_rekey_39 : dkW cX11_rekey 39 [182, 1, 90, 154, 0, 10, 42, 16, 254, 182, 1, 69, 172, 42] = true := by decide +kernel
theorem dX11_rekey_39 : decode cX11_rekey 39 = .ok (.invokevirtual 346, 3) := dko_182 dwX11_rekey_39
theorem dX11_rekey_42 : decode cX11_rekey 42 = .ok (.ifCond .ne 10, 3) := dko_154 (dk_t 3 42 [154, 0, 10, 42, 16, 254, 182, 1, 69, 172, 42] dwX11_rekey_39 rfl rfl)
theorem dX11_rekey_45 : decode cX11_rekey 45 = .ok (.aload_n 0, 1) := dko_42 (dk_t 6 45 [42, 16, 254, 182, 1, 69, 172, 42] dwX11_rekey_39 rfl rfl)
theorem dX11_rekey_46 : decode cX11_rekey 46 = .ok (.bipush (-2), 2) := dko_16 (dk_t 7 46 [16, 254, 182, 1, 69, 172, 42] dwX11_rekey_39 rfl rfl)
theorem dX11_rekey_48 : decode cX11_rekey 48 = .ok (.invokevirtual 325, 3) := dko_182 (dk_t 9 48 [182, 1, 69, 172, 42] dwX11_rekey_39 rfl rfl)
theorem dX11_rekey_51 : decode cX11_rekey 51 = .ok (.ireturn, 1) := dko_172 (dk_t 12 51 [172, 42] dwX11_rekey_39 rfl rfl)
theorem dX11_rekey_52 : decode cX11_rekey 52 = .ok (.aload_n 0, 1) := dko_42 (dk_t 13 52 [42] dwX11_rekey_39 rfl rfl)
theorem dwX11_rekey_53 : dkW cX11_rekey 53 [27, 29, 182, 1, 90, 153, 0, 10, 42, 16, 252, 182, 1, 69] = true := by decide +kernel
theorem dX11_rekey_53 : decode cX11_rekey 53 = .ok (.iload_n 1, 1) := dko_27 dwX11_rekey_53
theorem dX11_rekey_54 : decode cX11_rekey 54 = .ok (.iload_n 3, 1) := dko_29 (dk_t 1 54 [29, 182, 1, 90, 153, 0, 10, 42, 16, 252, 182, 1, 69] dwX11_rekey_53 rfl rfl)
theorem dX11_rekey_55 : decode cX11_rekey 55 = .ok (.invokevirtual 346, 3) := dko_182 (dk_t 2 55 [182, 1, 90, 153, 0, 10, 42, 16, 252, 182, 1, 69] dwX11_rekey_53 rfl rfl)
theorem dX11_rekey_58 : decode cX11_rekey 58 = .ok (.ifCond .eq 10, 3) := dko_153 (dk_t 5 58 [153, 0, 10, 42, 16, 252, 182, 1, 69] dwX11_rekey_53 rfl rfl)
theorem dX11_rekey_61 : decode cX11_rekey 61 = .ok (.aload_n 0, 1) := dko_42 (dk_t 8 61 [42, 16, 252, 182, 1, 69] dwX11_rekey_53 rfl rfl)
theorem dX11_rekey_62 : decode cX11_rekey 62 = .ok (.bipush (-4), 2) := dko_16 (dk_t 9 62 [16, 252, 182, 1, 69] dwX11_rekey_53 rfl rfl)
theorem dX11_rekey_64 : decode cX11_rekey 64 = .ok (.invokevirtual 325, 3) := dko_182 (dk_t 11 64 [182, 1, 69] dwX11_rekey_53 rfl rfl)
theorem dwX11_rekey_67 : dkW cX11_rekey 67 [172, 42, 182, 1, 94, 3, 54, 4, 21, 4, 7, 162, 0, 35] = true := by decide +kernel
theorem dX11_rekey_67 : decode cX11_rekey 67 = .ok (.ireturn, 1) := dko_172 dwX11_rekey_67
theorem dX11_rekey_68 : decode cX11_rekey 68 = .ok (.aload_n 0, 1) := dko_42 (dk_t 1 68 [42, 182, 1, 94, 3, 54, 4, 21, 4, 7, 162, 0, 35] dwX11_rekey_67 rfl rfl)
theorem dX11_rekey_69 : decode cX11_rekey 69 = .ok (.invokevirtual 350, 3) := dko_182 (dk_t 2 69 [182, 1, 94, 3, 54, 4, 21, 4, 7, 162, 0, 35] dwX11_rekey_67 rfl rfl)
theorem dX11_rekey_72 : decode cX11_rekey 72 = .ok (.iconst 0, 1) := dko_3 (dk_t 5 72 [3, 54, 4, 21, 4, 7, 162, 0, 35] dwX11_rekey_67 rfl rfl)
theorem dX11_rekey_73 : decode cX11_rekey 73 = .ok (.istore 4, 2) := dko_54 (dk_t 6 73 [54, 4, 21, 4, 7, 162, 0, 35] dwX11_rekey_67 rfl rfl)
theorem dX11_rekey_75 : decode cX11_rekey 75 = .ok (.iload 4, 2) := dko_21 (dk_t 8 75 [21, 4, 7, 162, 0, 35] dwX11_rekey_67 rfl rfl)
theorem dX11_rekey_77 : decode cX11_rekey 77 = .ok (.iconst 4, 1) := dko_7 (dk_t 10 77 [7, 162, 0, 35] dwX11_rekey_67 rfl rfl)
theorem dX11_rekey_78 : decode cX11_rekey 78 = .ok (.if_icmp .ge 35, 3) := dko_162 (dk_t 11 78 [162, 0, 35] dwX11_rekey_67 rfl rfl)
theorem dwX11_rekey_81 : dkW cX11_rekey 81 [42, 180, 0, 9, 27, 29, 184, 0, 156, 21, 4, 96, 42] = true := by decide +kernel
theorem dX11_rekey_81 : decode cX11_rekey 81 = .ok (.aload_n 0, 1) := dko_42 dwX11_rekey_81
theorem dX11_rekey_82 : decode cX11_rekey 82 = .ok (.getfield 9, 3) := dko_180 (dk_t 1 82 [180, 0, 9, 27, 29, 184, 0, 156, 21, 4, 96, 42] dwX11_rekey_81 rfl rfl)
theorem dX11_rekey_85 : decode cX11_rekey 85 = .ok (.iload_n 1, 1) := dko_27 (dk_t 4 85 [27, 29, 184, 0, 156, 21, 4, 96, 42] dwX11_rekey_81 rfl rfl)
theorem dX11_rekey_86 : decode cX11_rekey 86 = .ok (.iload_n 3, 1) := dko_29 (dk_t 5 86 [29, 184, 0, 156, 21, 4, 96, 42] dwX11_rekey_81 rfl rfl)
theorem dX11_rekey_87 : decode cX11_rekey 87 = .ok (.invokestatic 156, 3) := dko_184 (dk_t 6 87 [184, 0, 156, 21, 4, 96, 42] dwX11_rekey_81 rfl rfl)
theorem dX11_rekey_90 : decode cX11_rekey 90 = .ok (.iload 4, 2) := dko_21 (dk_t 9 90 [21, 4, 96, 42] dwX11_rekey_81 rfl rfl)
theorem dX11_rekey_92 : decode cX11_rekey 92 = .ok (.iadd, 1) := dko_96 (dk_t 11 92 [96, 42] dwX11_rekey_81 rfl rfl)
theorem dX11_rekey_93 : decode cX11_rekey 93 = .ok (.aload_n 0, 1) := dko_42 (dk_t 12 93 [42] dwX11_rekey_81 rfl rfl)
theorem dwX11_rekey_94 : dkW cX11_rekey 94 [180, 0, 9, 27, 28, 184, 0, 156, 21, 4, 96, 46, 79] = true := by decide +kernel
theorem dX11_rekey_94 : decode cX11_rekey 94 = .ok (.getfield 9, 3) := dko_180 dwX11_rekey_94
theorem dX11_rekey_97 : decode cX11_rekey 97 = .ok (.iload_n 1, 1) := dko_27 (dk_t 3 97 [27, 28, 184, 0, 156, 21, 4, 96, 46, 79] dwX11_rekey_94 rfl rfl)
theorem dX11_rekey_98 : decode cX11_rekey 98 = .ok (.iload_n 2, 1) := dko_28 (dk_t 4 98 [28, 184, 0, 156, 21, 4, 96, 46, 79] dwX11_rekey_94 rfl rfl)
theorem dX11_rekey_99 : decode cX11_rekey 99 = .ok (.invokestatic 156, 3) := dko_184 (dk_t 5 99 [184, 0, 156, 21, 4, 96, 46, 79] dwX11_rekey_94 rfl rfl)
theorem dX11_rekey_102 : decode cX11_rekey 102 = .ok (.iload 4, 2) := dko_21 (dk_t 8 102 [21, 4, 96, 46, 79] dwX11_rekey_94 rfl rfl)
theorem dX11_rekey_104 : decode cX11_rekey 104 = .ok (.iadd, 1) := dko_96 (dk_t 10 104 [96, 46, 79] dwX11_rekey_94 rfl rfl)
theorem dX11_rekey_105 : decode cX11_rekey 105 = .ok (.iaload, 1) := dko_46 (dk_t 11 105 [46, 79] dwX11_rekey_94 rfl rfl)
theorem dX11_rekey_106 : decode cX11_rekey 106 = .ok (.iastore, 1) := dko_79 (dk_t 12 106 [79] dwX11_rekey_94 rfl rfl)
theorem dwX11_rekey_107 : dkW cX11_rekey 107 [132, 4, 1, 167, 255, 221, 42, 180, 0, 9, 27, 28] = true := by decide +kernel
theorem dX11_rekey_107 : decode cX11_rekey 107 = .ok (.iinc 4 1, 3) := dko_132 dwX11_rekey_107
theorem dX11_rekey_110 : decode cX11_rekey 110 = .ok (.goto (-35), 3) := dko_167 (dk_t 3 110 [167, 255, 221, 42, 180, 0, 9, 27, 28] dwX11_rekey_107 rfl rfl)
theorem dX11_rekey_113 : decode cX11_rekey 113 = .ok (.aload_n 0, 1) := dko_42 (dk_t 6 113 [42, 180, 0, 9, 27, 28] dwX11_rekey_107 rfl rfl)
theorem dX11_rekey_114 : decode cX11_rekey 114 = .ok (.getfield 9, 3) := dko_180 (dk_t 7 114 [180, 0, 9, 27, 28] dwX11_rekey_107 rfl rfl)
theorem dX11_rekey_117 : decode cX11_rekey 117 = .ok (.iload_n 1, 1) := dko_27 (dk_t 10 117 [27, 28] dwX11_rekey_107 rfl rfl)
theorem dX11_rekey_118 : decode cX11_rekey 118 = .ok (.iload_n 2, 1) := dko_28 (dk_t 11 118 [28] dwX11_rekey_107 rfl rfl)
theorem dwX11_rekey_119 : dkW cX11_rekey 119 [184, 0, 156, 3, 79, 3, 54, 4, 21, 4, 16, 12] = true := by decide +kernel
theorem dX11_rekey_119 : decode cX11_rekey 119 = .ok (.invokestatic 156, 3) := dko_184 dwX11_rekey_119
theorem dX11_rekey_122 : decode cX11_rekey 122 = .ok (.iconst 0, 1) := dko_3 (dk_t 3 122 [3, 79, 3, 54, 4, 21, 4, 16, 12] dwX11_rekey_119 rfl rfl)
theorem dX11_rekey_123 : decode cX11_rekey 123 = .ok (.iastore, 1) := dko_79 (dk_t 4 123 [79, 3, 54, 4, 21, 4, 16, 12] dwX11_rekey_119 rfl rfl)
theorem dX11_rekey_124 : decode cX11_rekey 124 = .ok (.iconst 0, 1) := dko_3 (dk_t 5 124 [3, 54, 4, 21, 4, 16, 12] dwX11_rekey_119 rfl rfl)
theorem dX11_rekey_125 : decode cX11_rekey 125 = .ok (.istore 4, 2) := dko_54 (dk_t 6 125 [54, 4, 21, 4, 16, 12] dwX11_rekey_119 rfl rfl)
theorem dX11_rekey_127 : decode cX11_rekey 127 = .ok (.iload 4, 2) := dko_21 (dk_t 8 127 [21, 4, 16, 12] dwX11_rekey_119 rfl rfl)
theorem dX11_rekey_129 : decode cX11_rekey 129 = .ok (.bipush 12, 2) := dko_16 (dk_t 10 129 [16, 12] dwX11_rekey_119 rfl rfl)
theorem dwX11_rekey_131 : dkW cX11_rekey 131 [162, 0, 117, 3, 54, 5, 21, 5, 16, 30, 162, 0, 101, 42] = true := by decide +kernel
theorem dX11_rekey_131 : decode cX11_rekey 131 = .ok (.if_icmp .ge 117, 3) := dko_162 dwX11_rekey_131
theorem dX11_rekey_134 : decode cX11_rekey 134 = .ok (.iconst 0, 1) := dko_3 (dk_t 3 134 [3, 54, 5, 21, 5, 16, 30, 162, 0, 101, 42] dwX11_rekey_131 rfl rfl)
theorem dX11_rekey_135 : decode cX11_rekey 135 = .ok (.istore 5, 2) := dko_54 (dk_t 4 135 [54, 5, 21, 5, 16, 30, 162, 0, 101, 42] dwX11_rekey_131 rfl rfl)
theorem dX11_rekey_137 : decode cX11_rekey 137 = .ok (.iload 5, 2) := dko_21 (dk_t 6 137 [21, 5, 16, 30, 162, 0, 101, 42] dwX11_rekey_131 rfl rfl)
theorem dX11_rekey_139 : decode cX11_rekey 139 = .ok (.bipush 30, 2) := dko_16 (dk_t 8 139 [16, 30, 162, 0, 101, 42] dwX11_rekey_131 rfl rfl)
theorem dX11_rekey_141 : decode cX11_rekey 141 = .ok (.if_icmp .ge 101, 3) := dko_162 (dk_t 10 141 [162, 0, 101, 42] dwX11_rekey_131 rfl rfl)
theorem dX11_rekey_144 : decode cX11_rekey 144 = .ok (.aload_n 0, 1) := dko_42 (dk_t 13 144 [42] dwX11_rekey_131 rfl rfl)
theorem dwX11_rekey_145 : dkW cX11_rekey 145 [21, 4, 27, 182, 1, 111, 153, 0, 91, 42, 21, 4, 4] = true := by decide +kernel
theorem dX11_rekey_145 : decode cX11_rekey 145 = .ok (.iload 4, 2) := dko_21 dwX11_rekey_145
theorem dX11_rekey_147 : decode cX11_rekey 147 = .ok (.iload_n 1, 1) := dko_27 (dk_t 2 147 [27, 182, 1, 111, 153, 0, 91, 42, 21, 4, 4] dwX11_rekey_145 rfl rfl)
theorem dX11_rekey_148 : decode cX11_rekey 148 = .ok (.invokevirtual 367, 3) := dko_182 (dk_t 3 148 [182, 1, 111, 153, 0, 91, 42, 21, 4, 4] dwX11_rekey_145 rfl rfl)
theorem dX11_rekey_151 : decode cX11_rekey 151 = .ok (.ifCond .eq 91, 3) := dko_153 (dk_t 6 151 [153, 0, 91, 42, 21, 4, 4] dwX11_rekey_145 rfl rfl)
theorem dX11_rekey_154 : decode cX11_rekey 154 = .ok (.aload_n 0, 1) := dko_42 (dk_t 9 154 [42, 21, 4, 4] dwX11_rekey_145 rfl rfl)
theorem dX11_rekey_155 : decode cX11_rekey 155 = .ok (.iload 4, 2) := dko_21 (dk_t 10 155 [21, 4, 4] dwX11_rekey_145 rfl rfl)
theorem dX11_rekey_157 : decode cX11_rekey 157 = .ok (.iconst 1, 1) := dko_4 (dk_t 12 157 [4] dwX11_rekey_145 rfl rfl)
theorem dwX11_rekey_158 : dkW cX11_rekey 158 [182, 0, 165, 21, 5, 184, 0, 156, 54, 6, 42, 180, 0, 9] = true := by decide +kernel
theorem dX11_rekey_158 : decode cX11_rekey 158 = .ok (.invokevirtual 165, 3) := dko_182 dwX11_rekey_158
theorem dX11_rekey_161 : decode cX11_rekey 161 = .ok (.iload 5, 2) := dko_21 (dk_t 3 161 [21, 5, 184, 0, 156, 54, 6, 42, 180, 0, 9] dwX11_rekey_158 rfl rfl)
theorem dX11_rekey_163 : decode cX11_rekey 163 = .ok (.invokestatic 156, 3) := dko_184 (dk_t 5 163 [184, 0, 156, 54, 6, 42, 180, 0, 9] dwX11_rekey_158 rfl rfl)
theorem dX11_rekey_166 : decode cX11_rekey 166 = .ok (.istore 6, 2) := dko_54 (dk_t 8 166 [54, 6, 42, 180, 0, 9] dwX11_rekey_158 rfl rfl)
theorem dX11_rekey_168 : decode cX11_rekey 168 = .ok (.aload_n 0, 1) := dko_42 (dk_t 10 168 [42, 180, 0, 9] dwX11_rekey_158 rfl rfl)
theorem dX11_rekey_169 : decode cX11_rekey 169 = .ok (.getfield 9, 3) := dko_180 (dk_t 11 169 [180, 0, 9] dwX11_rekey_158 rfl rfl)
theorem dwX11_rekey_172 : dkW cX11_rekey 172 [21, 6, 46, 4, 160, 0, 60, 42, 180, 0, 9, 21, 6, 4] = true := by decide +kernel
theorem dX11_rekey_172 : decode cX11_rekey 172 = .ok (.iload 6, 2) := dko_21 dwX11_rekey_172
theorem dX11_rekey_174 : decode cX11_rekey 174 = .ok (.iaload, 1) := dko_46 (dk_t 2 174 [46, 4, 160, 0, 60, 42, 180, 0, 9, 21, 6, 4] dwX11_rekey_172 rfl rfl)
theorem dX11_rekey_175 : decode cX11_rekey 175 = .ok (.iconst 1, 1) := dko_4 (dk_t 3 175 [4, 160, 0, 60, 42, 180, 0, 9, 21, 6, 4] dwX11_rekey_172 rfl rfl)
theorem dX11_rekey_176 : decode cX11_rekey 176 = .ok (.if_icmp .ne 60, 3) := dko_160 (dk_t 4 176 [160, 0, 60, 42, 180, 0, 9, 21, 6, 4] dwX11_rekey_172 rfl rfl)
theorem dX11_rekey_179 : decode cX11_rekey 179 = .ok (.aload_n 0, 1) := dko_42 (dk_t 7 179 [42, 180, 0, 9, 21, 6, 4] dwX11_rekey_172 rfl rfl)
theorem dX11_rekey_180 : decode cX11_rekey 180 = .ok (.getfield 9, 3) := dko_180 (dk_t 8 180 [180, 0, 9, 21, 6, 4] dwX11_rekey_172 rfl rfl)
theorem dX11_rekey_183 : decode cX11_rekey 183 = .ok (.iload 6, 2) := dko_21 (dk_t 11 183 [21, 6, 4] dwX11_rekey_172 rfl rfl)
theorem dX11_rekey_185 : decode cX11_rekey 185 = .ok (.iconst 1, 1) := dko_4 (dk_t 13 185 [4] dwX11_rekey_172 rfl rfl)
theorem dwX11_rekey_186 : dkW cX11_rekey 186 [96, 42, 21, 4, 5, 182, 0, 165, 96, 46, 28, 160, 0, 39] = true := by decide +kernel
theorem dX11_rekey_186 : decode cX11_rekey 186 = .ok (.iadd, 1) := dko_96 dwX11_rekey_186
theorem dX11_rekey_187 : decode cX11_rekey 187 = .ok (.aload_n 0, 1) := dko_42 (dk_t 1 187 [42, 21, 4, 5, 182, 0, 165, 96, 46, 28, 160, 0, 39] dwX11_rekey_186 rfl rfl)
theorem dX11_rekey_188 : decode cX11_rekey 188 = .ok (.iload 4, 2) := dko_21 (dk_t 2 188 [21, 4, 5, 182, 0, 165, 96, 46, 28, 160, 0, 39] dwX11_rekey_186 rfl rfl)
theorem dX11_rekey_190 : decode cX11_rekey 190 = .ok (.iconst 2, 1) := dko_5 (dk_t 4 190 [5, 182, 0, 165, 96, 46, 28, 160, 0, 39] dwX11_rekey_186 rfl rfl)
theorem dX11_rekey_191 : decode cX11_rekey 191 = .ok (.invokevirtual 165, 3) := dko_182 (dk_t 5 191 [182, 0, 165, 96, 46, 28, 160, 0, 39] dwX11_rekey_186 rfl rfl)
theorem dX11_rekey_194 : decode cX11_rekey 194 = .ok (.iadd, 1) := dko_96 (dk_t 8 194 [96, 46, 28, 160, 0, 39] dwX11_rekey_186 rfl rfl)
theorem dX11_rekey_195 : decode cX11_rekey 195 = .ok (.iaload, 1) := dko_46 (dk_t 9 195 [46, 28, 160, 0, 39] dwX11_rekey_186 rfl rfl)
theorem dX11_rekey_196 : decode cX11_rekey 196 = .ok (.iload_n 2, 1) := dko_28 (dk_t 10 196 [28, 160, 0, 39] dwX11_rekey_186 rfl rfl)
theorem dX11_rekey_197 : decode cX11_rekey 197 = .ok (.if_icmp .ne 39, 3) := dko_160 (dk_t 11 197 [160, 0, 39] dwX11_rekey_186 rfl rfl)
theorem dwX11_rekey_200 : dkW cX11_rekey 200 [42, 180, 0, 9, 21, 6, 4, 96, 42, 21, 4, 5] = true := by decide +kernel
theorem dX11_rekey_200 : decode cX11_rekey 200 = .ok (.aload_n 0, 1) := dko_42 dwX11_rekey_200
theorem dX11_rekey_201 : decode cX11_rekey 201 = .ok (.getfield 9, 3) := dko_180 (dk_t 1 201 [180, 0, 9, 21, 6, 4, 96, 42, 21, 4, 5] dwX11_rekey_200 rfl rfl)
theorem dX11_rekey_204 : decode cX11_rekey 204 = .ok (.iload 6, 2) := dko_21 (dk_t 4 204 [21, 6, 4, 96, 42, 21, 4, 5] dwX11_rekey_200 rfl rfl)
theorem dX11_rekey_206 : decode cX11_rekey 206 = .ok (.iconst 1, 1) := dko_4 (dk_t 6 206 [4, 96, 42, 21, 4, 5] dwX11_rekey_200 rfl rfl)
theorem dX11_rekey_207 : decode cX11_rekey 207 = .ok (.iadd, 1) := dko_96 (dk_t 7 207 [96, 42, 21, 4, 5] dwX11_rekey_200 rfl rfl)
theorem dX11_rekey_208 : decode cX11_rekey 208 = .ok (.aload_n 0, 1) := dko_42 (dk_t 8 208 [42, 21, 4, 5] dwX11_rekey_200 rfl rfl)
theorem dX11_rekey_209 : decode cX11_rekey 209 = .ok (.iload 4, 2) := dko_21 (dk_t 9 209 [21, 4, 5] dwX11_rekey_200 rfl rfl)
theorem dX11_rekey_211 : decode cX11_rekey 211 = .ok (.iconst 2, 1) := dko_5 (dk_t 11 211 [5] dwX11_rekey_200 rfl rfl)
theorem dwX11_rekey_212 : dkW cX11_rekey 212 [182, 0, 165, 96, 42, 21, 4, 16, 8, 182, 0, 165, 4] = true := by decide +kernel
theorem dX11_rekey_212 : decode cX11_rekey 212 = .ok (.invokevirtual 165, 3) := dko_182 dwX11_rekey_212
theorem dX11_rekey_215 : decode cX11_rekey 215 = .ok (.iadd, 1) := dko_96 (dk_t 3 215 [96, 42, 21, 4, 16, 8, 182, 0, 165, 4] dwX11_rekey_212 rfl rfl)
theorem dX11_rekey_216 : decode cX11_rekey 216 = .ok (.aload_n 0, 1) := dko_42 (dk_t 4 216 [42, 21, 4, 16, 8, 182, 0, 165, 4] dwX11_rekey_212 rfl rfl)
theorem dX11_rekey_217 : decode cX11_rekey 217 = .ok (.iload 4, 2) := dko_21 (dk_t 5 217 [21, 4, 16, 8, 182, 0, 165, 4] dwX11_rekey_212 rfl rfl)
theorem dX11_rekey_219 : decode cX11_rekey 219 = .ok (.bipush 8, 2) := dko_16 (dk_t 7 219 [16, 8, 182, 0, 165, 4] dwX11_rekey_212 rfl rfl)
theorem dX11_rekey_221 : decode cX11_rekey 221 = .ok (.invokevirtual 165, 3) := dko_182 (dk_t 9 221 [182, 0, 165, 4] dwX11_rekey_212 rfl rfl)
theorem dX11_rekey_224 : decode cX11_rekey 224 = .ok (.iconst 1, 1) := dko_4 (dk_t 12 224 [4] dwX11_rekey_212 rfl rfl)
theorem dwX11_rekey_225 : dkW cX11_rekey 225 [160, 0, 7, 29, 167, 0, 6, 17, 252, 24, 79, 132, 5, 1] = true := by decide +kernel
theorem dX11_rekey_225 : decode cX11_rekey 225 = .ok (.if_icmp .ne 7, 3) := dko_160 dwX11_rekey_225
theorem dX11_rekey_228 : decode cX11_rekey 228 = .ok (.iload_n 3, 1) := dko_29 (dk_t 3 228 [29, 167, 0, 6, 17, 252, 24, 79, 132, 5, 1] dwX11_rekey_225 rfl rfl)
theorem dX11_rekey_229 : decode cX11_rekey 229 = .ok (.goto 6, 3) := dko_167 (dk_t 4 229 [167, 0, 6, 17, 252, 24, 79, 132, 5, 1] dwX11_rekey_225 rfl rfl)
theorem dX11_rekey_232 : decode cX11_rekey 232 = .ok (.sipush (-1000), 3) := dko_17 (dk_t 7 232 [17, 252, 24, 79, 132, 5, 1] dwX11_rekey_225 rfl rfl)
theorem dX11_rekey_235 : decode cX11_rekey 235 = .ok (.iastore, 1) := dko_79 (dk_t 10 235 [79, 132, 5, 1] dwX11_rekey_225 rfl rfl)
theorem dX11_rekey_236 : decode cX11_rekey 236 = .ok (.iinc 5 1, 3) := dko_132 (dk_t 11 236 [132, 5, 1] dwX11_rekey_225 rfl rfl)
theorem dwX11_rekey_239 : dkW cX11_rekey 239 [167, 255, 154, 132, 4, 1, 167, 255, 138, 42, 182, 1, 97, 172] = true := by decide +kernel
theorem dX11_rekey_239 : decode cX11_rekey 239 = .ok (.goto (-102), 3) := dko_167 dwX11_rekey_239
theorem dX11_rekey_242 : decode cX11_rekey 242 = .ok (.iinc 4 1, 3) := dko_132 (dk_t 3 242 [132, 4, 1, 167, 255, 138, 42, 182, 1, 97, 172] dwX11_rekey_239 rfl rfl)
theorem dX11_rekey_245 : decode cX11_rekey 245 = .ok (.goto (-118), 3) := dko_167 (dk_t 6 245 [167, 255, 138, 42, 182, 1, 97, 172] dwX11_rekey_239 rfl rfl)
theorem dX11_rekey_248 : decode cX11_rekey 248 = .ok (.aload_n 0, 1) := dko_42 (dk_t 9 248 [42, 182, 1, 97, 172] dwX11_rekey_239 rfl rfl)
theorem dX11_rekey_249 : decode cX11_rekey 249 = .ok (.invokevirtual 353, 3) := dko_182 (dk_t 10 249 [182, 1, 97, 172] dwX11_rekey_239 rfl rfl)
theorem dX11_rekey_252 : decode cX11_rekey 252 = .ok (.ireturn, 1) := dko_172 (dk_t 13 252 [172] dwX11_rekey_239 rfl rfl)
theorem dwX11_begin_0 : dkW cX11_begin 0 [42, 3, 181, 0, 134, 42, 180, 0, 206, 153, 0, 6, 16, 253] = true := by decide +kernel
theorem dX11_begin_0 : decode cX11_begin 0 = .ok (.aload_n 0, 1) := dko_42 dwX11_begin_0
theorem dX11_begin_1 : decode cX11_begin 1 = .ok (.iconst 0, 1) := dko_3 (dk_t 1 1 [3, 181, 0, 134, 42, 180, 0, 206, 153, 0, 6, 16, 253] dwX11_begin_0 rfl rfl)
theorem dX11_begin_2 : decode cX11_begin 2 = .ok (.putfield 134, 3) := dko_181 (dk_t 2 2 [181, 0, 134, 42, 180, 0, 206, 153, 0, 6, 16, 253] dwX11_begin_0 rfl rfl)
theorem dX11_begin_5 : decode cX11_begin 5 = .ok (.aload_n 0, 1) := dko_42 (dk_t 5 5 [42, 180, 0, 206, 153, 0, 6, 16, 253] dwX11_begin_0 rfl rfl)
theorem dX11_begin_6 : decode cX11_begin 6 = .ok (.getfield 206, 3) := dko_180 (dk_t 6 6 [180, 0, 206, 153, 0, 6, 16, 253] dwX11_begin_0 rfl rfl)
theorem dX11_begin_9 : decode cX11_begin 9 = .ok (.ifCond .eq 6, 3) := dko_153 (dk_t 9 9 [153, 0, 6, 16, 253] dwX11_begin_0 rfl rfl)
theorem dX11_begin_12 : decode cX11_begin 12 = .ok (.bipush (-3), 2) := dko_16 (dk_t 12 12 [16, 253] dwX11_begin_0 rfl rfl)
theorem dwX11_begin_14 : dkW cX11_begin 14 [172, 42, 4, 181, 0, 206, 42, 3, 181, 1, 117, 42] = true := by decide +kernel
theorem dX11_begin_14 : decode cX11_begin 14 = .ok (.ireturn, 1) := dko_172 dwX11_begin_14
theorem dX11_begin_15 : decode cX11_begin 15 = .ok (.aload_n 0, 1) := dko_42 (dk_t 1 15 [42, 4, 181, 0, 206, 42, 3, 181, 1, 117, 42] dwX11_begin_14 rfl rfl)
theorem dX11_begin_16 : decode cX11_begin 16 = .ok (.iconst 1, 1) := dko_4 (dk_t 2 16 [4, 181, 0, 206, 42, 3, 181, 1, 117, 42] dwX11_begin_14 rfl rfl)
theorem dX11_begin_17 : decode cX11_begin 17 = .ok (.putfield 206, 3) := dko_181 (dk_t 3 17 [181, 0, 206, 42, 3, 181, 1, 117, 42] dwX11_begin_14 rfl rfl)
theorem dX11_begin_20 : decode cX11_begin 20 = .ok (.aload_n 0, 1) := dko_42 (dk_t 6 20 [42, 3, 181, 1, 117, 42] dwX11_begin_14 rfl rfl)
theorem dX11_begin_21 : decode cX11_begin 21 = .ok (.iconst 0, 1) := dko_3 (dk_t 7 21 [3, 181, 1, 117, 42] dwX11_begin_14 rfl rfl)
theorem dX11_begin_22 : decode cX11_begin 22 = .ok (.putfield 373, 3) := dko_181 (dk_t 8 22 [181, 1, 117, 42] dwX11_begin_14 rfl rfl)
theorem dX11_begin_25 : decode cX11_begin 25 = .ok (.aload_n 0, 1) := dko_42 (dk_t 11 25 [42] dwX11_begin_14 rfl rfl)
theorem dwX11_begin_26 : dkW cX11_begin 26 [180, 0, 9, 3, 42, 180, 0, 15, 3, 184, 1, 53, 3, 60] = true := by decide +kernel
theorem dX11_begin_26 : decode cX11_begin 26 = .ok (.getfield 9, 3) := dko_180 dwX11_begin_26
theorem dX11_begin_29 : decode cX11_begin 29 = .ok (.iconst 0, 1) := dko_3 (dk_t 3 29 [3, 42, 180, 0, 15, 3, 184, 1, 53, 3, 60] dwX11_begin_26 rfl rfl)
theorem dX11_begin_30 : decode cX11_begin 30 = .ok (.aload_n 0, 1) := dko_42 (dk_t 4 30 [42, 180, 0, 15, 3, 184, 1, 53, 3, 60] dwX11_begin_26 rfl rfl)
theorem dX11_begin_31 : decode cX11_begin 31 = .ok (.getfield 15, 3) := dko_180 (dk_t 5 31 [180, 0, 15, 3, 184, 1, 53, 3, 60] dwX11_begin_26 rfl rfl)
theorem dX11_begin_34 : decode cX11_begin 34 = .ok (.iconst 0, 1) := dko_3 (dk_t 8 34 [3, 184, 1, 53, 3, 60] dwX11_begin_26 rfl rfl)
theorem dX11_begin_35 : decode cX11_begin 35 = .ok (.invokestatic 309, 3) := dko_184 (dk_t 9 35 [184, 1, 53, 3, 60] dwX11_begin_26 rfl rfl)
theorem dX11_begin_38 : decode cX11_begin 38 = .ok (.iconst 0, 1) := dko_3 (dk_t 12 38 [3, 60] dwX11_begin_26 rfl rfl)
theorem dX11_begin_39 : decode cX11_begin 39 = .ok (.istore_n 1, 1) := dko_60 (dk_t 13 39 [60] dwX11_begin_26 rfl rfl)
theorem dwX11_begin_40 : dkW cX11_begin 40 [27, 16, 6, 162, 0, 16, 42, 180, 0, 27, 27, 3, 79] = true := by decide +kernel
theorem dX11_begin_40 : decode cX11_begin 40 = .ok (.iload_n 1, 1) := dko_27 dwX11_begin_40
theorem dX11_begin_41 : decode cX11_begin 41 = .ok (.bipush 6, 2) := dko_16 (dk_t 1 41 [16, 6, 162, 0, 16, 42, 180, 0, 27, 27, 3, 79] dwX11_begin_40 rfl rfl)
theorem dX11_begin_43 : decode cX11_begin 43 = .ok (.if_icmp .ge 16, 3) := dko_162 (dk_t 3 43 [162, 0, 16, 42, 180, 0, 27, 27, 3, 79] dwX11_begin_40 rfl rfl)
theorem dX11_begin_46 : decode cX11_begin 46 = .ok (.aload_n 0, 1) := dko_42 (dk_t 6 46 [42, 180, 0, 27, 27, 3, 79] dwX11_begin_40 rfl rfl)
theorem dX11_begin_47 : decode cX11_begin 47 = .ok (.getfield 27, 3) := dko_180 (dk_t 7 47 [180, 0, 27, 27, 3, 79] dwX11_begin_40 rfl rfl)
theorem dX11_begin_50 : decode cX11_begin 50 = .ok (.iload_n 1, 1) := dko_27 (dk_t 10 50 [27, 3, 79] dwX11_begin_40 rfl rfl)
theorem dX11_begin_51 : decode cX11_begin 51 = .ok (.iconst 0, 1) := dko_3 (dk_t 11 51 [3, 79] dwX11_begin_40 rfl rfl)
theorem dX11_begin_52 : decode cX11_begin 52 = .ok (.iastore, 1) := dko_79 (dk_t 12 52 [79] dwX11_begin_40 rfl rfl)
theorem dwX11_begin_53 : dkW cX11_begin 53 [132, 1, 1, 167, 255, 240, 42, 182, 1, 120, 172] = true := by decide +kernel
theorem dX11_begin_53 : decode cX11_begin 53 = .ok (.iinc 1 1, 3) := dko_132 dwX11_begin_53
theorem dX11_begin_56 : decode cX11_begin 56 = .ok (.goto (-16), 3) := dko_167 (dk_t 3 56 [167, 255, 240, 42, 182, 1, 120, 172] dwX11_begin_53 rfl rfl)
theorem dX11_begin_59 : decode cX11_begin 59 = .ok (.aload_n 0, 1) := dko_42 (dk_t 6 59 [42, 182, 1, 120, 172] dwX11_begin_53 rfl rfl)
theorem dX11_begin_60 : decode cX11_begin 60 = .ok (.invokevirtual 376, 3) := dko_182 (dk_t 7 60 [182, 1, 120, 172] dwX11_begin_53 rfl rfl)
theorem dX11_begin_63 : decode cX11_begin 63 = .ok (.ireturn, 1) := dko_172 (dk_t 10 63 [172] dwX11_begin_53 rfl rfl)
theorem dwX11_commit_0 : dkW cX11_commit 0 [42, 3, 181, 0, 134, 42, 182, 0, 231, 42, 180, 0, 206] = true := by decide +kernel
theorem dX11_commit_0 : decode cX11_commit 0 = .ok (.aload_n 0, 1) := dko_42 dwX11_commit_0
theorem dX11_commit_1 : decode cX11_commit 1 = .ok (.iconst 0, 1) := dko_3 (dk_t 1 1 [3, 181, 0, 134, 42, 182, 0, 231, 42, 180, 0, 206] dwX11_commit_0 rfl rfl)
theorem dX11_commit_2 : decode cX11_commit 2 = .ok (.putfield 134, 3) := dko_181 (dk_t 2 2 [181, 0, 134, 42, 182, 0, 231, 42, 180, 0, 206] dwX11_commit_0 rfl rfl)
theorem dX11_commit_5 : decode cX11_commit 5 = .ok (.aload_n 0, 1) := dko_42 (dk_t 5 5 [42, 182, 0, 231, 42, 180, 0, 206] dwX11_commit_0 rfl rfl)
theorem dX11_commit_6 : decode cX11_commit 6 = .ok (.invokevirtual 231, 3) := dko_182 (dk_t 6 6 [182, 0, 231, 42, 180, 0, 206] dwX11_commit_0 rfl rfl)
theorem dX11_commit_9 : decode cX11_commit 9 = .ok (.aload_n 0, 1) := dko_42 (dk_t 9 9 [42, 180, 0, 206] dwX11_commit_0 rfl rfl)
theorem dX11_commit_10 : decode cX11_commit 10 = .ok (.getfield 206, 3) := dko_180 (dk_t 10 10 [180, 0, 206] dwX11_commit_0 rfl rfl)
theorem dwX11_commit_13 : dkW cX11_commit 13 [154, 0, 6, 16, 253, 172, 42, 182, 0, 218, 42, 42] = true := by decide +kernel
theorem dX11_commit_13 : decode cX11_commit 13 = .ok (.ifCond .ne 6, 3) := dko_154 dwX11_commit_13
theorem dX11_commit_16 : decode cX11_commit 16 = .ok (.bipush (-3), 2) := dko_16 (dk_t 3 16 [16, 253, 172, 42, 182, 0, 218, 42, 42] dwX11_commit_13 rfl rfl)
theorem dX11_commit_18 : decode cX11_commit 18 = .ok (.ireturn, 1) := dko_172 (dk_t 5 18 [172, 42, 182, 0, 218, 42, 42] dwX11_commit_13 rfl rfl)
theorem dX11_commit_19 : decode cX11_commit 19 = .ok (.aload_n 0, 1) := dko_42 (dk_t 6 19 [42, 182, 0, 218, 42, 42] dwX11_commit_13 rfl rfl)
theorem dX11_commit_20 : decode cX11_commit 20 = .ok (.invokevirtual 218, 3) := dko_182 (dk_t 7 20 [182, 0, 218, 42, 42] dwX11_commit_13 rfl rfl)
theorem dX11_commit_23 : decode cX11_commit 23 = .ok (.aload_n 0, 1) := dko_42 (dk_t 10 23 [42, 42] dwX11_commit_13 rfl rfl)
theorem dX11_commit_24 : decode cX11_commit 24 = .ok (.aload_n 0, 1) := dko_42 (dk_t 11 24 [42] dwX11_commit_13 rfl rfl)
theorem dwX11_commit_25 : dkW cX11_commit 25 [182, 1, 57, 181, 1, 66, 42, 182, 1, 81, 42, 3] = true := by decide +kernel
theorem dX11_commit_25 : decode cX11_commit 25 = .ok (.invokevirtual 313, 3) := dko_182 dwX11_commit_25
theorem dX11_commit_28 : decode cX11_commit 28 = .ok (.putfield 322, 3) := dko_181 (dk_t 3 28 [181, 1, 66, 42, 182, 1, 81, 42, 3] dwX11_commit_25 rfl rfl)
theorem dX11_commit_31 : decode cX11_commit 31 = .ok (.aload_n 0, 1) := dko_42 (dk_t 6 31 [42, 182, 1, 81, 42, 3] dwX11_commit_25 rfl rfl)
theorem dX11_commit_32 : decode cX11_commit 32 = .ok (.invokevirtual 337, 3) := dko_182 (dk_t 7 32 [182, 1, 81, 42, 3] dwX11_commit_25 rfl rfl)
theorem dX11_commit_35 : decode cX11_commit 35 = .ok (.aload_n 0, 1) := dko_42 (dk_t 10 35 [42, 3] dwX11_commit_25 rfl rfl)
theorem dX11_commit_36 : decode cX11_commit 36 = .ok (.iconst 0, 1) := dko_3 (dk_t 11 36 [3] dwX11_commit_25 rfl rfl)
theorem dwX11_commit_37 : dkW cX11_commit 37 [181, 0, 206, 42, 180, 1, 66, 2, 159, 0, 51, 42, 42] = true := by decide +kernel
theorem dX11_commit_37 : decode cX11_commit 37 = .ok (.putfield 206, 3) := dko_181 dwX11_commit_37
theorem dX11_commit_40 : decode cX11_commit 40 = .ok (.aload_n 0, 1) := dko_42 (dk_t 3 40 [42, 180, 1, 66, 2, 159, 0, 51, 42, 42] dwX11_commit_37 rfl rfl)
theorem dX11_commit_41 : decode cX11_commit 41 = .ok (.getfield 322, 3) := dko_180 (dk_t 4 41 [180, 1, 66, 2, 159, 0, 51, 42, 42] dwX11_commit_37 rfl rfl)
theorem dX11_commit_44 : decode cX11_commit 44 = .ok (.iconst (-1), 1) := dko_2 (dk_t 7 44 [2, 159, 0, 51, 42, 42] dwX11_commit_37 rfl rfl)
theorem dX11_commit_45 : decode cX11_commit 45 = .ok (.if_icmp .eq 51, 3) := dko_159 (dk_t 8 45 [159, 0, 51, 42, 42] dwX11_commit_37 rfl rfl)
theorem dX11_commit_48 : decode cX11_commit 48 = .ok (.aload_n 0, 1) := dko_42 (dk_t 11 48 [42, 42] dwX11_commit_37 rfl rfl)
theorem dX11_commit_49 : decode cX11_commit 49 = .ok (.aload_n 0, 1) := dko_42 (dk_t 12 49 [42] dwX11_commit_37 rfl rfl)
theorem dwX11_commit_50 : dkW cX11_commit 50 [180, 0, 51, 42, 180, 1, 66, 46, 42, 180, 0, 54, 42] = true := by decide +kernel
theorem dX11_commit_50 : decode cX11_commit 50 = .ok (.getfield 51, 3) := dko_180 dwX11_commit_50
theorem dX11_commit_53 : decode cX11_commit 53 = .ok (.aload_n 0, 1) := dko_42 (dk_t 3 53 [42, 180, 1, 66, 46, 42, 180, 0, 54, 42] dwX11_commit_50 rfl rfl)
theorem dX11_commit_54 : decode cX11_commit 54 = .ok (.getfield 322, 3) := dko_180 (dk_t 4 54 [180, 1, 66, 46, 42, 180, 0, 54, 42] dwX11_commit_50 rfl rfl)
theorem dX11_commit_57 : decode cX11_commit 57 = .ok (.iaload, 1) := dko_46 (dk_t 7 57 [46, 42, 180, 0, 54, 42] dwX11_commit_50 rfl rfl)
theorem dX11_commit_58 : decode cX11_commit 58 = .ok (.aload_n 0, 1) := dko_42 (dk_t 8 58 [42, 180, 0, 54, 42] dwX11_commit_50 rfl rfl)
theorem dX11_commit_59 : decode cX11_commit 59 = .ok (.getfield 54, 3) := dko_180 (dk_t 9 59 [180, 0, 54, 42] dwX11_commit_50 rfl rfl)
theorem dX11_commit_62 : decode cX11_commit 62 = .ok (.aload_n 0, 1) := dko_42 (dk_t 12 62 [42] dwX11_commit_50 rfl rfl)
theorem dwX11_commit_63 : dkW cX11_commit 63 [180, 1, 66, 46, 182, 1, 43, 42, 180, 0, 15, 3, 42] = true := by decide +kernel
theorem dX11_commit_63 : decode cX11_commit 63 = .ok (.getfield 322, 3) := dko_180 dwX11_commit_63
theorem dX11_commit_66 : decode cX11_commit 66 = .ok (.iaload, 1) := dko_46 (dk_t 3 66 [46, 182, 1, 43, 42, 180, 0, 15, 3, 42] dwX11_commit_63 rfl rfl)
theorem dX11_commit_67 : decode cX11_commit 67 = .ok (.invokevirtual 299, 3) := dko_182 (dk_t 4 67 [182, 1, 43, 42, 180, 0, 15, 3, 42] dwX11_commit_63 rfl rfl)
theorem dX11_commit_70 : decode cX11_commit 70 = .ok (.aload_n 0, 1) := dko_42 (dk_t 7 70 [42, 180, 0, 15, 3, 42] dwX11_commit_63 rfl rfl)
theorem dX11_commit_71 : decode cX11_commit 71 = .ok (.getfield 15, 3) := dko_180 (dk_t 8 71 [180, 0, 15, 3, 42] dwX11_commit_63 rfl rfl)
theorem dX11_commit_74 : decode cX11_commit 74 = .ok (.iconst 0, 1) := dko_3 (dk_t 11 74 [3, 42] dwX11_commit_63 rfl rfl)
theorem dX11_commit_75 : decode cX11_commit 75 = .ok (.aload_n 0, 1) := dko_42 (dk_t 12 75 [42] dwX11_commit_63 rfl rfl)
theorem dwX11_commit_76 : dkW cX11_commit 76 [180, 0, 9, 3, 184, 1, 53, 42, 180, 0, 30, 5, 92, 46] = true := by decide +kernel
theorem dX11_commit_76 : decode cX11_commit 76 = .ok (.getfield 9, 3) := dko_180 dwX11_commit_76
theorem dX11_commit_79 : decode cX11_commit 79 = .ok (.iconst 0, 1) := dko_3 (dk_t 3 79 [3, 184, 1, 53, 42, 180, 0, 30, 5, 92, 46] dwX11_commit_76 rfl rfl)
theorem dX11_commit_80 : decode cX11_commit 80 = .ok (.invokestatic 309, 3) := dko_184 (dk_t 4 80 [184, 1, 53, 42, 180, 0, 30, 5, 92, 46] dwX11_commit_76 rfl rfl)
theorem dX11_commit_83 : decode cX11_commit 83 = .ok (.aload_n 0, 1) := dko_42 (dk_t 7 83 [42, 180, 0, 30, 5, 92, 46] dwX11_commit_76 rfl rfl)
theorem dX11_commit_84 : decode cX11_commit 84 = .ok (.getfield 30, 3) := dko_180 (dk_t 8 84 [180, 0, 30, 5, 92, 46] dwX11_commit_76 rfl rfl)
theorem dX11_commit_87 : decode cX11_commit 87 = .ok (.iconst 2, 1) := dko_5 (dk_t 11 87 [5, 92, 46] dwX11_commit_76 rfl rfl)
theorem dX11_commit_88 : decode cX11_commit 88 = .ok (.dup2, 1) := dko_92 (dk_t 12 88 [92, 46] dwX11_commit_76 rfl rfl)
theorem dX11_commit_89 : decode cX11_commit 89 = .ok (.iaload, 1) := dko_46 (dk_t 13 89 [46] dwX11_commit_76 rfl rfl)
theorem dwX11_commit_90 : dkW cX11_commit 90 [4, 96, 79, 16, 251, 172, 42, 180, 0, 30, 4, 92, 46, 4] = true := by decide +kernel
theorem dX11_commit_90 : decode cX11_commit 90 = .ok (.iconst 1, 1) := dko_4 dwX11_commit_90
theorem dX11_commit_91 : decode cX11_commit 91 = .ok (.iadd, 1) := dko_96 (dk_t 1 91 [96, 79, 16, 251, 172, 42, 180, 0, 30, 4, 92, 46, 4] dwX11_commit_90 rfl rfl)
theorem dX11_commit_92 : decode cX11_commit 92 = .ok (.iastore, 1) := dko_79 (dk_t 2 92 [79, 16, 251, 172, 42, 180, 0, 30, 4, 92, 46, 4] dwX11_commit_90 rfl rfl)
theorem dX11_commit_93 : decode cX11_commit 93 = .ok (.bipush (-5), 2) := dko_16 (dk_t 3 93 [16, 251, 172, 42, 180, 0, 30, 4, 92, 46, 4] dwX11_commit_90 rfl rfl)
theorem dX11_commit_95 : decode cX11_commit 95 = .ok (.ireturn, 1) := dko_172 (dk_t 5 95 [172, 42, 180, 0, 30, 4, 92, 46, 4] dwX11_commit_90 rfl rfl)
theorem dX11_commit_96 : decode cX11_commit 96 = .ok (.aload_n 0, 1) := dko_42 (dk_t 6 96 [42, 180, 0, 30, 4, 92, 46, 4] dwX11_commit_90 rfl rfl)
theorem dX11_commit_97 : decode cX11_commit 97 = .ok (.getfield 30, 3) := dko_180 (dk_t 7 97 [180, 0, 30, 4, 92, 46, 4] dwX11_commit_90 rfl rfl)
theorem dX11_commit_100 : decode cX11_commit 100 = .ok (.iconst 1, 1) := dko_4 (dk_t 10 100 [4, 92, 46, 4] dwX11_commit_90 rfl rfl)
theorem dX11_commit_101 : decode cX11_commit 101 = .ok (.dup2, 1) := dko_92 (dk_t 11 101 [92, 46, 4] dwX11_commit_90 rfl rfl)
theorem dX11_commit_102 : decode cX11_commit 102 = .ok (.iaload, 1) := dko_46 (dk_t 12 102 [46, 4] dwX11_commit_90 rfl rfl)
theorem dX11_commit_103 : decode cX11_commit 103 = .ok (.iconst 1, 1) := dko_4 (dk_t 13 103 [4] dwX11_commit_90 rfl rfl)
theorem dwX11_commit_104 : dkW cX11_commit 104 [96, 79, 42, 180, 1, 84, 172] = true := by decide +kernel
theorem dX11_commit_104 : decode cX11_commit 104 = .ok (.iadd, 1) := dko_96 dwX11_commit_104
theorem dX11_commit_105 : decode cX11_commit 105 = .ok (.iastore, 1) := dko_79 (dk_t 1 105 [79, 42, 180, 1, 84, 172] dwX11_commit_104 rfl rfl)
theorem dX11_commit_106 : decode cX11_commit 106 = .ok (.aload_n 0, 1) := dko_42 (dk_t 2 106 [42, 180, 1, 84, 172] dwX11_commit_104 rfl rfl)
theorem dX11_commit_107 : decode cX11_commit 107 = .ok (.getfield 340, 3) := dko_180 (dk_t 3 107 [180, 1, 84, 172] dwX11_commit_104 rfl rfl)
theorem dX11_commit_110 : decode cX11_commit 110 = .ok (.ireturn, 1) := dko_172 (dk_t 6 110 [172] dwX11_commit_104 rfl rfl)
theorem dwX11_abort_0 : dkW cX11_abort 0 [42, 3, 181, 0, 134, 42, 180, 0, 206, 154, 0, 6, 16, 253] = true := by decide +kernel
theorem dX11_abort_0 : decode cX11_abort 0 = .ok (.aload_n 0, 1) := dko_42 dwX11_abort_0
theorem dX11_abort_1 : decode cX11_abort 1 = .ok (.iconst 0, 1) := dko_3 (dk_t 1 1 [3, 181, 0, 134, 42, 180, 0, 206, 154, 0, 6, 16, 253] dwX11_abort_0 rfl rfl)
theorem dX11_abort_2 : decode cX11_abort 2 = .ok (.putfield 134, 3) := dko_181 (dk_t 2 2 [181, 0, 134, 42, 180, 0, 206, 154, 0, 6, 16, 253] dwX11_abort_0 rfl rfl)
theorem dX11_abort_5 : decode cX11_abort 5 = .ok (.aload_n 0, 1) := dko_42 (dk_t 5 5 [42, 180, 0, 206, 154, 0, 6, 16, 253] dwX11_abort_0 rfl rfl)
theorem dX11_abort_6 : decode cX11_abort 6 = .ok (.getfield 206, 3) := dko_180 (dk_t 6 6 [180, 0, 206, 154, 0, 6, 16, 253] dwX11_abort_0 rfl rfl)
theorem dX11_abort_9 : decode cX11_abort 9 = .ok (.ifCond .ne 6, 3) := dko_154 (dk_t 9 9 [154, 0, 6, 16, 253] dwX11_abort_0 rfl rfl)
theorem dX11_abort_12 : decode cX11_abort 12 = .ok (.bipush (-3), 2) := dko_16 (dk_t 12 12 [16, 253] dwX11_abort_0 rfl rfl)
theorem dwX11_abort_14 : dkW cX11_abort 14 [172, 42, 182, 1, 123, 60, 42, 180, 0, 15, 3, 42] = true := by decide +kernel
theorem dX11_abort_14 : decode cX11_abort 14 = .ok (.ireturn, 1) := dko_172 dwX11_abort_14
theorem dX11_abort_15 : decode cX11_abort 15 = .ok (.aload_n 0, 1) := dko_42 (dk_t 1 15 [42, 182, 1, 123, 60, 42, 180, 0, 15, 3, 42] dwX11_abort_14 rfl rfl)
theorem dX11_abort_16 : decode cX11_abort 16 = .ok (.invokevirtual 379, 3) := dko_182 (dk_t 2 16 [182, 1, 123, 60, 42, 180, 0, 15, 3, 42] dwX11_abort_14 rfl rfl)
theorem dX11_abort_19 : decode cX11_abort 19 = .ok (.istore_n 1, 1) := dko_60 (dk_t 5 19 [60, 42, 180, 0, 15, 3, 42] dwX11_abort_14 rfl rfl)
theorem dX11_abort_20 : decode cX11_abort 20 = .ok (.aload_n 0, 1) := dko_42 (dk_t 6 20 [42, 180, 0, 15, 3, 42] dwX11_abort_14 rfl rfl)
theorem dX11_abort_21 : decode cX11_abort 21 = .ok (.getfield 15, 3) := dko_180 (dk_t 7 21 [180, 0, 15, 3, 42] dwX11_abort_14 rfl rfl)
theorem dX11_abort_24 : decode cX11_abort 24 = .ok (.iconst 0, 1) := dko_3 (dk_t 10 24 [3, 42] dwX11_abort_14 rfl rfl)
theorem dX11_abort_25 : decode cX11_abort 25 = .ok (.aload_n 0, 1) := dko_42 (dk_t 11 25 [42] dwX11_abort_14 rfl rfl)
theorem dwX11_abort_26 : dkW cX11_abort 26 [180, 0, 9, 3, 184, 1, 53, 42, 3, 181, 0, 206, 42] = true := by decide +kernel
theorem dX11_abort_26 : decode cX11_abort 26 = .ok (.getfield 9, 3) := dko_180 dwX11_abort_26
theorem dX11_abort_29 : decode cX11_abort 29 = .ok (.iconst 0, 1) := dko_3 (dk_t 3 29 [3, 184, 1, 53, 42, 3, 181, 0, 206, 42] dwX11_abort_26 rfl rfl)
theorem dX11_abort_30 : decode cX11_abort 30 = .ok (.invokestatic 309, 3) := dko_184 (dk_t 4 30 [184, 1, 53, 42, 3, 181, 0, 206, 42] dwX11_abort_26 rfl rfl)
theorem dX11_abort_33 : decode cX11_abort 33 = .ok (.aload_n 0, 1) := dko_42 (dk_t 7 33 [42, 3, 181, 0, 206, 42] dwX11_abort_26 rfl rfl)
theorem dX11_abort_34 : decode cX11_abort 34 = .ok (.iconst 0, 1) := dko_3 (dk_t 8 34 [3, 181, 0, 206, 42] dwX11_abort_26 rfl rfl)
theorem dX11_abort_35 : decode cX11_abort 35 = .ok (.putfield 206, 3) := dko_181 (dk_t 9 35 [181, 0, 206, 42] dwX11_abort_26 rfl rfl)
theorem dX11_abort_38 : decode cX11_abort 38 = .ok (.aload_n 0, 1) := dko_42 (dk_t 12 38 [42] dwX11_abort_26 rfl rfl)
theorem dwX11_abort_39 : dkW cX11_abort 39 [180, 0, 30, 6, 92, 46, 4, 96, 79, 27, 172] = true := by decide +kernel
theorem dX11_abort_39 : decode cX11_abort 39 = .ok (.getfield 30, 3) := dko_180 dwX11_abort_39
theorem dX11_abort_42 : decode cX11_abort 42 = .ok (.iconst 3, 1) := dko_6 (dk_t 3 42 [6, 92, 46, 4, 96, 79, 27, 172] dwX11_abort_39 rfl rfl)
theorem dX11_abort_43 : decode cX11_abort 43 = .ok (.dup2, 1) := dko_92 (dk_t 4 43 [92, 46, 4, 96, 79, 27, 172] dwX11_abort_39 rfl rfl)
theorem dX11_abort_44 : decode cX11_abort 44 = .ok (.iaload, 1) := dko_46 (dk_t 5 44 [46, 4, 96, 79, 27, 172] dwX11_abort_39 rfl rfl)
theorem dX11_abort_45 : decode cX11_abort 45 = .ok (.iconst 1, 1) := dko_4 (dk_t 6 45 [4, 96, 79, 27, 172] dwX11_abort_39 rfl rfl)
theorem dX11_abort_46 : decode cX11_abort 46 = .ok (.iadd, 1) := dko_96 (dk_t 7 46 [96, 79, 27, 172] dwX11_abort_39 rfl rfl)
theorem dX11_abort_47 : decode cX11_abort 47 = .ok (.iastore, 1) := dko_79 (dk_t 8 47 [79, 27, 172] dwX11_abort_39 rfl rfl)
theorem dX11_abort_48 : decode cX11_abort 48 = .ok (.iload_n 1, 1) := dko_27 (dk_t 9 48 [27, 172] dwX11_abort_39 rfl rfl)
theorem dX11_abort_49 : decode cX11_abort 49 = .ok (.ireturn, 1) := dko_172 (dk_t 10 49 [172] dwX11_abort_39 rfl rfl)
theorem dwX11_mark_0 : dkW cX11_mark 0 [42, 3, 181, 0, 134, 42, 180, 0, 206, 154, 0, 6, 16, 253] = true := by decide +kernel
theorem dX11_mark_0 : decode cX11_mark 0 = .ok (.aload_n 0, 1) := dko_42 dwX11_mark_0
theorem dX11_mark_1 : decode cX11_mark 1 = .ok (.iconst 0, 1) := dko_3 (dk_t 1 1 [3, 181, 0, 134, 42, 180, 0, 206, 154, 0, 6, 16, 253] dwX11_mark_0 rfl rfl)
theorem dX11_mark_2 : decode cX11_mark 2 = .ok (.putfield 134, 3) := dko_181 (dk_t 2 2 [181, 0, 134, 42, 180, 0, 206, 154, 0, 6, 16, 253] dwX11_mark_0 rfl rfl)
theorem dX11_mark_5 : decode cX11_mark 5 = .ok (.aload_n 0, 1) := dko_42 (dk_t 5 5 [42, 180, 0, 206, 154, 0, 6, 16, 253] dwX11_mark_0 rfl rfl)
theorem dX11_mark_6 : decode cX11_mark 6 = .ok (.getfield 206, 3) := dko_180 (dk_t 6 6 [180, 0, 206, 154, 0, 6, 16, 253] dwX11_mark_0 rfl rfl)
theorem dX11_mark_9 : decode cX11_mark 9 = .ok (.ifCond .ne 6, 3) := dko_154 (dk_t 9 9 [154, 0, 6, 16, 253] dwX11_mark_0 rfl rfl)
theorem dX11_mark_12 : decode cX11_mark 12 = .ok (.bipush (-3), 2) := dko_16 (dk_t 12 12 [16, 253] dwX11_mark_0 rfl rfl)
theorem dwX11_mark_14 : dkW cX11_mark 14 [172, 42, 180, 1, 117, 16, 8, 160, 0, 6, 16, 252, 172, 42] = true := by decide +kernel
theorem dX11_mark_14 : decode cX11_mark 14 = .ok (.ireturn, 1) := dko_172 dwX11_mark_14
theorem dX11_mark_15 : decode cX11_mark 15 = .ok (.aload_n 0, 1) := dko_42 (dk_t 1 15 [42, 180, 1, 117, 16, 8, 160, 0, 6, 16, 252, 172, 42] dwX11_mark_14 rfl rfl)
theorem dX11_mark_16 : decode cX11_mark 16 = .ok (.getfield 373, 3) := dko_180 (dk_t 2 16 [180, 1, 117, 16, 8, 160, 0, 6, 16, 252, 172, 42] dwX11_mark_14 rfl rfl)
theorem dX11_mark_19 : decode cX11_mark 19 = .ok (.bipush 8, 2) := dko_16 (dk_t 5 19 [16, 8, 160, 0, 6, 16, 252, 172, 42] dwX11_mark_14 rfl rfl)
theorem dX11_mark_21 : decode cX11_mark 21 = .ok (.if_icmp .ne 6, 3) := dko_160 (dk_t 7 21 [160, 0, 6, 16, 252, 172, 42] dwX11_mark_14 rfl rfl)
theorem dX11_mark_24 : decode cX11_mark 24 = .ok (.bipush (-4), 2) := dko_16 (dk_t 10 24 [16, 252, 172, 42] dwX11_mark_14 rfl rfl)
theorem dX11_mark_26 : decode cX11_mark 26 = .ok (.ireturn, 1) := dko_172 (dk_t 12 26 [172, 42] dwX11_mark_14 rfl rfl)
theorem dX11_mark_27 : decode cX11_mark 27 = .ok (.aload_n 0, 1) := dko_42 (dk_t 13 27 [42] dwX11_mark_14 rfl rfl)
theorem dwX11_mark_28 : dkW cX11_mark 28 [180, 0, 9, 3, 42, 180, 0, 18, 17, 1, 104, 42] = true := by decide +kernel
theorem dX11_mark_28 : decode cX11_mark 28 = .ok (.getfield 9, 3) := dko_180 dwX11_mark_28
theorem dX11_mark_31 : decode cX11_mark 31 = .ok (.iconst 0, 1) := dko_3 (dk_t 3 31 [3, 42, 180, 0, 18, 17, 1, 104, 42] dwX11_mark_28 rfl rfl)
theorem dX11_mark_32 : decode cX11_mark 32 = .ok (.aload_n 0, 1) := dko_42 (dk_t 4 32 [42, 180, 0, 18, 17, 1, 104, 42] dwX11_mark_28 rfl rfl)
theorem dX11_mark_33 : decode cX11_mark 33 = .ok (.getfield 18, 3) := dko_180 (dk_t 5 33 [180, 0, 18, 17, 1, 104, 42] dwX11_mark_28 rfl rfl)
theorem dX11_mark_36 : decode cX11_mark 36 = .ok (.sipush 360, 3) := dko_17 (dk_t 8 36 [17, 1, 104, 42] dwX11_mark_28 rfl rfl)
theorem dX11_mark_39 : decode cX11_mark 39 = .ok (.aload_n 0, 1) := dko_42 (dk_t 11 39 [42] dwX11_mark_28 rfl rfl)
theorem dwX11_mark_40 : dkW cX11_mark 40 [180, 1, 117, 104, 184, 1, 53, 42, 89, 180, 1, 117, 4, 96] = true := by decide +kernel
theorem dX11_mark_40 : decode cX11_mark 40 = .ok (.getfield 373, 3) := dko_180 dwX11_mark_40
theorem dX11_mark_43 : decode cX11_mark 43 = .ok (.imul, 1) := dko_104 (dk_t 3 43 [104, 184, 1, 53, 42, 89, 180, 1, 117, 4, 96] dwX11_mark_40 rfl rfl)
theorem dX11_mark_44 : decode cX11_mark 44 = .ok (.invokestatic 309, 3) := dko_184 (dk_t 4 44 [184, 1, 53, 42, 89, 180, 1, 117, 4, 96] dwX11_mark_40 rfl rfl)
theorem dX11_mark_47 : decode cX11_mark 47 = .ok (.aload_n 0, 1) := dko_42 (dk_t 7 47 [42, 89, 180, 1, 117, 4, 96] dwX11_mark_40 rfl rfl)
theorem dX11_mark_48 : decode cX11_mark 48 = .ok (.dup, 1) := dko_89 (dk_t 8 48 [89, 180, 1, 117, 4, 96] dwX11_mark_40 rfl rfl)
theorem dX11_mark_49 : decode cX11_mark 49 = .ok (.getfield 373, 3) := dko_180 (dk_t 9 49 [180, 1, 117, 4, 96] dwX11_mark_40 rfl rfl)
theorem dX11_mark_52 : decode cX11_mark 52 = .ok (.iconst 1, 1) := dko_4 (dk_t 12 52 [4, 96] dwX11_mark_40 rfl rfl)
theorem dX11_mark_53 : decode cX11_mark 53 = .ok (.iadd, 1) := dko_96 (dk_t 13 53 [96] dwX11_mark_40 rfl rfl)
theorem dwX11_mark_54 : dkW cX11_mark 54 [181, 1, 117, 42, 180, 1, 117, 4, 100, 172] = true := by decide +kernel
theorem dX11_mark_54 : decode cX11_mark 54 = .ok (.putfield 373, 3) := dko_181 dwX11_mark_54
theorem dX11_mark_57 : decode cX11_mark 57 = .ok (.aload_n 0, 1) := dko_42 (dk_t 3 57 [42, 180, 1, 117, 4, 100, 172] dwX11_mark_54 rfl rfl)
theorem dX11_mark_58 : decode cX11_mark 58 = .ok (.getfield 373, 3) := dko_180 (dk_t 4 58 [180, 1, 117, 4, 100, 172] dwX11_mark_54 rfl rfl)
theorem dX11_mark_61 : decode cX11_mark 61 = .ok (.iconst 1, 1) := dko_4 (dk_t 7 61 [4, 100, 172] dwX11_mark_54 rfl rfl)
theorem dX11_mark_62 : decode cX11_mark 62 = .ok (.isub, 1) := dko_100 (dk_t 8 62 [100, 172] dwX11_mark_54 rfl rfl)
theorem dX11_mark_63 : decode cX11_mark 63 = .ok (.ireturn, 1) := dko_172 (dk_t 9 63 [172] dwX11_mark_54 rfl rfl)
theorem dwX11_isMark_0 : dkW cX11_isMark 0 [42, 180, 0, 206, 153, 0, 23, 27, 133, 9, 42, 180, 1, 117] = true := by decide +kernel
theorem dX11_isMark_0 : decode cX11_isMark 0 = .ok (.aload_n 0, 1) := dko_42 dwX11_isMark_0
theorem dX11_isMark_1 : decode cX11_isMark 1 = .ok (.getfield 206, 3) := dko_180 (dk_t 1 1 [180, 0, 206, 153, 0, 23, 27, 133, 9, 42, 180, 1, 117] dwX11_isMark_0 rfl rfl)
theorem dX11_isMark_4 : decode cX11_isMark 4 = .ok (.ifCond .eq 23, 3) := dko_153 (dk_t 4 4 [153, 0, 23, 27, 133, 9, 42, 180, 1, 117] dwX11_isMark_0 rfl rfl)
theorem dX11_isMark_7 : decode cX11_isMark 7 = .ok (.iload_n 1, 1) := dko_27 (dk_t 7 7 [27, 133, 9, 42, 180, 1, 117] dwX11_isMark_0 rfl rfl)
theorem dX11_isMark_8 : decode cX11_isMark 8 = .ok (.i2l, 1) := dko_133 (dk_t 8 8 [133, 9, 42, 180, 1, 117] dwX11_isMark_0 rfl rfl)
theorem dX11_isMark_9 : decode cX11_isMark 9 = .ok (.lconst 0, 1) := dko_9 (dk_t 9 9 [9, 42, 180, 1, 117] dwX11_isMark_0 rfl rfl)
theorem dX11_isMark_10 : decode cX11_isMark 10 = .ok (.aload_n 0, 1) := dko_42 (dk_t 10 10 [42, 180, 1, 117] dwX11_isMark_0 rfl rfl)
theorem dX11_isMark_11 : decode cX11_isMark 11 = .ok (.getfield 373, 3) := dko_180 (dk_t 11 11 [180, 1, 117] dwX11_isMark_0 rfl rfl)
theorem dwX11_isMark_14 : dkW cX11_isMark 14 [133, 10, 101, 184, 0, 139, 153, 0, 7, 4, 167, 0, 4, 3] = true := by decide +kernel
theorem dX11_isMark_14 : decode cX11_isMark 14 = .ok (.i2l, 1) := dko_133 dwX11_isMark_14
theorem dX11_isMark_15 : decode cX11_isMark 15 = .ok (.lconst 1, 1) := dko_10 (dk_t 1 15 [10, 101, 184, 0, 139, 153, 0, 7, 4, 167, 0, 4, 3] dwX11_isMark_14 rfl rfl)
theorem dX11_isMark_16 : decode cX11_isMark 16 = .ok (.lsub, 1) := dko_101 (dk_t 2 16 [101, 184, 0, 139, 153, 0, 7, 4, 167, 0, 4, 3] dwX11_isMark_14 rfl rfl)
theorem dX11_isMark_17 : decode cX11_isMark 17 = .ok (.invokestatic 139, 3) := dko_184 (dk_t 3 17 [184, 0, 139, 153, 0, 7, 4, 167, 0, 4, 3] dwX11_isMark_14 rfl rfl)
theorem dX11_isMark_20 : decode cX11_isMark 20 = .ok (.ifCond .eq 7, 3) := dko_153 (dk_t 6 20 [153, 0, 7, 4, 167, 0, 4, 3] dwX11_isMark_14 rfl rfl)
theorem dX11_isMark_23 : decode cX11_isMark 23 = .ok (.iconst 1, 1) := dko_4 (dk_t 9 23 [4, 167, 0, 4, 3] dwX11_isMark_14 rfl rfl)
theorem dX11_isMark_24 : decode cX11_isMark 24 = .ok (.goto 4, 3) := dko_167 (dk_t 10 24 [167, 0, 4, 3] dwX11_isMark_14 rfl rfl)
theorem dX11_isMark_27 : decode cX11_isMark 27 = .ok (.iconst 0, 1) := dko_3 (dk_t 13 27 [3] dwX11_isMark_14 rfl rfl)
theorem dwX11_isMark_28 : dkW cX11_isMark 28 [172] = true := by decide +kernel
theorem dX11_isMark_28 : decode cX11_isMark 28 = .ok (.ireturn, 1) := dko_172 dwX11_isMark_28
theorem dwX11_back_0 : dkW cX11_back 0 [42, 3, 181, 0, 134, 42, 182, 0, 231, 42, 180, 0, 206] = true := by decide +kernel
theorem dX11_back_0 : decode cX11_back 0 = .ok (.aload_n 0, 1) := dko_42 dwX11_back_0
theorem dX11_back_1 : decode cX11_back 1 = .ok (.iconst 0, 1) := dko_3 (dk_t 1 1 [3, 181, 0, 134, 42, 182, 0, 231, 42, 180, 0, 206] dwX11_back_0 rfl rfl)
theorem dX11_back_2 : decode cX11_back 2 = .ok (.putfield 134, 3) := dko_181 (dk_t 2 2 [181, 0, 134, 42, 182, 0, 231, 42, 180, 0, 206] dwX11_back_0 rfl rfl)
theorem dX11_back_5 : decode cX11_back 5 = .ok (.aload_n 0, 1) := dko_42 (dk_t 5 5 [42, 182, 0, 231, 42, 180, 0, 206] dwX11_back_0 rfl rfl)
theorem dX11_back_6 : decode cX11_back 6 = .ok (.invokevirtual 231, 3) := dko_182 (dk_t 6 6 [182, 0, 231, 42, 180, 0, 206] dwX11_back_0 rfl rfl)
theorem dX11_back_9 : decode cX11_back 9 = .ok (.aload_n 0, 1) := dko_42 (dk_t 9 9 [42, 180, 0, 206] dwX11_back_0 rfl rfl)
theorem dX11_back_10 : decode cX11_back 10 = .ok (.getfield 206, 3) := dko_180 (dk_t 10 10 [180, 0, 206] dwX11_back_0 rfl rfl)
theorem dwX11_back_13 : dkW cX11_back 13 [154, 0, 6, 16, 253, 172, 42, 27, 182, 1, 126, 154, 0, 6] = true := by decide +kernel
theorem dX11_back_13 : decode cX11_back 13 = .ok (.ifCond .ne 6, 3) := dko_154 dwX11_back_13
theorem dX11_back_16 : decode cX11_back 16 = .ok (.bipush (-3), 2) := dko_16 (dk_t 3 16 [16, 253, 172, 42, 27, 182, 1, 126, 154, 0, 6] dwX11_back_13 rfl rfl)
theorem dX11_back_18 : decode cX11_back 18 = .ok (.ireturn, 1) := dko_172 (dk_t 5 18 [172, 42, 27, 182, 1, 126, 154, 0, 6] dwX11_back_13 rfl rfl)
theorem dX11_back_19 : decode cX11_back 19 = .ok (.aload_n 0, 1) := dko_42 (dk_t 6 19 [42, 27, 182, 1, 126, 154, 0, 6] dwX11_back_13 rfl rfl)
theorem dX11_back_20 : decode cX11_back 20 = .ok (.iload_n 1, 1) := dko_27 (dk_t 7 20 [27, 182, 1, 126, 154, 0, 6] dwX11_back_13 rfl rfl)
theorem dX11_back_21 : decode cX11_back 21 = .ok (.invokevirtual 382, 3) := dko_182 (dk_t 8 21 [182, 1, 126, 154, 0, 6] dwX11_back_13 rfl rfl)
theorem dX11_back_24 : decode cX11_back 24 = .ok (.ifCond .ne 6, 3) := dko_154 (dk_t 11 24 [154, 0, 6] dwX11_back_13 rfl rfl)
theorem dwX11_back_27 : dkW cX11_back 27 [16, 254, 172, 42, 182, 0, 200, 3, 61, 28, 42, 180, 0, 197] = true := by decide +kernel
theorem dX11_back_27 : decode cX11_back 27 = .ok (.bipush (-2), 2) := dko_16 dwX11_back_27
theorem dX11_back_29 : decode cX11_back 29 = .ok (.ireturn, 1) := dko_172 (dk_t 2 29 [172, 42, 182, 0, 200, 3, 61, 28, 42, 180, 0, 197] dwX11_back_27 rfl rfl)
theorem dX11_back_30 : decode cX11_back 30 = .ok (.aload_n 0, 1) := dko_42 (dk_t 3 30 [42, 182, 0, 200, 3, 61, 28, 42, 180, 0, 197] dwX11_back_27 rfl rfl)
theorem dX11_back_31 : decode cX11_back 31 = .ok (.invokevirtual 200, 3) := dko_182 (dk_t 4 31 [182, 0, 200, 3, 61, 28, 42, 180, 0, 197] dwX11_back_27 rfl rfl)
theorem dX11_back_34 : decode cX11_back 34 = .ok (.iconst 0, 1) := dko_3 (dk_t 7 34 [3, 61, 28, 42, 180, 0, 197] dwX11_back_27 rfl rfl)
theorem dX11_back_35 : decode cX11_back 35 = .ok (.istore_n 2, 1) := dko_61 (dk_t 8 35 [61, 28, 42, 180, 0, 197] dwX11_back_27 rfl rfl)
theorem dX11_back_36 : decode cX11_back 36 = .ok (.iload_n 2, 1) := dko_28 (dk_t 9 36 [28, 42, 180, 0, 197] dwX11_back_27 rfl rfl)
theorem dX11_back_37 : decode cX11_back 37 = .ok (.aload_n 0, 1) := dko_42 (dk_t 10 37 [42, 180, 0, 197] dwX11_back_27 rfl rfl)
theorem dX11_back_38 : decode cX11_back 38 = .ok (.getfield 197, 3) := dko_180 (dk_t 11 38 [180, 0, 197] dwX11_back_27 rfl rfl)
theorem dwX11_back_41 : dkW cX11_back 41 [162, 0, 78, 42, 180, 0, 48, 28, 46, 62, 42, 29] = true := by decide +kernel
theorem dX11_back_41 : decode cX11_back 41 = .ok (.if_icmp .ge 78, 3) := dko_162 dwX11_back_41
theorem dX11_back_44 : decode cX11_back 44 = .ok (.aload_n 0, 1) := dko_42 (dk_t 3 44 [42, 180, 0, 48, 28, 46, 62, 42, 29] dwX11_back_41 rfl rfl)
theorem dX11_back_45 : decode cX11_back 45 = .ok (.getfield 48, 3) := dko_180 (dk_t 4 45 [180, 0, 48, 28, 46, 62, 42, 29] dwX11_back_41 rfl rfl)
theorem dX11_back_48 : decode cX11_back 48 = .ok (.iload_n 2, 1) := dko_28 (dk_t 7 48 [28, 46, 62, 42, 29] dwX11_back_41 rfl rfl)
theorem dX11_back_49 : decode cX11_back 49 = .ok (.iaload, 1) := dko_46 (dk_t 8 49 [46, 62, 42, 29] dwX11_back_41 rfl rfl)
theorem dX11_back_50 : decode cX11_back 50 = .ok (.istore_n 3, 1) := dko_62 (dk_t 9 50 [62, 42, 29] dwX11_back_41 rfl rfl)
theorem dX11_back_51 : decode cX11_back 51 = .ok (.aload_n 0, 1) := dko_42 (dk_t 10 51 [42, 29] dwX11_back_41 rfl rfl)
theorem dX11_back_52 : decode cX11_back 52 = .ok (.iload_n 3, 1) := dko_29 (dk_t 11 52 [29] dwX11_back_41 rfl rfl)
theorem dwX11_back_53 : dkW cX11_back 53 [182, 0, 179, 54, 4, 21, 4, 42, 29, 182, 0, 183] = true := by decide +kernel
theorem dX11_back_53 : decode cX11_back 53 = .ok (.invokevirtual 179, 3) := dko_182 dwX11_back_53
theorem dX11_back_56 : decode cX11_back 56 = .ok (.istore 4, 2) := dko_54 (dk_t 3 56 [54, 4, 21, 4, 42, 29, 182, 0, 183] dwX11_back_53 rfl rfl)
theorem dX11_back_58 : decode cX11_back 58 = .ok (.iload 4, 2) := dko_21 (dk_t 5 58 [21, 4, 42, 29, 182, 0, 183] dwX11_back_53 rfl rfl)
theorem dX11_back_60 : decode cX11_back 60 = .ok (.aload_n 0, 1) := dko_42 (dk_t 7 60 [42, 29, 182, 0, 183] dwX11_back_53 rfl rfl)
theorem dX11_back_61 : decode cX11_back 61 = .ok (.iload_n 3, 1) := dko_29 (dk_t 8 61 [29, 182, 0, 183] dwX11_back_53 rfl rfl)
theorem dX11_back_62 : decode cX11_back 62 = .ok (.invokevirtual 183, 3) := dko_182 (dk_t 9 62 [182, 0, 183] dwX11_back_53 rfl rfl)
theorem dwX11_back_65 : dkW cX11_back 65 [163, 0, 48, 42, 29, 16, 6, 182, 0, 165, 154, 0, 38, 42] = true := by decide +kernel
theorem dX11_back_65 : decode cX11_back 65 = .ok (.if_icmp .gt 48, 3) := dko_163 dwX11_back_65
theorem dX11_back_68 : decode cX11_back 68 = .ok (.aload_n 0, 1) := dko_42 (dk_t 3 68 [42, 29, 16, 6, 182, 0, 165, 154, 0, 38, 42] dwX11_back_65 rfl rfl)
theorem dX11_back_69 : decode cX11_back 69 = .ok (.iload_n 3, 1) := dko_29 (dk_t 4 69 [29, 16, 6, 182, 0, 165, 154, 0, 38, 42] dwX11_back_65 rfl rfl)
theorem dX11_back_70 : decode cX11_back 70 = .ok (.bipush 6, 2) := dko_16 (dk_t 5 70 [16, 6, 182, 0, 165, 154, 0, 38, 42] dwX11_back_65 rfl rfl)
theorem dX11_back_72 : decode cX11_back 72 = .ok (.invokevirtual 165, 3) := dko_182 (dk_t 7 72 [182, 0, 165, 154, 0, 38, 42] dwX11_back_65 rfl rfl)
theorem dX11_back_75 : decode cX11_back 75 = .ok (.ifCond .ne 38, 3) := dko_154 (dk_t 10 75 [154, 0, 38, 42] dwX11_back_65 rfl rfl)
theorem dX11_back_78 : decode cX11_back 78 = .ok (.aload_n 0, 1) := dko_42 (dk_t 13 78 [42] dwX11_back_65 rfl rfl)
theorem dwX11_back_79 : dkW cX11_back 79 [29, 21, 4, 42, 180, 0, 18, 17, 1, 104, 27, 104] = true := by decide +kernel
theorem dX11_back_79 : decode cX11_back 79 = .ok (.iload_n 3, 1) := dko_29 dwX11_back_79
theorem dX11_back_80 : decode cX11_back 80 = .ok (.iload 4, 2) := dko_21 (dk_t 1 80 [21, 4, 42, 180, 0, 18, 17, 1, 104, 27, 104] dwX11_back_79 rfl rfl)
theorem dX11_back_82 : decode cX11_back 82 = .ok (.aload_n 0, 1) := dko_42 (dk_t 3 82 [42, 180, 0, 18, 17, 1, 104, 27, 104] dwX11_back_79 rfl rfl)
theorem dX11_back_83 : decode cX11_back 83 = .ok (.getfield 18, 3) := dko_180 (dk_t 4 83 [180, 0, 18, 17, 1, 104, 27, 104] dwX11_back_79 rfl rfl)
theorem dX11_back_86 : decode cX11_back 86 = .ok (.sipush 360, 3) := dko_17 (dk_t 7 86 [17, 1, 104, 27, 104] dwX11_back_79 rfl rfl)
theorem dX11_back_89 : decode cX11_back 89 = .ok (.iload_n 1, 1) := dko_27 (dk_t 10 89 [27, 104] dwX11_back_79 rfl rfl)
theorem dX11_back_90 : decode cX11_back 90 = .ok (.imul, 1) := dko_104 (dk_t 11 90 [104] dwX11_back_79 rfl rfl)
theorem dwX11_back_91 : dkW cX11_back 91 [182, 0, 221, 153, 0, 13, 42, 29, 21, 4, 182, 1, 43] = true := by decide +kernel
theorem dX11_back_91 : decode cX11_back 91 = .ok (.invokevirtual 221, 3) := dko_182 dwX11_back_91
theorem dX11_back_94 : decode cX11_back 94 = .ok (.ifCond .eq 13, 3) := dko_153 (dk_t 3 94 [153, 0, 13, 42, 29, 21, 4, 182, 1, 43] dwX11_back_91 rfl rfl)
theorem dX11_back_97 : decode cX11_back 97 = .ok (.aload_n 0, 1) := dko_42 (dk_t 6 97 [42, 29, 21, 4, 182, 1, 43] dwX11_back_91 rfl rfl)
theorem dX11_back_98 : decode cX11_back 98 = .ok (.iload_n 3, 1) := dko_29 (dk_t 7 98 [29, 21, 4, 182, 1, 43] dwX11_back_91 rfl rfl)
theorem dX11_back_99 : decode cX11_back 99 = .ok (.iload 4, 2) := dko_21 (dk_t 8 99 [21, 4, 182, 1, 43] dwX11_back_91 rfl rfl)
theorem dX11_back_101 : decode cX11_back 101 = .ok (.invokevirtual 299, 3) := dko_182 (dk_t 10 101 [182, 1, 43] dwX11_back_91 rfl rfl)
theorem dwX11_back_104 : dkW cX11_back 104 [16, 251, 172, 132, 4, 1, 167, 255, 204, 132, 2, 1] = true := by decide +kernel
theorem dX11_back_104 : decode cX11_back 104 = .ok (.bipush (-5), 2) := dko_16 dwX11_back_104
theorem dX11_back_106 : decode cX11_back 106 = .ok (.ireturn, 1) := dko_172 (dk_t 2 106 [172, 132, 4, 1, 167, 255, 204, 132, 2, 1] dwX11_back_104 rfl rfl)
theorem dX11_back_107 : decode cX11_back 107 = .ok (.iinc 4 1, 3) := dko_132 (dk_t 3 107 [132, 4, 1, 167, 255, 204, 132, 2, 1] dwX11_back_104 rfl rfl)
theorem dX11_back_110 : decode cX11_back 110 = .ok (.goto (-52), 3) := dko_167 (dk_t 6 110 [167, 255, 204, 132, 2, 1] dwX11_back_104 rfl rfl)
theorem dX11_back_113 : decode cX11_back 113 = .ok (.iinc 2 1, 3) := dko_132 (dk_t 9 113 [132, 2, 1] dwX11_back_104 rfl rfl)
theorem dwX11_back_116 : dkW cX11_back 116 [167, 255, 176, 42, 42, 180, 0, 39, 42, 180, 0, 9, 3] = true := by decide +kernel
theorem dX11_back_116 : decode cX11_back 116 = .ok (.goto (-80), 3) := dko_167 dwX11_back_116
theorem dX11_back_119 : decode cX11_back 119 = .ok (.aload_n 0, 1) := dko_42 (dk_t 3 119 [42, 42, 180, 0, 39, 42, 180, 0, 9, 3] dwX11_back_116 rfl rfl)
theorem dX11_back_120 : decode cX11_back 120 = .ok (.aload_n 0, 1) := dko_42 (dk_t 4 120 [42, 180, 0, 39, 42, 180, 0, 9, 3] dwX11_back_116 rfl rfl)
theorem dX11_back_121 : decode cX11_back 121 = .ok (.getfield 39, 3) := dko_180 (dk_t 5 121 [180, 0, 39, 42, 180, 0, 9, 3] dwX11_back_116 rfl rfl)
theorem dX11_back_124 : decode cX11_back 124 = .ok (.aload_n 0, 1) := dko_42 (dk_t 8 124 [42, 180, 0, 9, 3] dwX11_back_116 rfl rfl)
theorem dX11_back_125 : decode cX11_back 125 = .ok (.getfield 9, 3) := dko_180 (dk_t 9 125 [180, 0, 9, 3] dwX11_back_116 rfl rfl)
theorem dX11_back_128 : decode cX11_back 128 = .ok (.iconst 0, 1) := dko_3 (dk_t 12 128 [3] dwX11_back_116 rfl rfl)
theorem dwX11_back_129 : dkW cX11_back 129 [182, 0, 210, 42, 180, 0, 18, 17, 1, 104, 27, 104, 42] = true := by decide +kernel
theorem dX11_back_129 : decode cX11_back 129 = .ok (.invokevirtual 210, 3) := dko_182 dwX11_back_129
theorem dX11_back_132 : decode cX11_back 132 = .ok (.aload_n 0, 1) := dko_42 (dk_t 3 132 [42, 180, 0, 18, 17, 1, 104, 27, 104, 42] dwX11_back_129 rfl rfl)
theorem dX11_back_133 : decode cX11_back 133 = .ok (.getfield 18, 3) := dko_180 (dk_t 4 133 [180, 0, 18, 17, 1, 104, 27, 104, 42] dwX11_back_129 rfl rfl)
theorem dX11_back_136 : decode cX11_back 136 = .ok (.sipush 360, 3) := dko_17 (dk_t 7 136 [17, 1, 104, 27, 104, 42] dwX11_back_129 rfl rfl)
theorem dX11_back_139 : decode cX11_back 139 = .ok (.iload_n 1, 1) := dko_27 (dk_t 10 139 [27, 104, 42] dwX11_back_129 rfl rfl)
theorem dX11_back_140 : decode cX11_back 140 = .ok (.imul, 1) := dko_104 (dk_t 11 140 [104, 42] dwX11_back_129 rfl rfl)
theorem dX11_back_141 : decode cX11_back 141 = .ok (.aload_n 0, 1) := dko_42 (dk_t 12 141 [42] dwX11_back_129 rfl rfl)
theorem dwX11_back_142 : dkW cX11_back 142 [180, 0, 9, 3, 184, 1, 53, 42, 42, 180, 0, 36, 42] = true := by decide +kernel
theorem dX11_back_142 : decode cX11_back 142 = .ok (.getfield 9, 3) := dko_180 dwX11_back_142
theorem dX11_back_145 : decode cX11_back 145 = .ok (.iconst 0, 1) := dko_3 (dk_t 3 145 [3, 184, 1, 53, 42, 42, 180, 0, 36, 42] dwX11_back_142 rfl rfl)
theorem dX11_back_146 : decode cX11_back 146 = .ok (.invokestatic 309, 3) := dko_184 (dk_t 4 146 [184, 1, 53, 42, 42, 180, 0, 36, 42] dwX11_back_142 rfl rfl)
theorem dX11_back_149 : decode cX11_back 149 = .ok (.aload_n 0, 1) := dko_42 (dk_t 7 149 [42, 42, 180, 0, 36, 42] dwX11_back_142 rfl rfl)
theorem dX11_back_150 : decode cX11_back 150 = .ok (.aload_n 0, 1) := dko_42 (dk_t 8 150 [42, 180, 0, 36, 42] dwX11_back_142 rfl rfl)
theorem dX11_back_151 : decode cX11_back 151 = .ok (.getfield 36, 3) := dko_180 (dk_t 9 151 [180, 0, 36, 42] dwX11_back_142 rfl rfl)
theorem dX11_back_154 : decode cX11_back 154 = .ok (.aload_n 0, 1) := dko_42 (dk_t 12 154 [42] dwX11_back_142 rfl rfl)
theorem dwX11_back_155 : dkW cX11_back 155 [180, 0, 9, 3, 182, 0, 210, 42, 42, 180, 0, 42, 42] = true := by decide +kernel
theorem dX11_back_155 : decode cX11_back 155 = .ok (.getfield 9, 3) := dko_180 dwX11_back_155
theorem dX11_back_158 : decode cX11_back 158 = .ok (.iconst 0, 1) := dko_3 (dk_t 3 158 [3, 182, 0, 210, 42, 42, 180, 0, 42, 42] dwX11_back_155 rfl rfl)
theorem dX11_back_159 : decode cX11_back 159 = .ok (.invokevirtual 210, 3) := dko_182 (dk_t 4 159 [182, 0, 210, 42, 42, 180, 0, 42, 42] dwX11_back_155 rfl rfl)
theorem dX11_back_162 : decode cX11_back 162 = .ok (.aload_n 0, 1) := dko_42 (dk_t 7 162 [42, 42, 180, 0, 42, 42] dwX11_back_155 rfl rfl)
theorem dX11_back_163 : decode cX11_back 163 = .ok (.aload_n 0, 1) := dko_42 (dk_t 8 163 [42, 180, 0, 42, 42] dwX11_back_155 rfl rfl)
theorem dX11_back_164 : decode cX11_back 164 = .ok (.getfield 42, 3) := dko_180 (dk_t 9 164 [180, 0, 42, 42] dwX11_back_155 rfl rfl)
theorem dX11_back_167 : decode cX11_back 167 = .ok (.aload_n 0, 1) := dko_42 (dk_t 12 167 [42] dwX11_back_155 rfl rfl)
theorem dwX11_back_168 : dkW cX11_back 168 [180, 0, 15, 3, 182, 0, 210, 42, 42, 180, 0, 39, 42] = true := by decide +kernel
theorem dX11_back_168 : decode cX11_back 168 = .ok (.getfield 15, 3) := dko_180 dwX11_back_168
theorem dX11_back_171 : decode cX11_back 171 = .ok (.iconst 0, 1) := dko_3 (dk_t 3 171 [3, 182, 0, 210, 42, 42, 180, 0, 39, 42] dwX11_back_168 rfl rfl)
theorem dX11_back_172 : decode cX11_back 172 = .ok (.invokevirtual 210, 3) := dko_182 (dk_t 4 172 [182, 0, 210, 42, 42, 180, 0, 39, 42] dwX11_back_168 rfl rfl)
theorem dX11_back_175 : decode cX11_back 175 = .ok (.aload_n 0, 1) := dko_42 (dk_t 7 175 [42, 42, 180, 0, 39, 42] dwX11_back_168 rfl rfl)
theorem dX11_back_176 : decode cX11_back 176 = .ok (.aload_n 0, 1) := dko_42 (dk_t 8 176 [42, 180, 0, 39, 42] dwX11_back_168 rfl rfl)
theorem dX11_back_177 : decode cX11_back 177 = .ok (.getfield 39, 3) := dko_180 (dk_t 9 177 [180, 0, 39, 42] dwX11_back_168 rfl rfl)
theorem dX11_back_180 : decode cX11_back 180 = .ok (.aload_n 0, 1) := dko_42 (dk_t 12 180 [42] dwX11_back_168 rfl rfl)
theorem dwX11_back_181 : dkW cX11_back 181 [180, 0, 36, 5, 182, 1, 78, 42, 27, 4, 96, 181, 1, 117] = true := by decide +kernel
theorem dX11_back_181 : decode cX11_back 181 = .ok (.getfield 36, 3) := dko_180 dwX11_back_181
theorem dX11_back_184 : decode cX11_back 184 = .ok (.iconst 2, 1) := dko_5 (dk_t 3 184 [5, 182, 1, 78, 42, 27, 4, 96, 181, 1, 117] dwX11_back_181 rfl rfl)
theorem dX11_back_185 : decode cX11_back 185 = .ok (.invokevirtual 334, 3) := dko_182 (dk_t 4 185 [182, 1, 78, 42, 27, 4, 96, 181, 1, 117] dwX11_back_181 rfl rfl)
theorem dX11_back_188 : decode cX11_back 188 = .ok (.aload_n 0, 1) := dko_42 (dk_t 7 188 [42, 27, 4, 96, 181, 1, 117] dwX11_back_181 rfl rfl)
theorem dX11_back_189 : decode cX11_back 189 = .ok (.iload_n 1, 1) := dko_27 (dk_t 8 189 [27, 4, 96, 181, 1, 117] dwX11_back_181 rfl rfl)
theorem dX11_back_190 : decode cX11_back 190 = .ok (.iconst 1, 1) := dko_4 (dk_t 9 190 [4, 96, 181, 1, 117] dwX11_back_181 rfl rfl)
theorem dX11_back_191 : decode cX11_back 191 = .ok (.iadd, 1) := dko_96 (dk_t 10 191 [96, 181, 1, 117] dwX11_back_181 rfl rfl)
theorem dX11_back_192 : decode cX11_back 192 = .ok (.putfield 373, 3) := dko_181 (dk_t 11 192 [181, 1, 117] dwX11_back_181 rfl rfl)
theorem dwX11_back_195 : dkW cX11_back 195 [42, 182, 1, 123, 172] = true := by decide +kernel
theorem dX11_back_195 : decode cX11_back 195 = .ok (.aload_n 0, 1) := dko_42 dwX11_back_195
theorem dX11_back_196 : decode cX11_back 196 = .ok (.invokevirtual 379, 3) := dko_182 (dk_t 1 196 [182, 1, 123, 172] dwX11_back_195 rfl rfl)
theorem dX11_back_199 : decode cX11_back 199 = .ok (.ireturn, 1) := dko_172 (dk_t 4 199 [172] dwX11_back_195 rfl rfl)
theorem dwX11_value_0 : dkW cX11_value 0 [42, 42, 27, 28, 182, 1, 90, 153, 0, 14, 29, 184, 1, 100] = true := by decide +kernel
theorem dX11_value_0 : decode cX11_value 0 = .ok (.aload_n 0, 1) := dko_42 dwX11_value_0
theorem dX11_value_1 : decode cX11_value 1 = .ok (.aload_n 0, 1) := dko_42 (dk_t 1 1 [42, 27, 28, 182, 1, 90, 153, 0, 14, 29, 184, 1, 100] dwX11_value_0 rfl rfl)
theorem dX11_value_2 : decode cX11_value 2 = .ok (.iload_n 1, 1) := dko_27 (dk_t 2 2 [27, 28, 182, 1, 90, 153, 0, 14, 29, 184, 1, 100] dwX11_value_0 rfl rfl)
theorem dX11_value_3 : decode cX11_value 3 = .ok (.iload_n 2, 1) := dko_28 (dk_t 3 3 [28, 182, 1, 90, 153, 0, 14, 29, 184, 1, 100] dwX11_value_0 rfl rfl)
theorem dX11_value_4 : decode cX11_value 4 = .ok (.invokevirtual 346, 3) := dko_182 (dk_t 4 4 [182, 1, 90, 153, 0, 14, 29, 184, 1, 100] dwX11_value_0 rfl rfl)
theorem dX11_value_7 : decode cX11_value 7 = .ok (.ifCond .eq 14, 3) := dko_153 (dk_t 7 7 [153, 0, 14, 29, 184, 1, 100] dwX11_value_0 rfl rfl)
theorem dX11_value_10 : decode cX11_value 10 = .ok (.iload_n 3, 1) := dko_29 (dk_t 10 10 [29, 184, 1, 100] dwX11_value_0 rfl rfl)
theorem dX11_value_11 : decode cX11_value 11 = .ok (.invokestatic 356, 3) := dko_184 (dk_t 11 11 [184, 1, 100] dwX11_value_0 rfl rfl)
theorem dwX11_value_14 : dkW cX11_value 14 [153, 0, 7, 3, 167, 0, 4, 4, 181, 0, 134, 42] = true := by decide +kernel
theorem dX11_value_14 : decode cX11_value 14 = .ok (.ifCond .eq 7, 3) := dko_153 dwX11_value_14
theorem dX11_value_17 : decode cX11_value 17 = .ok (.iconst 0, 1) := dko_3 (dk_t 3 17 [3, 167, 0, 4, 4, 181, 0, 134, 42] dwX11_value_14 rfl rfl)
theorem dX11_value_18 : decode cX11_value 18 = .ok (.goto 4, 3) := dko_167 (dk_t 4 18 [167, 0, 4, 4, 181, 0, 134, 42] dwX11_value_14 rfl rfl)
theorem dX11_value_21 : decode cX11_value 21 = .ok (.iconst 1, 1) := dko_4 (dk_t 7 21 [4, 181, 0, 134, 42] dwX11_value_14 rfl rfl)
theorem dX11_value_22 : decode cX11_value 22 = .ok (.putfield 134, 3) := dko_181 (dk_t 8 22 [181, 0, 134, 42] dwX11_value_14 rfl rfl)
theorem dX11_value_25 : decode cX11_value 25 = .ok (.aload_n 0, 1) := dko_42 (dk_t 11 25 [42] dwX11_value_14 rfl rfl)
theorem dwX11_value_26 : dkW cX11_value 26 [180, 0, 134, 154, 0, 20, 42, 180, 0, 9, 27, 28] = true := by decide +kernel
theorem dX11_value_26 : decode cX11_value 26 = .ok (.getfield 134, 3) := dko_180 dwX11_value_26
theorem dX11_value_29 : decode cX11_value 29 = .ok (.ifCond .ne 20, 3) := dko_154 (dk_t 3 29 [154, 0, 20, 42, 180, 0, 9, 27, 28] dwX11_value_26 rfl rfl)
theorem dX11_value_32 : decode cX11_value 32 = .ok (.aload_n 0, 1) := dko_42 (dk_t 6 32 [42, 180, 0, 9, 27, 28] dwX11_value_26 rfl rfl)
theorem dX11_value_33 : decode cX11_value 33 = .ok (.getfield 9, 3) := dko_180 (dk_t 7 33 [180, 0, 9, 27, 28] dwX11_value_26 rfl rfl)
theorem dX11_value_36 : decode cX11_value 36 = .ok (.iload_n 1, 1) := dko_27 (dk_t 10 36 [27, 28] dwX11_value_26 rfl rfl)
theorem dX11_value_37 : decode cX11_value 37 = .ok (.iload_n 2, 1) := dko_28 (dk_t 11 37 [28] dwX11_value_26 rfl rfl)
theorem dwX11_value_38 : dkW cX11_value 38 [184, 0, 156, 4, 96, 29, 96, 46, 167, 0, 4, 3, 172] = true := by decide +kernel
theorem dX11_value_38 : decode cX11_value 38 = .ok (.invokestatic 156, 3) := dko_184 dwX11_value_38
theorem dX11_value_41 : decode cX11_value 41 = .ok (.iconst 1, 1) := dko_4 (dk_t 3 41 [4, 96, 29, 96, 46, 167, 0, 4, 3, 172] dwX11_value_38 rfl rfl)
theorem dX11_value_42 : decode cX11_value 42 = .ok (.iadd, 1) := dko_96 (dk_t 4 42 [96, 29, 96, 46, 167, 0, 4, 3, 172] dwX11_value_38 rfl rfl)
theorem dX11_value_43 : decode cX11_value 43 = .ok (.iload_n 3, 1) := dko_29 (dk_t 5 43 [29, 96, 46, 167, 0, 4, 3, 172] dwX11_value_38 rfl rfl)
theorem dX11_value_44 : decode cX11_value 44 = .ok (.iadd, 1) := dko_96 (dk_t 6 44 [96, 46, 167, 0, 4, 3, 172] dwX11_value_38 rfl rfl)
theorem dX11_value_45 : decode cX11_value 45 = .ok (.iaload, 1) := dko_46 (dk_t 7 45 [46, 167, 0, 4, 3, 172] dwX11_value_38 rfl rfl)
theorem dX11_value_46 : decode cX11_value 46 = .ok (.goto 4, 3) := dko_167 (dk_t 8 46 [167, 0, 4, 3, 172] dwX11_value_38 rfl rfl)
theorem dX11_value_49 : decode cX11_value 49 = .ok (.iconst 0, 1) := dko_3 (dk_t 11 49 [3, 172] dwX11_value_38 rfl rfl)
theorem dX11_value_50 : decode cX11_value 50 = .ok (.ireturn, 1) := dko_172 (dk_t 12 50 [172] dwX11_value_38 rfl rfl)
theorem dwX11_rows_0 : dkW cX11_rows 0 [42, 3, 181, 0, 134, 27, 184, 0, 149, 153, 0, 13, 28, 133] = true := by decide +kernel
theorem dX11_rows_0 : decode cX11_rows 0 = .ok (.aload_n 0, 1) := dko_42 dwX11_rows_0
theorem dX11_rows_1 : decode cX11_rows 1 = .ok (.iconst 0, 1) := dko_3 (dk_t 1 1 [3, 181, 0, 134, 27, 184, 0, 149, 153, 0, 13, 28, 133] dwX11_rows_0 rfl rfl)
theorem dX11_rows_2 : decode cX11_rows 2 = .ok (.putfield 134, 3) := dko_181 (dk_t 2 2 [181, 0, 134, 27, 184, 0, 149, 153, 0, 13, 28, 133] dwX11_rows_0 rfl rfl)
theorem dX11_rows_5 : decode cX11_rows 5 = .ok (.iload_n 1, 1) := dko_27 (dk_t 5 5 [27, 184, 0, 149, 153, 0, 13, 28, 133] dwX11_rows_0 rfl rfl)
theorem dX11_rows_6 : decode cX11_rows 6 = .ok (.invokestatic 149, 3) := dko_184 (dk_t 6 6 [184, 0, 149, 153, 0, 13, 28, 133] dwX11_rows_0 rfl rfl)
theorem dX11_rows_9 : decode cX11_rows 9 = .ok (.ifCond .eq 13, 3) := dko_153 (dk_t 9 9 [153, 0, 13, 28, 133] dwX11_rows_0 rfl rfl)
theorem dX11_rows_12 : decode cX11_rows 12 = .ok (.iload_n 2, 1) := dko_28 (dk_t 12 12 [28, 133] dwX11_rows_0 rfl rfl)
theorem dX11_rows_13 : decode cX11_rows 13 = .ok (.i2l, 1) := dko_133 (dk_t 13 13 [133] dwX11_rows_0 rfl rfl)
theorem dwX11_rows_14 : dkW cX11_rows 14 [9, 10, 184, 0, 139, 154, 0, 5, 2, 172, 3, 62, 3] = true := by decide +kernel
theorem dX11_rows_14 : decode cX11_rows 14 = .ok (.lconst 0, 1) := dko_9 dwX11_rows_14
theorem dX11_rows_15 : decode cX11_rows 15 = .ok (.lconst 1, 1) := dko_10 (dk_t 1 15 [10, 184, 0, 139, 154, 0, 5, 2, 172, 3, 62, 3] dwX11_rows_14 rfl rfl)
theorem dX11_rows_16 : decode cX11_rows 16 = .ok (.invokestatic 139, 3) := dko_184 (dk_t 2 16 [184, 0, 139, 154, 0, 5, 2, 172, 3, 62, 3] dwX11_rows_14 rfl rfl)
theorem dX11_rows_19 : decode cX11_rows 19 = .ok (.ifCond .ne 5, 3) := dko_154 (dk_t 5 19 [154, 0, 5, 2, 172, 3, 62, 3] dwX11_rows_14 rfl rfl)
theorem dX11_rows_22 : decode cX11_rows 22 = .ok (.iconst (-1), 1) := dko_2 (dk_t 8 22 [2, 172, 3, 62, 3] dwX11_rows_14 rfl rfl)
theorem dX11_rows_23 : decode cX11_rows 23 = .ok (.ireturn, 1) := dko_172 (dk_t 9 23 [172, 3, 62, 3] dwX11_rows_14 rfl rfl)
theorem dX11_rows_24 : decode cX11_rows 24 = .ok (.iconst 0, 1) := dko_3 (dk_t 10 24 [3, 62, 3] dwX11_rows_14 rfl rfl)
theorem dX11_rows_25 : decode cX11_rows 25 = .ok (.istore_n 3, 1) := dko_62 (dk_t 11 25 [62, 3] dwX11_rows_14 rfl rfl)
theorem dX11_rows_26 : decode cX11_rows 26 = .ok (.iconst 0, 1) := dko_3 (dk_t 12 26 [3] dwX11_rows_14 rfl rfl)
theorem dwX11_rows_27 : dkW cX11_rows 27 [54, 4, 3, 54, 5, 21, 5, 16, 30, 162, 0, 42, 29, 42] = true := by decide +kernel
theorem dX11_rows_27 : decode cX11_rows 27 = .ok (.istore 4, 2) := dko_54 dwX11_rows_27
theorem dX11_rows_29 : decode cX11_rows 29 = .ok (.iconst 0, 1) := dko_3 (dk_t 2 29 [3, 54, 5, 21, 5, 16, 30, 162, 0, 42, 29, 42] dwX11_rows_27 rfl rfl)
theorem dX11_rows_30 : decode cX11_rows 30 = .ok (.istore 5, 2) := dko_54 (dk_t 3 30 [54, 5, 21, 5, 16, 30, 162, 0, 42, 29, 42] dwX11_rows_27 rfl rfl)
theorem dX11_rows_32 : decode cX11_rows 32 = .ok (.iload 5, 2) := dko_21 (dk_t 5 32 [21, 5, 16, 30, 162, 0, 42, 29, 42] dwX11_rows_27 rfl rfl)
theorem dX11_rows_34 : decode cX11_rows 34 = .ok (.bipush 30, 2) := dko_16 (dk_t 7 34 [16, 30, 162, 0, 42, 29, 42] dwX11_rows_27 rfl rfl)
theorem dX11_rows_36 : decode cX11_rows 36 = .ok (.if_icmp .ge 42, 3) := dko_162 (dk_t 9 36 [162, 0, 42, 29, 42] dwX11_rows_27 rfl rfl)
theorem dX11_rows_39 : decode cX11_rows 39 = .ok (.iload_n 3, 1) := dko_29 (dk_t 12 39 [29, 42] dwX11_rows_27 rfl rfl)
theorem dX11_rows_40 : decode cX11_rows 40 = .ok (.aload_n 0, 1) := dko_42 (dk_t 13 40 [42] dwX11_rows_27 rfl rfl)
theorem dwX11_rows_41 : dkW cX11_rows 41 [180, 0, 9, 27, 21, 5, 184, 0, 156, 46, 96, 62, 21, 4] = true := by decide +kernel
theorem dX11_rows_41 : decode cX11_rows 41 = .ok (.getfield 9, 3) := dko_180 dwX11_rows_41
theorem dX11_rows_44 : decode cX11_rows 44 = .ok (.iload_n 1, 1) := dko_27 (dk_t 3 44 [27, 21, 5, 184, 0, 156, 46, 96, 62, 21, 4] dwX11_rows_41 rfl rfl)
theorem dX11_rows_45 : decode cX11_rows 45 = .ok (.iload 5, 2) := dko_21 (dk_t 4 45 [21, 5, 184, 0, 156, 46, 96, 62, 21, 4] dwX11_rows_41 rfl rfl)
theorem dX11_rows_47 : decode cX11_rows 47 = .ok (.invokestatic 156, 3) := dko_184 (dk_t 6 47 [184, 0, 156, 46, 96, 62, 21, 4] dwX11_rows_41 rfl rfl)
theorem dX11_rows_50 : decode cX11_rows 50 = .ok (.iaload, 1) := dko_46 (dk_t 9 50 [46, 96, 62, 21, 4] dwX11_rows_41 rfl rfl)
theorem dX11_rows_51 : decode cX11_rows 51 = .ok (.iadd, 1) := dko_96 (dk_t 10 51 [96, 62, 21, 4] dwX11_rows_41 rfl rfl)
theorem dX11_rows_52 : decode cX11_rows 52 = .ok (.istore_n 3, 1) := dko_62 (dk_t 11 52 [62, 21, 4] dwX11_rows_41 rfl rfl)
theorem dX11_rows_53 : decode cX11_rows 53 = .ok (.iload 4, 2) := dko_21 (dk_t 12 53 [21, 4] dwX11_rows_41 rfl rfl)
theorem dwX11_rows_55 : dkW cX11_rows 55 [42, 180, 0, 9, 27, 21, 5, 184, 0, 156, 46, 21, 5, 120] = true := by decide +kernel
theorem dX11_rows_55 : decode cX11_rows 55 = .ok (.aload_n 0, 1) := dko_42 dwX11_rows_55
theorem dX11_rows_56 : decode cX11_rows 56 = .ok (.getfield 9, 3) := dko_180 (dk_t 1 56 [180, 0, 9, 27, 21, 5, 184, 0, 156, 46, 21, 5, 120] dwX11_rows_55 rfl rfl)
theorem dX11_rows_59 : decode cX11_rows 59 = .ok (.iload_n 1, 1) := dko_27 (dk_t 4 59 [27, 21, 5, 184, 0, 156, 46, 21, 5, 120] dwX11_rows_55 rfl rfl)
theorem dX11_rows_60 : decode cX11_rows 60 = .ok (.iload 5, 2) := dko_21 (dk_t 5 60 [21, 5, 184, 0, 156, 46, 21, 5, 120] dwX11_rows_55 rfl rfl)
theorem dX11_rows_62 : decode cX11_rows 62 = .ok (.invokestatic 156, 3) := dko_184 (dk_t 7 62 [184, 0, 156, 46, 21, 5, 120] dwX11_rows_55 rfl rfl)
theorem dX11_rows_65 : decode cX11_rows 65 = .ok (.iaload, 1) := dko_46 (dk_t 10 65 [46, 21, 5, 120] dwX11_rows_55 rfl rfl)
theorem dX11_rows_66 : decode cX11_rows 66 = .ok (.iload 5, 2) := dko_21 (dk_t 11 66 [21, 5, 120] dwX11_rows_55 rfl rfl)
theorem dX11_rows_68 : decode cX11_rows 68 = .ok (.ishl, 1) := dko_120 (dk_t 13 68 [120] dwX11_rows_55 rfl rfl)
theorem dwX11_rows_69 : dkW cX11_rows 69 [128, 54, 4, 132, 5, 1, 167, 255, 213, 28, 154, 0, 7, 29] = true := by decide +kernel
theorem dX11_rows_69 : decode cX11_rows 69 = .ok (.ior, 1) := dko_128 dwX11_rows_69
theorem dX11_rows_70 : decode cX11_rows 70 = .ok (.istore 4, 2) := dko_54 (dk_t 1 70 [54, 4, 132, 5, 1, 167, 255, 213, 28, 154, 0, 7, 29] dwX11_rows_69 rfl rfl)
theorem dX11_rows_72 : decode cX11_rows 72 = .ok (.iinc 5 1, 3) := dko_132 (dk_t 3 72 [132, 5, 1, 167, 255, 213, 28, 154, 0, 7, 29] dwX11_rows_69 rfl rfl)
theorem dX11_rows_75 : decode cX11_rows 75 = .ok (.goto (-43), 3) := dko_167 (dk_t 6 75 [167, 255, 213, 28, 154, 0, 7, 29] dwX11_rows_69 rfl rfl)
theorem dX11_rows_78 : decode cX11_rows 78 = .ok (.iload_n 2, 1) := dko_28 (dk_t 9 78 [28, 154, 0, 7, 29] dwX11_rows_69 rfl rfl)
theorem dX11_rows_79 : decode cX11_rows 79 = .ok (.ifCond .ne 7, 3) := dko_154 (dk_t 10 79 [154, 0, 7, 29] dwX11_rows_69 rfl rfl)
theorem dX11_rows_82 : decode cX11_rows 82 = .ok (.iload_n 3, 1) := dko_29 (dk_t 13 82 [29] dwX11_rows_69 rfl rfl)
theorem dwX11_rows_83 : dkW cX11_rows 83 [167, 0, 5, 21, 4, 172] = true := by decide +kernel
theorem dX11_rows_83 : decode cX11_rows 83 = .ok (.goto 5, 3) := dko_167 dwX11_rows_83
theorem dX11_rows_86 : decode cX11_rows 86 = .ok (.iload 4, 2) := dko_21 (dk_t 3 86 [21, 4, 172] dwX11_rows_83 rfl rfl)
theorem dX11_rows_88 : decode cX11_rows 88 = .ok (.ireturn, 1) := dko_172 (dk_t 5 88 [172] dwX11_rows_83 rfl rfl)
theorem dwX11_told_0 : dkW cX11_told 0 [42, 3, 181, 0, 134, 42, 27, 182, 0, 162, 153, 0, 15, 28] = true := by decide +kernel
theorem dX11_told_0 : decode cX11_told 0 = .ok (.aload_n 0, 1) := dko_42 dwX11_told_0
theorem dX11_told_1 : decode cX11_told 1 = .ok (.iconst 0, 1) := dko_3 (dk_t 1 1 [3, 181, 0, 134, 42, 27, 182, 0, 162, 153, 0, 15, 28] dwX11_told_0 rfl rfl)
theorem dX11_told_2 : decode cX11_told 2 = .ok (.putfield 134, 3) := dko_181 (dk_t 2 2 [181, 0, 134, 42, 27, 182, 0, 162, 153, 0, 15, 28] dwX11_told_0 rfl rfl)
theorem dX11_told_5 : decode cX11_told 5 = .ok (.aload_n 0, 1) := dko_42 (dk_t 5 5 [42, 27, 182, 0, 162, 153, 0, 15, 28] dwX11_told_0 rfl rfl)
theorem dX11_told_6 : decode cX11_told 6 = .ok (.iload_n 1, 1) := dko_27 (dk_t 6 6 [27, 182, 0, 162, 153, 0, 15, 28] dwX11_told_0 rfl rfl)
theorem dX11_told_7 : decode cX11_told 7 = .ok (.invokevirtual 162, 3) := dko_182 (dk_t 7 7 [182, 0, 162, 153, 0, 15, 28] dwX11_told_0 rfl rfl)
theorem dX11_told_10 : decode cX11_told 10 = .ok (.ifCond .eq 15, 3) := dko_153 (dk_t 10 10 [153, 0, 15, 28] dwX11_told_0 rfl rfl)
theorem dX11_told_13 : decode cX11_told 13 = .ok (.iload_n 2, 1) := dko_28 (dk_t 13 13 [28] dwX11_told_0 rfl rfl)
theorem dwX11_told_14 : dkW cX11_told 14 [133, 9, 20, 1, 129, 184, 0, 139, 154, 0, 8, 18, 57] = true := by decide +kernel
theorem dX11_told_14 : decode cX11_told 14 = .ok (.i2l, 1) := dko_133 dwX11_told_14
theorem dX11_told_15 : decode cX11_told 15 = .ok (.lconst 0, 1) := dko_9 (dk_t 1 15 [9, 20, 1, 129, 184, 0, 139, 154, 0, 8, 18, 57] dwX11_told_14 rfl rfl)
theorem dX11_told_16 : decode cX11_told 16 = .ok (.ldc2_w 385, 3) := dko_20 (dk_t 2 16 [20, 1, 129, 184, 0, 139, 154, 0, 8, 18, 57] dwX11_told_14 rfl rfl)
theorem dX11_told_19 : decode cX11_told 19 = .ok (.invokestatic 139, 3) := dko_184 (dk_t 5 19 [184, 0, 139, 154, 0, 8, 18, 57] dwX11_told_14 rfl rfl)
theorem dX11_told_22 : decode cX11_told 22 = .ok (.ifCond .ne 8, 3) := dko_154 (dk_t 8 22 [154, 0, 8, 18, 57] dwX11_told_14 rfl rfl)
theorem dX11_told_25 : decode cX11_told 25 = .ok (.ldc 57, 2) := dko_18 (dk_t 11 25 [18, 57] dwX11_told_14 rfl rfl)
theorem dwX11_told_27 : dkW cX11_told 27 [167, 0, 23, 28, 16, 9, 160, 0, 11, 42, 27, 182, 1, 50] = true := by decide +kernel
theorem dX11_told_27 : decode cX11_told 27 = .ok (.goto 23, 3) := dko_167 dwX11_told_27
theorem dX11_told_30 : decode cX11_told 30 = .ok (.iload_n 2, 1) := dko_28 (dk_t 3 30 [28, 16, 9, 160, 0, 11, 42, 27, 182, 1, 50] dwX11_told_27 rfl rfl)
theorem dX11_told_31 : decode cX11_told 31 = .ok (.bipush 9, 2) := dko_16 (dk_t 4 31 [16, 9, 160, 0, 11, 42, 27, 182, 1, 50] dwX11_told_27 rfl rfl)
theorem dX11_told_33 : decode cX11_told 33 = .ok (.if_icmp .ne 11, 3) := dko_160 (dk_t 6 33 [160, 0, 11, 42, 27, 182, 1, 50] dwX11_told_27 rfl rfl)
theorem dX11_told_36 : decode cX11_told 36 = .ok (.aload_n 0, 1) := dko_42 (dk_t 9 36 [42, 27, 182, 1, 50] dwX11_told_27 rfl rfl)
theorem dX11_told_37 : decode cX11_told 37 = .ok (.iload_n 1, 1) := dko_27 (dk_t 10 37 [27, 182, 1, 50] dwX11_told_27 rfl rfl)
theorem dX11_told_38 : decode cX11_told 38 = .ok (.invokevirtual 306, 3) := dko_182 (dk_t 11 38 [182, 1, 50] dwX11_told_27 rfl rfl)
theorem dwX11_told_41 : dkW cX11_told 41 [167, 0, 9, 42, 27, 28, 182, 0, 165, 172] = true := by decide +kernel
theorem dX11_told_41 : decode cX11_told 41 = .ok (.goto 9, 3) := dko_167 dwX11_told_41
theorem dX11_told_44 : decode cX11_told 44 = .ok (.aload_n 0, 1) := dko_42 (dk_t 3 44 [42, 27, 28, 182, 0, 165, 172] dwX11_told_41 rfl rfl)
theorem dX11_told_45 : decode cX11_told 45 = .ok (.iload_n 1, 1) := dko_27 (dk_t 4 45 [27, 28, 182, 0, 165, 172] dwX11_told_41 rfl rfl)
theorem dX11_told_46 : decode cX11_told 46 = .ok (.iload_n 2, 1) := dko_28 (dk_t 5 46 [28, 182, 0, 165, 172] dwX11_told_41 rfl rfl)
theorem dX11_told_47 : decode cX11_told 47 = .ok (.invokevirtual 165, 3) := dko_182 (dk_t 6 47 [182, 0, 165, 172] dwX11_told_41 rfl rfl)
theorem dX11_told_50 : decode cX11_told 50 = .ok (.ireturn, 1) := dko_172 (dk_t 9 50 [172] dwX11_told_41 rfl rfl)
theorem dwX11_queue_0 : dkW cX11_queue 0 [42, 182, 0, 218, 42, 27, 133, 9, 42, 180, 0, 203, 133, 10] = true := by decide +kernel
theorem dX11_queue_0 : decode cX11_queue 0 = .ok (.aload_n 0, 1) := dko_42 dwX11_queue_0
theorem dX11_queue_1 : decode cX11_queue 1 = .ok (.invokevirtual 218, 3) := dko_182 (dk_t 1 1 [182, 0, 218, 42, 27, 133, 9, 42, 180, 0, 203, 133, 10] dwX11_queue_0 rfl rfl)
theorem dX11_queue_4 : decode cX11_queue 4 = .ok (.aload_n 0, 1) := dko_42 (dk_t 4 4 [42, 27, 133, 9, 42, 180, 0, 203, 133, 10] dwX11_queue_0 rfl rfl)
theorem dX11_queue_5 : decode cX11_queue 5 = .ok (.iload_n 1, 1) := dko_27 (dk_t 5 5 [27, 133, 9, 42, 180, 0, 203, 133, 10] dwX11_queue_0 rfl rfl)
theorem dX11_queue_6 : decode cX11_queue 6 = .ok (.i2l, 1) := dko_133 (dk_t 6 6 [133, 9, 42, 180, 0, 203, 133, 10] dwX11_queue_0 rfl rfl)
theorem dX11_queue_7 : decode cX11_queue 7 = .ok (.lconst 0, 1) := dko_9 (dk_t 7 7 [9, 42, 180, 0, 203, 133, 10] dwX11_queue_0 rfl rfl)
theorem dX11_queue_8 : decode cX11_queue 8 = .ok (.aload_n 0, 1) := dko_42 (dk_t 8 8 [42, 180, 0, 203, 133, 10] dwX11_queue_0 rfl rfl)
theorem dX11_queue_9 : decode cX11_queue 9 = .ok (.getfield 203, 3) := dko_180 (dk_t 9 9 [180, 0, 203, 133, 10] dwX11_queue_0 rfl rfl)
theorem dX11_queue_12 : decode cX11_queue 12 = .ok (.i2l, 1) := dko_133 (dk_t 12 12 [133, 10] dwX11_queue_0 rfl rfl)
theorem dX11_queue_13 : decode cX11_queue 13 = .ok (.lconst 1, 1) := dko_10 (dk_t 13 13 [10] dwX11_queue_0 rfl rfl)
theorem dwX11_queue_14 : dkW cX11_queue 14 [101, 184, 0, 139, 153, 0, 7, 3, 167, 0, 4, 4] = true := by decide +kernel
theorem dX11_queue_14 : decode cX11_queue 14 = .ok (.lsub, 1) := dko_101 dwX11_queue_14
theorem dX11_queue_15 : decode cX11_queue 15 = .ok (.invokestatic 139, 3) := dko_184 (dk_t 1 15 [184, 0, 139, 153, 0, 7, 3, 167, 0, 4, 4] dwX11_queue_14 rfl rfl)
theorem dX11_queue_18 : decode cX11_queue 18 = .ok (.ifCond .eq 7, 3) := dko_153 (dk_t 4 18 [153, 0, 7, 3, 167, 0, 4, 4] dwX11_queue_14 rfl rfl)
theorem dX11_queue_21 : decode cX11_queue 21 = .ok (.iconst 0, 1) := dko_3 (dk_t 7 21 [3, 167, 0, 4, 4] dwX11_queue_14 rfl rfl)
theorem dX11_queue_22 : decode cX11_queue 22 = .ok (.goto 4, 3) := dko_167 (dk_t 8 22 [167, 0, 4, 4] dwX11_queue_14 rfl rfl)
theorem dX11_queue_25 : decode cX11_queue 25 = .ok (.iconst 1, 1) := dko_4 (dk_t 11 25 [4] dwX11_queue_14 rfl rfl)
theorem dwX11_queue_26 : dkW cX11_queue 26 [181, 0, 134, 42, 180, 0, 134, 4, 160, 0, 5, 3, 172, 42] = true := by decide +kernel
theorem dX11_queue_26 : decode cX11_queue 26 = .ok (.putfield 134, 3) := dko_181 dwX11_queue_26
theorem dX11_queue_29 : decode cX11_queue 29 = .ok (.aload_n 0, 1) := dko_42 (dk_t 3 29 [42, 180, 0, 134, 4, 160, 0, 5, 3, 172, 42] dwX11_queue_26 rfl rfl)
theorem dX11_queue_30 : decode cX11_queue 30 = .ok (.getfield 134, 3) := dko_180 (dk_t 4 30 [180, 0, 134, 4, 160, 0, 5, 3, 172, 42] dwX11_queue_26 rfl rfl)
theorem dX11_queue_33 : decode cX11_queue 33 = .ok (.iconst 1, 1) := dko_4 (dk_t 7 33 [4, 160, 0, 5, 3, 172, 42] dwX11_queue_26 rfl rfl)
theorem dX11_queue_34 : decode cX11_queue 34 = .ok (.if_icmp .ne 5, 3) := dko_160 (dk_t 8 34 [160, 0, 5, 3, 172, 42] dwX11_queue_26 rfl rfl)
theorem dX11_queue_37 : decode cX11_queue 37 = .ok (.iconst 0, 1) := dko_3 (dk_t 11 37 [3, 172, 42] dwX11_queue_26 rfl rfl)
theorem dX11_queue_38 : decode cX11_queue 38 = .ok (.ireturn, 1) := dko_172 (dk_t 12 38 [172, 42] dwX11_queue_26 rfl rfl)
theorem dX11_queue_39 : decode cX11_queue 39 = .ok (.aload_n 0, 1) := dko_42 (dk_t 13 39 [42] dwX11_queue_26 rfl rfl)
theorem dwX11_queue_40 : dkW cX11_queue 40 [180, 0, 51, 27, 46, 42, 180, 0, 54, 27, 46, 184, 0, 186] = true := by decide +kernel
theorem dX11_queue_40 : decode cX11_queue 40 = .ok (.getfield 51, 3) := dko_180 dwX11_queue_40
theorem dX11_queue_43 : decode cX11_queue 43 = .ok (.iload_n 1, 1) := dko_27 (dk_t 3 43 [27, 46, 42, 180, 0, 54, 27, 46, 184, 0, 186] dwX11_queue_40 rfl rfl)
theorem dX11_queue_44 : decode cX11_queue 44 = .ok (.iaload, 1) := dko_46 (dk_t 4 44 [46, 42, 180, 0, 54, 27, 46, 184, 0, 186] dwX11_queue_40 rfl rfl)
theorem dX11_queue_45 : decode cX11_queue 45 = .ok (.aload_n 0, 1) := dko_42 (dk_t 5 45 [42, 180, 0, 54, 27, 46, 184, 0, 186] dwX11_queue_40 rfl rfl)
theorem dX11_queue_46 : decode cX11_queue 46 = .ok (.getfield 54, 3) := dko_180 (dk_t 6 46 [180, 0, 54, 27, 46, 184, 0, 186] dwX11_queue_40 rfl rfl)
theorem dX11_queue_49 : decode cX11_queue 49 = .ok (.iload_n 1, 1) := dko_27 (dk_t 9 49 [27, 46, 184, 0, 186] dwX11_queue_40 rfl rfl)
theorem dX11_queue_50 : decode cX11_queue 50 = .ok (.iaload, 1) := dko_46 (dk_t 10 50 [46, 184, 0, 186] dwX11_queue_40 rfl rfl)
theorem dX11_queue_51 : decode cX11_queue 51 = .ok (.invokestatic 186, 3) := dko_184 (dk_t 11 51 [184, 0, 186] dwX11_queue_40 rfl rfl)
theorem dwX11_queue_54 : dkW cX11_queue 54 [62, 28] = true := by decide +kernel
theorem dX11_queue_54 : decode cX11_queue 54 = .ok (.istore_n 3, 1) := dko_62 dwX11_queue_54
theorem dX11_queue_55 : decode cX11_queue 55 = .ok (.iload_n 2, 1) := dko_28 (dk_t 1 55 [28] dwX11_queue_54 rfl rfl)
theorem dX11_queue_56 : decode cX11_queue 56 = .ok (.tableswitch 94 0 4 #[36, 43, 50, 57, 64], 36) := by decide +kernel
theorem dwX11_queue_92 : dkW cX11_queue 92 [42, 180, 0, 51, 27, 46, 172, 42, 180, 0, 54, 27, 46, 172] = true := by decide +kernel
theorem dX11_queue_92 : decode cX11_queue 92 = .ok (.aload_n 0, 1) := dko_42 dwX11_queue_92
theorem dX11_queue_93 : decode cX11_queue 93 = .ok (.getfield 51, 3) := dko_180 (dk_t 1 93 [180, 0, 51, 27, 46, 172, 42, 180, 0, 54, 27, 46, 172] dwX11_queue_92 rfl rfl)
theorem dX11_queue_96 : decode cX11_queue 96 = .ok (.iload_n 1, 1) := dko_27 (dk_t 4 96 [27, 46, 172, 42, 180, 0, 54, 27, 46, 172] dwX11_queue_92 rfl rfl)
theorem dX11_queue_97 : decode cX11_queue 97 = .ok (.iaload, 1) := dko_46 (dk_t 5 97 [46, 172, 42, 180, 0, 54, 27, 46, 172] dwX11_queue_92 rfl rfl)
theorem dX11_queue_98 : decode cX11_queue 98 = .ok (.ireturn, 1) := dko_172 (dk_t 6 98 [172, 42, 180, 0, 54, 27, 46, 172] dwX11_queue_92 rfl rfl)
theorem dX11_queue_99 : decode cX11_queue 99 = .ok (.aload_n 0, 1) := dko_42 (dk_t 7 99 [42, 180, 0, 54, 27, 46, 172] dwX11_queue_92 rfl rfl)
theorem dX11_queue_100 : decode cX11_queue 100 = .ok (.getfield 54, 3) := dko_180 (dk_t 8 100 [180, 0, 54, 27, 46, 172] dwX11_queue_92 rfl rfl)
theorem dX11_queue_103 : decode cX11_queue 103 = .ok (.iload_n 1, 1) := dko_27 (dk_t 11 103 [27, 46, 172] dwX11_queue_92 rfl rfl)
theorem dX11_queue_104 : decode cX11_queue 104 = .ok (.iaload, 1) := dko_46 (dk_t 12 104 [46, 172] dwX11_queue_92 rfl rfl)
theorem dX11_queue_105 : decode cX11_queue 105 = .ok (.ireturn, 1) := dko_172 (dk_t 13 105 [172] dwX11_queue_92 rfl rfl)
theorem dwX11_queue_106 : dkW cX11_queue 106 [42, 180, 0, 42, 29, 46, 172, 42, 180, 0, 36, 29, 46, 172] = true := by decide +kernel
theorem dX11_queue_106 : decode cX11_queue 106 = .ok (.aload_n 0, 1) := dko_42 dwX11_queue_106
theorem dX11_queue_107 : decode cX11_queue 107 = .ok (.getfield 42, 3) := dko_180 (dk_t 1 107 [180, 0, 42, 29, 46, 172, 42, 180, 0, 36, 29, 46, 172] dwX11_queue_106 rfl rfl)
theorem dX11_queue_110 : decode cX11_queue 110 = .ok (.iload_n 3, 1) := dko_29 (dk_t 4 110 [29, 46, 172, 42, 180, 0, 36, 29, 46, 172] dwX11_queue_106 rfl rfl)
theorem dX11_queue_111 : decode cX11_queue 111 = .ok (.iaload, 1) := dko_46 (dk_t 5 111 [46, 172, 42, 180, 0, 36, 29, 46, 172] dwX11_queue_106 rfl rfl)
theorem dX11_queue_112 : decode cX11_queue 112 = .ok (.ireturn, 1) := dko_172 (dk_t 6 112 [172, 42, 180, 0, 36, 29, 46, 172] dwX11_queue_106 rfl rfl)
theorem dX11_queue_113 : decode cX11_queue 113 = .ok (.aload_n 0, 1) := dko_42 (dk_t 7 113 [42, 180, 0, 36, 29, 46, 172] dwX11_queue_106 rfl rfl)
theorem dX11_queue_114 : decode cX11_queue 114 = .ok (.getfield 36, 3) := dko_180 (dk_t 8 114 [180, 0, 36, 29, 46, 172] dwX11_queue_106 rfl rfl)
theorem dX11_queue_117 : decode cX11_queue 117 = .ok (.iload_n 3, 1) := dko_29 (dk_t 11 117 [29, 46, 172] dwX11_queue_106 rfl rfl)
theorem dX11_queue_118 : decode cX11_queue 118 = .ok (.iaload, 1) := dko_46 (dk_t 12 118 [46, 172] dwX11_queue_106 rfl rfl)
theorem dX11_queue_119 : decode cX11_queue 119 = .ok (.ireturn, 1) := dko_172 (dk_t 13 119 [172] dwX11_queue_106 rfl rfl)
theorem dwX11_queue_120 : dkW cX11_queue 120 [42, 42, 180, 0, 51, 27, 46, 42, 180, 0, 54, 27, 46, 42] = true := by decide +kernel
theorem dX11_queue_120 : decode cX11_queue 120 = .ok (.aload_n 0, 1) := dko_42 dwX11_queue_120
theorem dX11_queue_121 : decode cX11_queue 121 = .ok (.aload_n 0, 1) := dko_42 (dk_t 1 121 [42, 180, 0, 51, 27, 46, 42, 180, 0, 54, 27, 46, 42] dwX11_queue_120 rfl rfl)
theorem dX11_queue_122 : decode cX11_queue 122 = .ok (.getfield 51, 3) := dko_180 (dk_t 2 122 [180, 0, 51, 27, 46, 42, 180, 0, 54, 27, 46, 42] dwX11_queue_120 rfl rfl)
theorem dX11_queue_125 : decode cX11_queue 125 = .ok (.iload_n 1, 1) := dko_27 (dk_t 5 125 [27, 46, 42, 180, 0, 54, 27, 46, 42] dwX11_queue_120 rfl rfl)
theorem dX11_queue_126 : decode cX11_queue 126 = .ok (.iaload, 1) := dko_46 (dk_t 6 126 [46, 42, 180, 0, 54, 27, 46, 42] dwX11_queue_120 rfl rfl)
theorem dX11_queue_127 : decode cX11_queue 127 = .ok (.aload_n 0, 1) := dko_42 (dk_t 7 127 [42, 180, 0, 54, 27, 46, 42] dwX11_queue_120 rfl rfl)
theorem dX11_queue_128 : decode cX11_queue 128 = .ok (.getfield 54, 3) := dko_180 (dk_t 8 128 [180, 0, 54, 27, 46, 42] dwX11_queue_120 rfl rfl)
theorem dX11_queue_131 : decode cX11_queue 131 = .ok (.iload_n 1, 1) := dko_27 (dk_t 11 131 [27, 46, 42] dwX11_queue_120 rfl rfl)
theorem dX11_queue_132 : decode cX11_queue 132 = .ok (.iaload, 1) := dko_46 (dk_t 12 132 [46, 42] dwX11_queue_120 rfl rfl)
theorem dX11_queue_133 : decode cX11_queue 133 = .ok (.aload_n 0, 1) := dko_42 (dk_t 13 133 [42] dwX11_queue_120 rfl rfl)
theorem dwX11_queue_134 : dkW cX11_queue 134 [180, 0, 9, 3, 182, 0, 221, 153, 0, 7, 4, 167, 0, 4] = true := by decide +kernel
theorem dX11_queue_134 : decode cX11_queue 134 = .ok (.getfield 9, 3) := dko_180 dwX11_queue_134
theorem dX11_queue_137 : decode cX11_queue 137 = .ok (.iconst 0, 1) := dko_3 (dk_t 3 137 [3, 182, 0, 221, 153, 0, 7, 4, 167, 0, 4] dwX11_queue_134 rfl rfl)
theorem dX11_queue_138 : decode cX11_queue 138 = .ok (.invokevirtual 221, 3) := dko_182 (dk_t 4 138 [182, 0, 221, 153, 0, 7, 4, 167, 0, 4] dwX11_queue_134 rfl rfl)
theorem dX11_queue_141 : decode cX11_queue 141 = .ok (.ifCond .eq 7, 3) := dko_153 (dk_t 7 141 [153, 0, 7, 4, 167, 0, 4] dwX11_queue_134 rfl rfl)
theorem dX11_queue_144 : decode cX11_queue 144 = .ok (.iconst 1, 1) := dko_4 (dk_t 10 144 [4, 167, 0, 4] dwX11_queue_134 rfl rfl)
theorem dX11_queue_145 : decode cX11_queue 145 = .ok (.goto 4, 3) := dko_167 (dk_t 11 145 [167, 0, 4] dwX11_queue_134 rfl rfl)
theorem dwX11_queue_148 : dkW cX11_queue 148 [3, 172, 18, 57, 172] = true := by decide +kernel
theorem dX11_queue_148 : decode cX11_queue 148 = .ok (.iconst 0, 1) := dko_3 dwX11_queue_148
theorem dX11_queue_149 : decode cX11_queue 149 = .ok (.ireturn, 1) := dko_172 (dk_t 1 149 [172, 18, 57, 172] dwX11_queue_148 rfl rfl)
theorem dX11_queue_150 : decode cX11_queue 150 = .ok (.ldc 57, 2) := dko_18 (dk_t 2 150 [18, 57, 172] dwX11_queue_148 rfl rfl)
theorem dX11_queue_152 : decode cX11_queue 152 = .ok (.ireturn, 1) := dko_172 (dk_t 4 152 [172] dwX11_queue_148 rfl rfl)
theorem dwX11_group_0 : dkW cX11_group 0 [42, 3, 181, 0, 134, 27, 2, 161, 0, 13, 28, 133, 9, 10] = true := by decide +kernel
theorem dX11_group_0 : decode cX11_group 0 = .ok (.aload_n 0, 1) := dko_42 dwX11_group_0
theorem dX11_group_1 : decode cX11_group 1 = .ok (.iconst 0, 1) := dko_3 (dk_t 1 1 [3, 181, 0, 134, 27, 2, 161, 0, 13, 28, 133, 9, 10] dwX11_group_0 rfl rfl)
theorem dX11_group_2 : decode cX11_group 2 = .ok (.putfield 134, 3) := dko_181 (dk_t 2 2 [181, 0, 134, 27, 2, 161, 0, 13, 28, 133, 9, 10] dwX11_group_0 rfl rfl)
theorem dX11_group_5 : decode cX11_group 5 = .ok (.iload_n 1, 1) := dko_27 (dk_t 5 5 [27, 2, 161, 0, 13, 28, 133, 9, 10] dwX11_group_0 rfl rfl)
theorem dX11_group_6 : decode cX11_group 6 = .ok (.iconst (-1), 1) := dko_2 (dk_t 6 6 [2, 161, 0, 13, 28, 133, 9, 10] dwX11_group_0 rfl rfl)
theorem dX11_group_7 : decode cX11_group 7 = .ok (.if_icmp .lt 13, 3) := dko_161 (dk_t 7 7 [161, 0, 13, 28, 133, 9, 10] dwX11_group_0 rfl rfl)
theorem dX11_group_10 : decode cX11_group 10 = .ok (.iload_n 2, 1) := dko_28 (dk_t 10 10 [28, 133, 9, 10] dwX11_group_0 rfl rfl)
theorem dX11_group_11 : decode cX11_group 11 = .ok (.i2l, 1) := dko_133 (dk_t 11 11 [133, 9, 10] dwX11_group_0 rfl rfl)
theorem dX11_group_12 : decode cX11_group 12 = .ok (.lconst 0, 1) := dko_9 (dk_t 12 12 [9, 10] dwX11_group_0 rfl rfl)
theorem dX11_group_13 : decode cX11_group 13 = .ok (.lconst 1, 1) := dko_10 (dk_t 13 13 [10] dwX11_group_0 rfl rfl)
theorem dwX11_group_14 : dkW cX11_group 14 [184, 0, 139, 154, 0, 5, 2, 172, 42, 182, 0, 218, 3, 62] = true := by decide +kernel
theorem dX11_group_14 : decode cX11_group 14 = .ok (.invokestatic 139, 3) := dko_184 dwX11_group_14
theorem dX11_group_17 : decode cX11_group 17 = .ok (.ifCond .ne 5, 3) := dko_154 (dk_t 3 17 [154, 0, 5, 2, 172, 42, 182, 0, 218, 3, 62] dwX11_group_14 rfl rfl)
theorem dX11_group_20 : decode cX11_group 20 = .ok (.iconst (-1), 1) := dko_2 (dk_t 6 20 [2, 172, 42, 182, 0, 218, 3, 62] dwX11_group_14 rfl rfl)
theorem dX11_group_21 : decode cX11_group 21 = .ok (.ireturn, 1) := dko_172 (dk_t 7 21 [172, 42, 182, 0, 218, 3, 62] dwX11_group_14 rfl rfl)
theorem dX11_group_22 : decode cX11_group 22 = .ok (.aload_n 0, 1) := dko_42 (dk_t 8 22 [42, 182, 0, 218, 3, 62] dwX11_group_14 rfl rfl)
theorem dX11_group_23 : decode cX11_group 23 = .ok (.invokevirtual 218, 3) := dko_182 (dk_t 9 23 [182, 0, 218, 3, 62] dwX11_group_14 rfl rfl)
theorem dX11_group_26 : decode cX11_group 26 = .ok (.iconst 0, 1) := dko_3 (dk_t 12 26 [3, 62] dwX11_group_14 rfl rfl)
theorem dX11_group_27 : decode cX11_group 27 = .ok (.istore_n 3, 1) := dko_62 (dk_t 13 27 [62] dwX11_group_14 rfl rfl)
theorem dwX11_group_28 : dkW cX11_group 28 [3, 54, 4, 4, 54, 5, 21, 5, 42, 180, 0, 203] = true := by decide +kernel
theorem dX11_group_28 : decode cX11_group 28 = .ok (.iconst 0, 1) := dko_3 dwX11_group_28
theorem dX11_group_29 : decode cX11_group 29 = .ok (.istore 4, 2) := dko_54 (dk_t 1 29 [54, 4, 4, 54, 5, 21, 5, 42, 180, 0, 203] dwX11_group_28 rfl rfl)
theorem dX11_group_31 : decode cX11_group 31 = .ok (.iconst 1, 1) := dko_4 (dk_t 3 31 [4, 54, 5, 21, 5, 42, 180, 0, 203] dwX11_group_28 rfl rfl)
theorem dX11_group_32 : decode cX11_group 32 = .ok (.istore 5, 2) := dko_54 (dk_t 4 32 [54, 5, 21, 5, 42, 180, 0, 203] dwX11_group_28 rfl rfl)
theorem dX11_group_34 : decode cX11_group 34 = .ok (.iload 5, 2) := dko_21 (dk_t 6 34 [21, 5, 42, 180, 0, 203] dwX11_group_28 rfl rfl)
theorem dX11_group_36 : decode cX11_group 36 = .ok (.aload_n 0, 1) := dko_42 (dk_t 8 36 [42, 180, 0, 203] dwX11_group_28 rfl rfl)
theorem dX11_group_37 : decode cX11_group 37 = .ok (.getfield 203, 3) := dko_180 (dk_t 9 37 [180, 0, 203] dwX11_group_28 rfl rfl)
theorem dwX11_group_40 : dkW cX11_group 40 [163, 0, 67, 21, 5, 42, 180, 0, 203, 159, 0, 20, 42] = true := by decide +kernel
theorem dX11_group_40 : decode cX11_group 40 = .ok (.if_icmp .gt 67, 3) := dko_163 dwX11_group_40
theorem dX11_group_43 : decode cX11_group 43 = .ok (.iload 5, 2) := dko_21 (dk_t 3 43 [21, 5, 42, 180, 0, 203, 159, 0, 20, 42] dwX11_group_40 rfl rfl)
theorem dX11_group_45 : decode cX11_group 45 = .ok (.aload_n 0, 1) := dko_42 (dk_t 5 45 [42, 180, 0, 203, 159, 0, 20, 42] dwX11_group_40 rfl rfl)
theorem dX11_group_46 : decode cX11_group 46 = .ok (.getfield 203, 3) := dko_180 (dk_t 6 46 [180, 0, 203, 159, 0, 20, 42] dwX11_group_40 rfl rfl)
theorem dX11_group_49 : decode cX11_group 49 = .ok (.if_icmp .eq 20, 3) := dko_159 (dk_t 9 49 [159, 0, 20, 42] dwX11_group_40 rfl rfl)
theorem dX11_group_52 : decode cX11_group 52 = .ok (.aload_n 0, 1) := dko_42 (dk_t 12 52 [42] dwX11_group_40 rfl rfl)
theorem dwX11_group_53 : dkW cX11_group 53 [180, 0, 51, 21, 5, 46, 42, 180, 0, 51, 21, 4, 46] = true := by decide +kernel
theorem dX11_group_53 : decode cX11_group 53 = .ok (.getfield 51, 3) := dko_180 dwX11_group_53
theorem dX11_group_56 : decode cX11_group 56 = .ok (.iload 5, 2) := dko_21 (dk_t 3 56 [21, 5, 46, 42, 180, 0, 51, 21, 4, 46] dwX11_group_53 rfl rfl)
theorem dX11_group_58 : decode cX11_group 58 = .ok (.iaload, 1) := dko_46 (dk_t 5 58 [46, 42, 180, 0, 51, 21, 4, 46] dwX11_group_53 rfl rfl)
theorem dX11_group_59 : decode cX11_group 59 = .ok (.aload_n 0, 1) := dko_42 (dk_t 6 59 [42, 180, 0, 51, 21, 4, 46] dwX11_group_53 rfl rfl)
theorem dX11_group_60 : decode cX11_group 60 = .ok (.getfield 51, 3) := dko_180 (dk_t 7 60 [180, 0, 51, 21, 4, 46] dwX11_group_53 rfl rfl)
theorem dX11_group_63 : decode cX11_group 63 = .ok (.iload 4, 2) := dko_21 (dk_t 10 63 [21, 4, 46] dwX11_group_53 rfl rfl)
theorem dX11_group_65 : decode cX11_group 65 = .ok (.iaload, 1) := dko_46 (dk_t 12 65 [46] dwX11_group_53 rfl rfl)
theorem dwX11_group_66 : dkW cX11_group 66 [159, 0, 35, 29, 27, 160, 0, 23, 28, 154, 0, 13, 42] = true := by decide +kernel
theorem dX11_group_66 : decode cX11_group 66 = .ok (.if_icmp .eq 35, 3) := dko_159 dwX11_group_66
theorem dX11_group_69 : decode cX11_group 69 = .ok (.iload_n 3, 1) := dko_29 (dk_t 3 69 [29, 27, 160, 0, 23, 28, 154, 0, 13, 42] dwX11_group_66 rfl rfl)
theorem dX11_group_70 : decode cX11_group 70 = .ok (.iload_n 1, 1) := dko_27 (dk_t 4 70 [27, 160, 0, 23, 28, 154, 0, 13, 42] dwX11_group_66 rfl rfl)
theorem dX11_group_71 : decode cX11_group 71 = .ok (.if_icmp .ne 23, 3) := dko_160 (dk_t 5 71 [160, 0, 23, 28, 154, 0, 13, 42] dwX11_group_66 rfl rfl)
theorem dX11_group_74 : decode cX11_group 74 = .ok (.iload_n 2, 1) := dko_28 (dk_t 8 74 [28, 154, 0, 13, 42] dwX11_group_66 rfl rfl)
theorem dX11_group_75 : decode cX11_group 75 = .ok (.ifCond .ne 13, 3) := dko_154 (dk_t 9 75 [154, 0, 13, 42] dwX11_group_66 rfl rfl)
theorem dX11_group_78 : decode cX11_group 78 = .ok (.aload_n 0, 1) := dko_42 (dk_t 12 78 [42] dwX11_group_66 rfl rfl)
theorem dwX11_group_79 : dkW cX11_group 79 [180, 0, 51, 21, 4, 46, 167, 0, 8, 21, 5, 21, 4, 100] = true := by decide +kernel
theorem dX11_group_79 : decode cX11_group 79 = .ok (.getfield 51, 3) := dko_180 dwX11_group_79
theorem dX11_group_82 : decode cX11_group 82 = .ok (.iload 4, 2) := dko_21 (dk_t 3 82 [21, 4, 46, 167, 0, 8, 21, 5, 21, 4, 100] dwX11_group_79 rfl rfl)
theorem dX11_group_84 : decode cX11_group 84 = .ok (.iaload, 1) := dko_46 (dk_t 5 84 [46, 167, 0, 8, 21, 5, 21, 4, 100] dwX11_group_79 rfl rfl)
theorem dX11_group_85 : decode cX11_group 85 = .ok (.goto 8, 3) := dko_167 (dk_t 6 85 [167, 0, 8, 21, 5, 21, 4, 100] dwX11_group_79 rfl rfl)
theorem dX11_group_88 : decode cX11_group 88 = .ok (.iload 5, 2) := dko_21 (dk_t 9 88 [21, 5, 21, 4, 100] dwX11_group_79 rfl rfl)
theorem dX11_group_90 : decode cX11_group 90 = .ok (.iload 4, 2) := dko_21 (dk_t 11 90 [21, 4, 100] dwX11_group_79 rfl rfl)
theorem dX11_group_92 : decode cX11_group 92 = .ok (.isub, 1) := dko_100 (dk_t 13 92 [100] dwX11_group_79 rfl rfl)
theorem dwX11_group_93 : dkW cX11_group 93 [172, 132, 3, 1, 21, 5, 54, 4, 132, 5, 1, 167, 255, 186] = true := by decide +kernel
theorem dX11_group_93 : decode cX11_group 93 = .ok (.ireturn, 1) := dko_172 dwX11_group_93
theorem dX11_group_94 : decode cX11_group 94 = .ok (.iinc 3 1, 3) := dko_132 (dk_t 1 94 [132, 3, 1, 21, 5, 54, 4, 132, 5, 1, 167, 255, 186] dwX11_group_93 rfl rfl)
theorem dX11_group_97 : decode cX11_group 97 = .ok (.iload 5, 2) := dko_21 (dk_t 4 97 [21, 5, 54, 4, 132, 5, 1, 167, 255, 186] dwX11_group_93 rfl rfl)
theorem dX11_group_99 : decode cX11_group 99 = .ok (.istore 4, 2) := dko_54 (dk_t 6 99 [54, 4, 132, 5, 1, 167, 255, 186] dwX11_group_93 rfl rfl)
theorem dX11_group_101 : decode cX11_group 101 = .ok (.iinc 5 1, 3) := dko_132 (dk_t 8 101 [132, 5, 1, 167, 255, 186] dwX11_group_93 rfl rfl)
theorem dX11_group_104 : decode cX11_group 104 = .ok (.goto (-70), 3) := dko_167 (dk_t 11 104 [167, 255, 186] dwX11_group_93 rfl rfl)
theorem dwX11_group_107 : dkW cX11_group 107 [27, 2, 160, 0, 7, 29, 167, 0, 4, 2, 172] = true := by decide +kernel
theorem dX11_group_107 : decode cX11_group 107 = .ok (.iload_n 1, 1) := dko_27 dwX11_group_107
theorem dX11_group_108 : decode cX11_group 108 = .ok (.iconst (-1), 1) := dko_2 (dk_t 1 108 [2, 160, 0, 7, 29, 167, 0, 4, 2, 172] dwX11_group_107 rfl rfl)
theorem dX11_group_109 : decode cX11_group 109 = .ok (.if_icmp .ne 7, 3) := dko_160 (dk_t 2 109 [160, 0, 7, 29, 167, 0, 4, 2, 172] dwX11_group_107 rfl rfl)
theorem dX11_group_112 : decode cX11_group 112 = .ok (.iload_n 3, 1) := dko_29 (dk_t 5 112 [29, 167, 0, 4, 2, 172] dwX11_group_107 rfl rfl)
theorem dX11_group_113 : decode cX11_group 113 = .ok (.goto 4, 3) := dko_167 (dk_t 6 113 [167, 0, 4, 2, 172] dwX11_group_107 rfl rfl)
theorem dX11_group_116 : decode cX11_group 116 = .ok (.iconst (-1), 1) := dko_2 (dk_t 9 116 [2, 172] dwX11_group_107 rfl rfl)
theorem dX11_group_117 : decode cX11_group 117 = .ok (.ireturn, 1) := dko_172 (dk_t 10 117 [172] dwX11_group_107 rfl rfl)
theorem dwX11_asked_0 : dkW cX11_asked 0 [42, 3, 181, 0, 134, 28, 133, 9, 20, 0, 137, 184, 0, 139] = true := by decide +kernel
theorem dX11_asked_0 : decode cX11_asked 0 = .ok (.aload_n 0, 1) := dko_42 dwX11_asked_0
theorem dX11_asked_1 : decode cX11_asked 1 = .ok (.iconst 0, 1) := dko_3 (dk_t 1 1 [3, 181, 0, 134, 28, 133, 9, 20, 0, 137, 184, 0, 139] dwX11_asked_0 rfl rfl)
theorem dX11_asked_2 : decode cX11_asked 2 = .ok (.putfield 134, 3) := dko_181 (dk_t 2 2 [181, 0, 134, 28, 133, 9, 20, 0, 137, 184, 0, 139] dwX11_asked_0 rfl rfl)
theorem dX11_asked_5 : decode cX11_asked 5 = .ok (.iload_n 2, 1) := dko_28 (dk_t 5 5 [28, 133, 9, 20, 0, 137, 184, 0, 139] dwX11_asked_0 rfl rfl)
theorem dX11_asked_6 : decode cX11_asked 6 = .ok (.i2l, 1) := dko_133 (dk_t 6 6 [133, 9, 20, 0, 137, 184, 0, 139] dwX11_asked_0 rfl rfl)
theorem dX11_asked_7 : decode cX11_asked 7 = .ok (.lconst 0, 1) := dko_9 (dk_t 7 7 [9, 20, 0, 137, 184, 0, 139] dwX11_asked_0 rfl rfl)
theorem dX11_asked_8 : decode cX11_asked 8 = .ok (.ldc2_w 137, 3) := dko_20 (dk_t 8 8 [20, 0, 137, 184, 0, 139] dwX11_asked_0 rfl rfl)
theorem dX11_asked_11 : decode cX11_asked 11 = .ok (.invokestatic 139, 3) := dko_184 (dk_t 11 11 [184, 0, 139] dwX11_asked_0 rfl rfl)
theorem dwX11_asked_14 : dkW cX11_asked 14 [153, 0, 24, 27, 2, 159, 0, 21, 27, 133, 9, 42] = true := by decide +kernel
theorem dX11_asked_14 : decode cX11_asked 14 = .ok (.ifCond .eq 24, 3) := dko_153 dwX11_asked_14
theorem dX11_asked_17 : decode cX11_asked 17 = .ok (.iload_n 1, 1) := dko_27 (dk_t 3 17 [27, 2, 159, 0, 21, 27, 133, 9, 42] dwX11_asked_14 rfl rfl)
theorem dX11_asked_18 : decode cX11_asked 18 = .ok (.iconst (-1), 1) := dko_2 (dk_t 4 18 [2, 159, 0, 21, 27, 133, 9, 42] dwX11_asked_14 rfl rfl)
theorem dX11_asked_19 : decode cX11_asked 19 = .ok (.if_icmp .eq 21, 3) := dko_159 (dk_t 5 19 [159, 0, 21, 27, 133, 9, 42] dwX11_asked_14 rfl rfl)
theorem dX11_asked_22 : decode cX11_asked 22 = .ok (.iload_n 1, 1) := dko_27 (dk_t 8 22 [27, 133, 9, 42] dwX11_asked_14 rfl rfl)
theorem dX11_asked_23 : decode cX11_asked 23 = .ok (.i2l, 1) := dko_133 (dk_t 9 23 [133, 9, 42] dwX11_asked_14 rfl rfl)
theorem dX11_asked_24 : decode cX11_asked 24 = .ok (.lconst 0, 1) := dko_9 (dk_t 10 24 [9, 42] dwX11_asked_14 rfl rfl)
theorem dX11_asked_25 : decode cX11_asked 25 = .ok (.aload_n 0, 1) := dko_42 (dk_t 11 25 [42] dwX11_asked_14 rfl rfl)
theorem dwX11_asked_26 : dkW cX11_asked 26 [180, 1, 84, 133, 10, 101, 184, 0, 139, 154, 0, 5, 2, 172] = true := by decide +kernel
theorem dX11_asked_26 : decode cX11_asked 26 = .ok (.getfield 340, 3) := dko_180 dwX11_asked_26
theorem dX11_asked_29 : decode cX11_asked 29 = .ok (.i2l, 1) := dko_133 (dk_t 3 29 [133, 10, 101, 184, 0, 139, 154, 0, 5, 2, 172] dwX11_asked_26 rfl rfl)
theorem dX11_asked_30 : decode cX11_asked 30 = .ok (.lconst 1, 1) := dko_10 (dk_t 4 30 [10, 101, 184, 0, 139, 154, 0, 5, 2, 172] dwX11_asked_26 rfl rfl)
theorem dX11_asked_31 : decode cX11_asked 31 = .ok (.lsub, 1) := dko_101 (dk_t 5 31 [101, 184, 0, 139, 154, 0, 5, 2, 172] dwX11_asked_26 rfl rfl)
theorem dX11_asked_32 : decode cX11_asked 32 = .ok (.invokestatic 139, 3) := dko_184 (dk_t 6 32 [184, 0, 139, 154, 0, 5, 2, 172] dwX11_asked_26 rfl rfl)
theorem dX11_asked_35 : decode cX11_asked 35 = .ok (.ifCond .ne 5, 3) := dko_154 (dk_t 9 35 [154, 0, 5, 2, 172] dwX11_asked_26 rfl rfl)
theorem dX11_asked_38 : decode cX11_asked 38 = .ok (.iconst (-1), 1) := dko_2 (dk_t 12 38 [2, 172] dwX11_asked_26 rfl rfl)
theorem dX11_asked_39 : decode cX11_asked 39 = .ok (.ireturn, 1) := dko_172 (dk_t 13 39 [172] dwX11_asked_26 rfl rfl)
theorem dwX11_asked_40 : dkW cX11_asked 40 [27, 2, 160, 0, 10, 42, 180, 1, 84, 167, 0, 43, 28] = true := by decide +kernel
theorem dX11_asked_40 : decode cX11_asked 40 = .ok (.iload_n 1, 1) := dko_27 dwX11_asked_40
theorem dX11_asked_41 : decode cX11_asked 41 = .ok (.iconst (-1), 1) := dko_2 (dk_t 1 41 [2, 160, 0, 10, 42, 180, 1, 84, 167, 0, 43, 28] dwX11_asked_40 rfl rfl)
theorem dX11_asked_42 : decode cX11_asked 42 = .ok (.if_icmp .ne 10, 3) := dko_160 (dk_t 2 42 [160, 0, 10, 42, 180, 1, 84, 167, 0, 43, 28] dwX11_asked_40 rfl rfl)
theorem dX11_asked_45 : decode cX11_asked 45 = .ok (.aload_n 0, 1) := dko_42 (dk_t 5 45 [42, 180, 1, 84, 167, 0, 43, 28] dwX11_asked_40 rfl rfl)
theorem dX11_asked_46 : decode cX11_asked 46 = .ok (.getfield 340, 3) := dko_180 (dk_t 6 46 [180, 1, 84, 167, 0, 43, 28] dwX11_asked_40 rfl rfl)
theorem dX11_asked_49 : decode cX11_asked 49 = .ok (.goto 43, 3) := dko_167 (dk_t 9 49 [167, 0, 43, 28] dwX11_asked_40 rfl rfl)
theorem dX11_asked_52 : decode cX11_asked 52 = .ok (.iload_n 2, 1) := dko_28 (dk_t 12 52 [28] dwX11_asked_40 rfl rfl)
theorem dwX11_asked_53 : dkW cX11_asked 53 [154, 0, 12, 42, 180, 0, 109, 27, 46, 167, 0, 30, 28, 4] = true := by decide +kernel
theorem dX11_asked_53 : decode cX11_asked 53 = .ok (.ifCond .ne 12, 3) := dko_154 dwX11_asked_53
theorem dX11_asked_56 : decode cX11_asked 56 = .ok (.aload_n 0, 1) := dko_42 (dk_t 3 56 [42, 180, 0, 109, 27, 46, 167, 0, 30, 28, 4] dwX11_asked_53 rfl rfl)
theorem dX11_asked_57 : decode cX11_asked 57 = .ok (.getfield 109, 3) := dko_180 (dk_t 4 57 [180, 0, 109, 27, 46, 167, 0, 30, 28, 4] dwX11_asked_53 rfl rfl)
theorem dX11_asked_60 : decode cX11_asked 60 = .ok (.iload_n 1, 1) := dko_27 (dk_t 7 60 [27, 46, 167, 0, 30, 28, 4] dwX11_asked_53 rfl rfl)
theorem dX11_asked_61 : decode cX11_asked 61 = .ok (.iaload, 1) := dko_46 (dk_t 8 61 [46, 167, 0, 30, 28, 4] dwX11_asked_53 rfl rfl)
theorem dX11_asked_62 : decode cX11_asked 62 = .ok (.goto 30, 3) := dko_167 (dk_t 9 62 [167, 0, 30, 28, 4] dwX11_asked_53 rfl rfl)
theorem dX11_asked_65 : decode cX11_asked 65 = .ok (.iload_n 2, 1) := dko_28 (dk_t 12 65 [28, 4] dwX11_asked_53 rfl rfl)
theorem dX11_asked_66 : decode cX11_asked 66 = .ok (.iconst 1, 1) := dko_4 (dk_t 13 66 [4] dwX11_asked_53 rfl rfl)
theorem dwX11_asked_67 : dkW cX11_asked 67 [160, 0, 12, 42, 180, 0, 112, 27, 46, 167, 0, 16, 27, 42] = true := by decide +kernel
theorem dX11_asked_67 : decode cX11_asked 67 = .ok (.if_icmp .ne 12, 3) := dko_160 dwX11_asked_67
theorem dX11_asked_70 : decode cX11_asked 70 = .ok (.aload_n 0, 1) := dko_42 (dk_t 3 70 [42, 180, 0, 112, 27, 46, 167, 0, 16, 27, 42] dwX11_asked_67 rfl rfl)
theorem dX11_asked_71 : decode cX11_asked 71 = .ok (.getfield 112, 3) := dko_180 (dk_t 4 71 [180, 0, 112, 27, 46, 167, 0, 16, 27, 42] dwX11_asked_67 rfl rfl)
theorem dX11_asked_74 : decode cX11_asked 74 = .ok (.iload_n 1, 1) := dko_27 (dk_t 7 74 [27, 46, 167, 0, 16, 27, 42] dwX11_asked_67 rfl rfl)
theorem dX11_asked_75 : decode cX11_asked 75 = .ok (.iaload, 1) := dko_46 (dk_t 8 75 [46, 167, 0, 16, 27, 42] dwX11_asked_67 rfl rfl)
theorem dX11_asked_76 : decode cX11_asked 76 = .ok (.goto 16, 3) := dko_167 (dk_t 9 76 [167, 0, 16, 27, 42] dwX11_asked_67 rfl rfl)
theorem dX11_asked_79 : decode cX11_asked 79 = .ok (.iload_n 1, 1) := dko_27 (dk_t 12 79 [27, 42] dwX11_asked_67 rfl rfl)
theorem dX11_asked_80 : decode cX11_asked 80 = .ok (.aload_n 0, 1) := dko_42 (dk_t 13 80 [42] dwX11_asked_67 rfl rfl)
theorem dwX11_asked_81 : dkW cX11_asked 81 [180, 0, 115, 160, 0, 7, 4, 167, 0, 4, 3, 172] = true := by decide +kernel
theorem dX11_asked_81 : decode cX11_asked 81 = .ok (.getfield 115, 3) := dko_180 dwX11_asked_81
theorem dX11_asked_84 : decode cX11_asked 84 = .ok (.if_icmp .ne 7, 3) := dko_160 (dk_t 3 84 [160, 0, 7, 4, 167, 0, 4, 3, 172] dwX11_asked_81 rfl rfl)
theorem dX11_asked_87 : decode cX11_asked 87 = .ok (.iconst 1, 1) := dko_4 (dk_t 6 87 [4, 167, 0, 4, 3, 172] dwX11_asked_81 rfl rfl)
theorem dX11_asked_88 : decode cX11_asked 88 = .ok (.goto 4, 3) := dko_167 (dk_t 7 88 [167, 0, 4, 3, 172] dwX11_asked_81 rfl rfl)
theorem dX11_asked_91 : decode cX11_asked 91 = .ok (.iconst 0, 1) := dko_3 (dk_t 10 91 [3, 172] dwX11_asked_81 rfl rfl)
theorem dX11_asked_92 : decode cX11_asked 92 = .ok (.ireturn, 1) := dko_172 (dk_t 11 92 [172] dwX11_asked_81 rfl rfl)
theorem dwX11_fresh_0 : dkW cX11_fresh 0 [42, 3, 181, 0, 134, 42, 27, 182, 1, 126, 153, 0, 13, 28] = true := by decide +kernel
theorem dX11_fresh_0 : decode cX11_fresh 0 = .ok (.aload_n 0, 1) := dko_42 dwX11_fresh_0
theorem dX11_fresh_1 : decode cX11_fresh 1 = .ok (.iconst 0, 1) := dko_3 (dk_t 1 1 [3, 181, 0, 134, 42, 27, 182, 1, 126, 153, 0, 13, 28] dwX11_fresh_0 rfl rfl)
theorem dX11_fresh_2 : decode cX11_fresh 2 = .ok (.putfield 134, 3) := dko_181 (dk_t 2 2 [181, 0, 134, 42, 27, 182, 1, 126, 153, 0, 13, 28] dwX11_fresh_0 rfl rfl)
theorem dX11_fresh_5 : decode cX11_fresh 5 = .ok (.aload_n 0, 1) := dko_42 (dk_t 5 5 [42, 27, 182, 1, 126, 153, 0, 13, 28] dwX11_fresh_0 rfl rfl)
theorem dX11_fresh_6 : decode cX11_fresh 6 = .ok (.iload_n 1, 1) := dko_27 (dk_t 6 6 [27, 182, 1, 126, 153, 0, 13, 28] dwX11_fresh_0 rfl rfl)
theorem dX11_fresh_7 : decode cX11_fresh 7 = .ok (.invokevirtual 382, 3) := dko_182 (dk_t 7 7 [182, 1, 126, 153, 0, 13, 28] dwX11_fresh_0 rfl rfl)
theorem dX11_fresh_10 : decode cX11_fresh 10 = .ok (.ifCond .eq 13, 3) := dko_153 (dk_t 10 10 [153, 0, 13, 28] dwX11_fresh_0 rfl rfl)
theorem dX11_fresh_13 : decode cX11_fresh 13 = .ok (.iload_n 2, 1) := dko_28 (dk_t 13 13 [28] dwX11_fresh_0 rfl rfl)
theorem dwX11_fresh_14 : dkW cX11_fresh 14 [133, 9, 10, 184, 0, 139, 154, 0, 5, 2, 172, 42] = true := by decide +kernel
theorem dX11_fresh_14 : decode cX11_fresh 14 = .ok (.i2l, 1) := dko_133 dwX11_fresh_14
theorem dX11_fresh_15 : decode cX11_fresh 15 = .ok (.lconst 0, 1) := dko_9 (dk_t 1 15 [9, 10, 184, 0, 139, 154, 0, 5, 2, 172, 42] dwX11_fresh_14 rfl rfl)
theorem dX11_fresh_16 : decode cX11_fresh 16 = .ok (.lconst 1, 1) := dko_10 (dk_t 2 16 [10, 184, 0, 139, 154, 0, 5, 2, 172, 42] dwX11_fresh_14 rfl rfl)
theorem dX11_fresh_17 : decode cX11_fresh 17 = .ok (.invokestatic 139, 3) := dko_184 (dk_t 3 17 [184, 0, 139, 154, 0, 5, 2, 172, 42] dwX11_fresh_14 rfl rfl)
theorem dX11_fresh_20 : decode cX11_fresh 20 = .ok (.ifCond .ne 5, 3) := dko_154 (dk_t 6 20 [154, 0, 5, 2, 172, 42] dwX11_fresh_14 rfl rfl)
theorem dX11_fresh_23 : decode cX11_fresh 23 = .ok (.iconst (-1), 1) := dko_2 (dk_t 9 23 [2, 172, 42] dwX11_fresh_14 rfl rfl)
theorem dX11_fresh_24 : decode cX11_fresh 24 = .ok (.ireturn, 1) := dko_172 (dk_t 10 24 [172, 42] dwX11_fresh_14 rfl rfl)
theorem dX11_fresh_25 : decode cX11_fresh 25 = .ok (.aload_n 0, 1) := dko_42 (dk_t 11 25 [42] dwX11_fresh_14 rfl rfl)
theorem dwX11_fresh_26 : dkW cX11_fresh 26 [182, 0, 218, 42, 42, 180, 0, 45, 42, 180, 0, 18] = true := by decide +kernel
theorem dX11_fresh_26 : decode cX11_fresh 26 = .ok (.invokevirtual 218, 3) := dko_182 dwX11_fresh_26
theorem dX11_fresh_29 : decode cX11_fresh 29 = .ok (.aload_n 0, 1) := dko_42 (dk_t 3 29 [42, 42, 180, 0, 45, 42, 180, 0, 18] dwX11_fresh_26 rfl rfl)
theorem dX11_fresh_30 : decode cX11_fresh 30 = .ok (.aload_n 0, 1) := dko_42 (dk_t 4 30 [42, 180, 0, 45, 42, 180, 0, 18] dwX11_fresh_26 rfl rfl)
theorem dX11_fresh_31 : decode cX11_fresh 31 = .ok (.getfield 45, 3) := dko_180 (dk_t 5 31 [180, 0, 45, 42, 180, 0, 18] dwX11_fresh_26 rfl rfl)
theorem dX11_fresh_34 : decode cX11_fresh 34 = .ok (.aload_n 0, 1) := dko_42 (dk_t 8 34 [42, 180, 0, 18] dwX11_fresh_26 rfl rfl)
theorem dX11_fresh_35 : decode cX11_fresh 35 = .ok (.getfield 18, 3) := dko_180 (dk_t 9 35 [180, 0, 18] dwX11_fresh_26 rfl rfl)
theorem dwX11_fresh_38 : dkW cX11_fresh 38 [17, 1, 104, 27, 104, 182, 0, 210, 3, 62, 3, 54, 4] = true := by decide +kernel
theorem dX11_fresh_38 : decode cX11_fresh 38 = .ok (.sipush 360, 3) := dko_17 dwX11_fresh_38
theorem dX11_fresh_41 : decode cX11_fresh 41 = .ok (.iload_n 1, 1) := dko_27 (dk_t 3 41 [27, 104, 182, 0, 210, 3, 62, 3, 54, 4] dwX11_fresh_38 rfl rfl)
theorem dX11_fresh_42 : decode cX11_fresh 42 = .ok (.imul, 1) := dko_104 (dk_t 4 42 [104, 182, 0, 210, 3, 62, 3, 54, 4] dwX11_fresh_38 rfl rfl)
theorem dX11_fresh_43 : decode cX11_fresh 43 = .ok (.invokevirtual 210, 3) := dko_182 (dk_t 5 43 [182, 0, 210, 3, 62, 3, 54, 4] dwX11_fresh_38 rfl rfl)
theorem dX11_fresh_46 : decode cX11_fresh 46 = .ok (.iconst 0, 1) := dko_3 (dk_t 8 46 [3, 62, 3, 54, 4] dwX11_fresh_38 rfl rfl)
theorem dX11_fresh_47 : decode cX11_fresh 47 = .ok (.istore_n 3, 1) := dko_62 (dk_t 9 47 [62, 3, 54, 4] dwX11_fresh_38 rfl rfl)
theorem dX11_fresh_48 : decode cX11_fresh 48 = .ok (.iconst 0, 1) := dko_3 (dk_t 10 48 [3, 54, 4] dwX11_fresh_38 rfl rfl)
theorem dX11_fresh_49 : decode cX11_fresh 49 = .ok (.istore 4, 2) := dko_54 (dk_t 11 49 [54, 4] dwX11_fresh_38 rfl rfl)
theorem dwX11_fresh_51 : dkW cX11_fresh 51 [21, 4, 16, 12, 162, 0, 152, 42, 21, 4, 182, 0, 162] = true := by decide +kernel
theorem dX11_fresh_51 : decode cX11_fresh 51 = .ok (.iload 4, 2) := dko_21 dwX11_fresh_51
theorem dX11_fresh_53 : decode cX11_fresh 53 = .ok (.bipush 12, 2) := dko_16 (dk_t 2 53 [16, 12, 162, 0, 152, 42, 21, 4, 182, 0, 162] dwX11_fresh_51 rfl rfl)
theorem dX11_fresh_55 : decode cX11_fresh 55 = .ok (.if_icmp .ge 152, 3) := dko_162 (dk_t 4 55 [162, 0, 152, 42, 21, 4, 182, 0, 162] dwX11_fresh_51 rfl rfl)
theorem dX11_fresh_58 : decode cX11_fresh 58 = .ok (.aload_n 0, 1) := dko_42 (dk_t 7 58 [42, 21, 4, 182, 0, 162] dwX11_fresh_51 rfl rfl)
theorem dX11_fresh_59 : decode cX11_fresh 59 = .ok (.iload 4, 2) := dko_21 (dk_t 8 59 [21, 4, 182, 0, 162] dwX11_fresh_51 rfl rfl)
theorem dX11_fresh_61 : decode cX11_fresh 61 = .ok (.invokevirtual 162, 3) := dko_182 (dk_t 10 61 [182, 0, 162] dwX11_fresh_51 rfl rfl)
theorem dwX11_fresh_64 : dkW cX11_fresh 64 [153, 0, 137, 42, 21, 4, 16, 6, 182, 0, 165, 4] = true := by decide +kernel
theorem dX11_fresh_64 : decode cX11_fresh 64 = .ok (.ifCond .eq 137, 3) := dko_153 dwX11_fresh_64
theorem dX11_fresh_67 : decode cX11_fresh 67 = .ok (.aload_n 0, 1) := dko_42 (dk_t 3 67 [42, 21, 4, 16, 6, 182, 0, 165, 4] dwX11_fresh_64 rfl rfl)
theorem dX11_fresh_68 : decode cX11_fresh 68 = .ok (.iload 4, 2) := dko_21 (dk_t 4 68 [21, 4, 16, 6, 182, 0, 165, 4] dwX11_fresh_64 rfl rfl)
theorem dX11_fresh_70 : decode cX11_fresh 70 = .ok (.bipush 6, 2) := dko_16 (dk_t 6 70 [16, 6, 182, 0, 165, 4] dwX11_fresh_64 rfl rfl)
theorem dX11_fresh_72 : decode cX11_fresh 72 = .ok (.invokevirtual 165, 3) := dko_182 (dk_t 8 72 [182, 0, 165, 4] dwX11_fresh_64 rfl rfl)
theorem dX11_fresh_75 : decode cX11_fresh 75 = .ok (.iconst 1, 1) := dko_4 (dk_t 11 75 [4] dwX11_fresh_64 rfl rfl)
theorem dwX11_fresh_76 : dkW cX11_fresh 76 [160, 0, 125, 42, 21, 4, 182, 0, 179, 54, 5, 21, 5, 42] = true := by decide +kernel
theorem dX11_fresh_76 : decode cX11_fresh 76 = .ok (.if_icmp .ne 125, 3) := dko_160 dwX11_fresh_76
theorem dX11_fresh_79 : decode cX11_fresh 79 = .ok (.aload_n 0, 1) := dko_42 (dk_t 3 79 [42, 21, 4, 182, 0, 179, 54, 5, 21, 5, 42] dwX11_fresh_76 rfl rfl)
theorem dX11_fresh_80 : decode cX11_fresh 80 = .ok (.iload 4, 2) := dko_21 (dk_t 4 80 [21, 4, 182, 0, 179, 54, 5, 21, 5, 42] dwX11_fresh_76 rfl rfl)
theorem dX11_fresh_82 : decode cX11_fresh 82 = .ok (.invokevirtual 179, 3) := dko_182 (dk_t 6 82 [182, 0, 179, 54, 5, 21, 5, 42] dwX11_fresh_76 rfl rfl)
theorem dX11_fresh_85 : decode cX11_fresh 85 = .ok (.istore 5, 2) := dko_54 (dk_t 9 85 [54, 5, 21, 5, 42] dwX11_fresh_76 rfl rfl)
theorem dX11_fresh_87 : decode cX11_fresh 87 = .ok (.iload 5, 2) := dko_21 (dk_t 11 87 [21, 5, 42] dwX11_fresh_76 rfl rfl)
theorem dX11_fresh_89 : decode cX11_fresh 89 = .ok (.aload_n 0, 1) := dko_42 (dk_t 13 89 [42] dwX11_fresh_76 rfl rfl)
theorem dwX11_fresh_90 : dkW cX11_fresh 90 [21, 4, 182, 0, 183, 163, 0, 106, 21, 4, 21, 5] = true := by decide +kernel
theorem dX11_fresh_90 : decode cX11_fresh 90 = .ok (.iload 4, 2) := dko_21 dwX11_fresh_90
theorem dX11_fresh_92 : decode cX11_fresh 92 = .ok (.invokevirtual 183, 3) := dko_182 (dk_t 2 92 [182, 0, 183, 163, 0, 106, 21, 4, 21, 5] dwX11_fresh_90 rfl rfl)
theorem dX11_fresh_95 : decode cX11_fresh 95 = .ok (.if_icmp .gt 106, 3) := dko_163 (dk_t 5 95 [163, 0, 106, 21, 4, 21, 5] dwX11_fresh_90 rfl rfl)
theorem dX11_fresh_98 : decode cX11_fresh 98 = .ok (.iload 4, 2) := dko_21 (dk_t 8 98 [21, 4, 21, 5] dwX11_fresh_90 rfl rfl)
theorem dX11_fresh_100 : decode cX11_fresh 100 = .ok (.iload 5, 2) := dko_21 (dk_t 10 100 [21, 5] dwX11_fresh_90 rfl rfl)
theorem dwX11_fresh_102 : dkW cX11_fresh 102 [184, 0, 186, 54, 6, 42, 180, 0, 36, 21, 6, 46, 42] = true := by decide +kernel
theorem dX11_fresh_102 : decode cX11_fresh 102 = .ok (.invokestatic 186, 3) := dko_184 dwX11_fresh_102
theorem dX11_fresh_105 : decode cX11_fresh 105 = .ok (.istore 6, 2) := dko_54 (dk_t 3 105 [54, 6, 42, 180, 0, 36, 21, 6, 46, 42] dwX11_fresh_102 rfl rfl)
theorem dX11_fresh_107 : decode cX11_fresh 107 = .ok (.aload_n 0, 1) := dko_42 (dk_t 5 107 [42, 180, 0, 36, 21, 6, 46, 42] dwX11_fresh_102 rfl rfl)
theorem dX11_fresh_108 : decode cX11_fresh 108 = .ok (.getfield 36, 3) := dko_180 (dk_t 6 108 [180, 0, 36, 21, 6, 46, 42] dwX11_fresh_102 rfl rfl)
theorem dX11_fresh_111 : decode cX11_fresh 111 = .ok (.iload 6, 2) := dko_21 (dk_t 9 111 [21, 6, 46, 42] dwX11_fresh_102 rfl rfl)
theorem dX11_fresh_113 : decode cX11_fresh 113 = .ok (.iaload, 1) := dko_46 (dk_t 11 113 [46, 42] dwX11_fresh_102 rfl rfl)
theorem dX11_fresh_114 : decode cX11_fresh 114 = .ok (.aload_n 0, 1) := dko_42 (dk_t 12 114 [42] dwX11_fresh_102 rfl rfl)
theorem dwX11_fresh_115 : dkW cX11_fresh 115 [180, 0, 42, 21, 6, 46, 159, 0, 7, 4, 167, 0, 4, 3] = true := by decide +kernel
theorem dX11_fresh_115 : decode cX11_fresh 115 = .ok (.getfield 42, 3) := dko_180 dwX11_fresh_115
theorem dX11_fresh_118 : decode cX11_fresh 118 = .ok (.iload 6, 2) := dko_21 (dk_t 3 118 [21, 6, 46, 159, 0, 7, 4, 167, 0, 4, 3] dwX11_fresh_115 rfl rfl)
theorem dX11_fresh_120 : decode cX11_fresh 120 = .ok (.iaload, 1) := dko_46 (dk_t 5 120 [46, 159, 0, 7, 4, 167, 0, 4, 3] dwX11_fresh_115 rfl rfl)
theorem dX11_fresh_121 : decode cX11_fresh 121 = .ok (.if_icmp .eq 7, 3) := dko_159 (dk_t 6 121 [159, 0, 7, 4, 167, 0, 4, 3] dwX11_fresh_115 rfl rfl)
theorem dX11_fresh_124 : decode cX11_fresh 124 = .ok (.iconst 1, 1) := dko_4 (dk_t 9 124 [4, 167, 0, 4, 3] dwX11_fresh_115 rfl rfl)
theorem dX11_fresh_125 : decode cX11_fresh 125 = .ok (.goto 4, 3) := dko_167 (dk_t 10 125 [167, 0, 4, 3] dwX11_fresh_115 rfl rfl)
theorem dX11_fresh_128 : decode cX11_fresh 128 = .ok (.iconst 0, 1) := dko_3 (dk_t 13 128 [3] dwX11_fresh_115 rfl rfl)
theorem dwX11_fresh_129 : dkW cX11_fresh 129 [54, 7, 29, 28, 154, 0, 33, 21, 7, 153, 0, 24, 42] = true := by decide +kernel
theorem dX11_fresh_129 : decode cX11_fresh 129 = .ok (.istore 7, 2) := dko_54 dwX11_fresh_129
theorem dX11_fresh_131 : decode cX11_fresh 131 = .ok (.iload_n 3, 1) := dko_29 (dk_t 2 131 [29, 28, 154, 0, 33, 21, 7, 153, 0, 24, 42] dwX11_fresh_129 rfl rfl)
theorem dX11_fresh_132 : decode cX11_fresh 132 = .ok (.iload_n 2, 1) := dko_28 (dk_t 3 132 [28, 154, 0, 33, 21, 7, 153, 0, 24, 42] dwX11_fresh_129 rfl rfl)
theorem dX11_fresh_133 : decode cX11_fresh 133 = .ok (.ifCond .ne 33, 3) := dko_154 (dk_t 4 133 [154, 0, 33, 21, 7, 153, 0, 24, 42] dwX11_fresh_129 rfl rfl)
theorem dX11_fresh_136 : decode cX11_fresh 136 = .ok (.iload 7, 2) := dko_21 (dk_t 7 136 [21, 7, 153, 0, 24, 42] dwX11_fresh_129 rfl rfl)
theorem dX11_fresh_138 : decode cX11_fresh 138 = .ok (.ifCond .eq 24, 3) := dko_153 (dk_t 9 138 [153, 0, 24, 42] dwX11_fresh_129 rfl rfl)
theorem dX11_fresh_141 : decode cX11_fresh 141 = .ok (.aload_n 0, 1) := dko_42 (dk_t 12 141 [42] dwX11_fresh_129 rfl rfl)
theorem dwX11_fresh_142 : dkW cX11_fresh 142 [180, 0, 36, 21, 6, 46, 42, 180, 0, 45, 21, 6, 46] = true := by decide +kernel
theorem dX11_fresh_142 : decode cX11_fresh 142 = .ok (.getfield 36, 3) := dko_180 dwX11_fresh_142
theorem dX11_fresh_145 : decode cX11_fresh 145 = .ok (.iload 6, 2) := dko_21 (dk_t 3 145 [21, 6, 46, 42, 180, 0, 45, 21, 6, 46] dwX11_fresh_142 rfl rfl)
theorem dX11_fresh_147 : decode cX11_fresh 147 = .ok (.iaload, 1) := dko_46 (dk_t 5 147 [46, 42, 180, 0, 45, 21, 6, 46] dwX11_fresh_142 rfl rfl)
theorem dX11_fresh_148 : decode cX11_fresh 148 = .ok (.aload_n 0, 1) := dko_42 (dk_t 6 148 [42, 180, 0, 45, 21, 6, 46] dwX11_fresh_142 rfl rfl)
theorem dX11_fresh_149 : decode cX11_fresh 149 = .ok (.getfield 45, 3) := dko_180 (dk_t 7 149 [180, 0, 45, 21, 6, 46] dwX11_fresh_142 rfl rfl)
theorem dX11_fresh_152 : decode cX11_fresh 152 = .ok (.iload 6, 2) := dko_21 (dk_t 10 152 [21, 6, 46] dwX11_fresh_142 rfl rfl)
theorem dX11_fresh_154 : decode cX11_fresh 154 = .ok (.iaload, 1) := dko_46 (dk_t 12 154 [46] dwX11_fresh_142 rfl rfl)
theorem dwX11_fresh_155 : dkW cX11_fresh 155 [159, 0, 7, 4, 167, 0, 34, 3, 167, 0, 30, 21, 7] = true := by decide +kernel
theorem dX11_fresh_155 : decode cX11_fresh 155 = .ok (.if_icmp .eq 7, 3) := dko_159 dwX11_fresh_155
theorem dX11_fresh_158 : decode cX11_fresh 158 = .ok (.iconst 1, 1) := dko_4 (dk_t 3 158 [4, 167, 0, 34, 3, 167, 0, 30, 21, 7] dwX11_fresh_155 rfl rfl)
theorem dX11_fresh_159 : decode cX11_fresh 159 = .ok (.goto 34, 3) := dko_167 (dk_t 4 159 [167, 0, 34, 3, 167, 0, 30, 21, 7] dwX11_fresh_155 rfl rfl)
theorem dX11_fresh_162 : decode cX11_fresh 162 = .ok (.iconst 0, 1) := dko_3 (dk_t 7 162 [3, 167, 0, 30, 21, 7] dwX11_fresh_155 rfl rfl)
theorem dX11_fresh_163 : decode cX11_fresh 163 = .ok (.goto 30, 3) := dko_167 (dk_t 8 163 [167, 0, 30, 21, 7] dwX11_fresh_155 rfl rfl)
theorem dX11_fresh_166 : decode cX11_fresh 166 = .ok (.iload 7, 2) := dko_21 (dk_t 11 166 [21, 7] dwX11_fresh_155 rfl rfl)
theorem dwX11_fresh_168 : dkW cX11_fresh 168 [154, 0, 24, 42, 180, 0, 45, 21, 6, 46, 42, 180, 0, 42] = true := by decide +kernel
theorem dX11_fresh_168 : decode cX11_fresh 168 = .ok (.ifCond .ne 24, 3) := dko_154 dwX11_fresh_168
theorem dX11_fresh_171 : decode cX11_fresh 171 = .ok (.aload_n 0, 1) := dko_42 (dk_t 3 171 [42, 180, 0, 45, 21, 6, 46, 42, 180, 0, 42] dwX11_fresh_168 rfl rfl)
theorem dX11_fresh_172 : decode cX11_fresh 172 = .ok (.getfield 45, 3) := dko_180 (dk_t 4 172 [180, 0, 45, 21, 6, 46, 42, 180, 0, 42] dwX11_fresh_168 rfl rfl)
theorem dX11_fresh_175 : decode cX11_fresh 175 = .ok (.iload 6, 2) := dko_21 (dk_t 7 175 [21, 6, 46, 42, 180, 0, 42] dwX11_fresh_168 rfl rfl)
theorem dX11_fresh_177 : decode cX11_fresh 177 = .ok (.iaload, 1) := dko_46 (dk_t 9 177 [46, 42, 180, 0, 42] dwX11_fresh_168 rfl rfl)
theorem dX11_fresh_178 : decode cX11_fresh 178 = .ok (.aload_n 0, 1) := dko_42 (dk_t 10 178 [42, 180, 0, 42] dwX11_fresh_168 rfl rfl)
theorem dX11_fresh_179 : decode cX11_fresh 179 = .ok (.getfield 42, 3) := dko_180 (dk_t 11 179 [180, 0, 42] dwX11_fresh_168 rfl rfl)
theorem dwX11_fresh_182 : dkW cX11_fresh 182 [21, 6, 46, 159, 0, 7, 4, 167, 0, 4, 3, 96, 62] = true := by decide +kernel
theorem dX11_fresh_182 : decode cX11_fresh 182 = .ok (.iload 6, 2) := dko_21 dwX11_fresh_182
theorem dX11_fresh_184 : decode cX11_fresh 184 = .ok (.iaload, 1) := dko_46 (dk_t 2 184 [46, 159, 0, 7, 4, 167, 0, 4, 3, 96, 62] dwX11_fresh_182 rfl rfl)
theorem dX11_fresh_185 : decode cX11_fresh 185 = .ok (.if_icmp .eq 7, 3) := dko_159 (dk_t 3 185 [159, 0, 7, 4, 167, 0, 4, 3, 96, 62] dwX11_fresh_182 rfl rfl)
theorem dX11_fresh_188 : decode cX11_fresh 188 = .ok (.iconst 1, 1) := dko_4 (dk_t 6 188 [4, 167, 0, 4, 3, 96, 62] dwX11_fresh_182 rfl rfl)
theorem dX11_fresh_189 : decode cX11_fresh 189 = .ok (.goto 4, 3) := dko_167 (dk_t 7 189 [167, 0, 4, 3, 96, 62] dwX11_fresh_182 rfl rfl)
theorem dX11_fresh_192 : decode cX11_fresh 192 = .ok (.iconst 0, 1) := dko_3 (dk_t 10 192 [3, 96, 62] dwX11_fresh_182 rfl rfl)
theorem dX11_fresh_193 : decode cX11_fresh 193 = .ok (.iadd, 1) := dko_96 (dk_t 11 193 [96, 62] dwX11_fresh_182 rfl rfl)
theorem dX11_fresh_194 : decode cX11_fresh 194 = .ok (.istore_n 3, 1) := dko_62 (dk_t 12 194 [62] dwX11_fresh_182 rfl rfl)
theorem dwX11_fresh_195 : dkW cX11_fresh 195 [132, 5, 1, 167, 255, 145, 132, 4, 1, 167, 255, 103, 29, 172] = true := by decide +kernel
theorem dX11_fresh_195 : decode cX11_fresh 195 = .ok (.iinc 5 1, 3) := dko_132 dwX11_fresh_195
theorem dX11_fresh_198 : decode cX11_fresh 198 = .ok (.goto (-111), 3) := dko_167 (dk_t 3 198 [167, 255, 145, 132, 4, 1, 167, 255, 103, 29, 172] dwX11_fresh_195 rfl rfl)
theorem dX11_fresh_201 : decode cX11_fresh 201 = .ok (.iinc 4 1, 3) := dko_132 (dk_t 6 201 [132, 4, 1, 167, 255, 103, 29, 172] dwX11_fresh_195 rfl rfl)
theorem dX11_fresh_204 : decode cX11_fresh 204 = .ok (.goto (-153), 3) := dko_167 (dk_t 9 204 [167, 255, 103, 29, 172] dwX11_fresh_195 rfl rfl)
theorem dX11_fresh_207 : decode cX11_fresh 207 = .ok (.iload_n 3, 1) := dko_29 (dk_t 12 207 [29, 172] dwX11_fresh_195 rfl rfl)
theorem dX11_fresh_208 : decode cX11_fresh 208 = .ok (.ireturn, 1) := dko_172 (dk_t 13 208 [172] dwX11_fresh_195 rfl rfl)
theorem dwX11_question_0 : dkW cX11_question 0 [42, 3, 181, 0, 134, 42, 27, 182, 0, 162, 153, 0, 33, 28] = true := by decide +kernel
theorem dX11_question_0 : decode cX11_question 0 = .ok (.aload_n 0, 1) := dko_42 dwX11_question_0
theorem dX11_question_1 : decode cX11_question 1 = .ok (.iconst 0, 1) := dko_3 (dk_t 1 1 [3, 181, 0, 134, 42, 27, 182, 0, 162, 153, 0, 33, 28] dwX11_question_0 rfl rfl)
theorem dX11_question_2 : decode cX11_question 2 = .ok (.putfield 134, 3) := dko_181 (dk_t 2 2 [181, 0, 134, 42, 27, 182, 0, 162, 153, 0, 33, 28] dwX11_question_0 rfl rfl)
theorem dX11_question_5 : decode cX11_question 5 = .ok (.aload_n 0, 1) := dko_42 (dk_t 5 5 [42, 27, 182, 0, 162, 153, 0, 33, 28] dwX11_question_0 rfl rfl)
theorem dX11_question_6 : decode cX11_question 6 = .ok (.iload_n 1, 1) := dko_27 (dk_t 6 6 [27, 182, 0, 162, 153, 0, 33, 28] dwX11_question_0 rfl rfl)
theorem dX11_question_7 : decode cX11_question 7 = .ok (.invokevirtual 162, 3) := dko_182 (dk_t 7 7 [182, 0, 162, 153, 0, 33, 28] dwX11_question_0 rfl rfl)
theorem dX11_question_10 : decode cX11_question 10 = .ok (.ifCond .eq 33, 3) := dko_153 (dk_t 10 10 [153, 0, 33, 28] dwX11_question_0 rfl rfl)
theorem dX11_question_13 : decode cX11_question 13 = .ok (.iload_n 2, 1) := dko_28 (dk_t 13 13 [28] dwX11_question_0 rfl rfl)
theorem dwX11_question_14 : dkW cX11_question 14 [133, 42, 27, 182, 0, 179, 133, 42, 27, 182, 0, 183, 133] = true := by decide +kernel
theorem dX11_question_14 : decode cX11_question 14 = .ok (.i2l, 1) := dko_133 dwX11_question_14
theorem dX11_question_15 : decode cX11_question 15 = .ok (.aload_n 0, 1) := dko_42 (dk_t 1 15 [42, 27, 182, 0, 179, 133, 42, 27, 182, 0, 183, 133] dwX11_question_14 rfl rfl)
theorem dX11_question_16 : decode cX11_question 16 = .ok (.iload_n 1, 1) := dko_27 (dk_t 2 16 [27, 182, 0, 179, 133, 42, 27, 182, 0, 183, 133] dwX11_question_14 rfl rfl)
theorem dX11_question_17 : decode cX11_question 17 = .ok (.invokevirtual 179, 3) := dko_182 (dk_t 3 17 [182, 0, 179, 133, 42, 27, 182, 0, 183, 133] dwX11_question_14 rfl rfl)
theorem dX11_question_20 : decode cX11_question 20 = .ok (.i2l, 1) := dko_133 (dk_t 6 20 [133, 42, 27, 182, 0, 183, 133] dwX11_question_14 rfl rfl)
theorem dX11_question_21 : decode cX11_question 21 = .ok (.aload_n 0, 1) := dko_42 (dk_t 7 21 [42, 27, 182, 0, 183, 133] dwX11_question_14 rfl rfl)
theorem dX11_question_22 : decode cX11_question 22 = .ok (.iload_n 1, 1) := dko_27 (dk_t 8 22 [27, 182, 0, 183, 133] dwX11_question_14 rfl rfl)
theorem dX11_question_23 : decode cX11_question 23 = .ok (.invokevirtual 183, 3) := dko_182 (dk_t 9 23 [182, 0, 183, 133] dwX11_question_14 rfl rfl)
theorem dX11_question_26 : decode cX11_question 26 = .ok (.i2l, 1) := dko_133 (dk_t 12 26 [133] dwX11_question_14 rfl rfl)
theorem dwX11_question_27 : dkW cX11_question 27 [184, 0, 139, 153, 0, 13, 29, 133, 9, 10, 184, 0, 139] = true := by decide +kernel
theorem dX11_question_27 : decode cX11_question 27 = .ok (.invokestatic 139, 3) := dko_184 dwX11_question_27
theorem dX11_question_30 : decode cX11_question 30 = .ok (.ifCond .eq 13, 3) := dko_153 (dk_t 3 30 [153, 0, 13, 29, 133, 9, 10, 184, 0, 139] dwX11_question_27 rfl rfl)
theorem dX11_question_33 : decode cX11_question 33 = .ok (.iload_n 3, 1) := dko_29 (dk_t 6 33 [29, 133, 9, 10, 184, 0, 139] dwX11_question_27 rfl rfl)
theorem dX11_question_34 : decode cX11_question 34 = .ok (.i2l, 1) := dko_133 (dk_t 7 34 [133, 9, 10, 184, 0, 139] dwX11_question_27 rfl rfl)
theorem dX11_question_35 : decode cX11_question 35 = .ok (.lconst 0, 1) := dko_9 (dk_t 8 35 [9, 10, 184, 0, 139] dwX11_question_27 rfl rfl)
theorem dX11_question_36 : decode cX11_question 36 = .ok (.lconst 1, 1) := dko_10 (dk_t 9 36 [10, 184, 0, 139] dwX11_question_27 rfl rfl)
theorem dX11_question_37 : decode cX11_question 37 = .ok (.invokestatic 139, 3) := dko_184 (dk_t 10 37 [184, 0, 139] dwX11_question_27 rfl rfl)
theorem dwX11_question_40 : dkW cX11_question 40 [154, 0, 6, 18, 57, 172, 29, 154, 0, 17, 42, 27, 28, 42] = true := by decide +kernel
theorem dX11_question_40 : decode cX11_question 40 = .ok (.ifCond .ne 6, 3) := dko_154 dwX11_question_40
theorem dX11_question_43 : decode cX11_question 43 = .ok (.ldc 57, 2) := dko_18 (dk_t 3 43 [18, 57, 172, 29, 154, 0, 17, 42, 27, 28, 42] dwX11_question_40 rfl rfl)
theorem dX11_question_45 : decode cX11_question 45 = .ok (.ireturn, 1) := dko_172 (dk_t 5 45 [172, 29, 154, 0, 17, 42, 27, 28, 42] dwX11_question_40 rfl rfl)
theorem dX11_question_46 : decode cX11_question 46 = .ok (.iload_n 3, 1) := dko_29 (dk_t 6 46 [29, 154, 0, 17, 42, 27, 28, 42] dwX11_question_40 rfl rfl)
theorem dX11_question_47 : decode cX11_question 47 = .ok (.ifCond .ne 17, 3) := dko_154 (dk_t 7 47 [154, 0, 17, 42, 27, 28, 42] dwX11_question_40 rfl rfl)
theorem dX11_question_50 : decode cX11_question 50 = .ok (.aload_n 0, 1) := dko_42 (dk_t 10 50 [42, 27, 28, 42] dwX11_question_40 rfl rfl)
theorem dX11_question_51 : decode cX11_question 51 = .ok (.iload_n 1, 1) := dko_27 (dk_t 11 51 [27, 28, 42] dwX11_question_40 rfl rfl)
theorem dX11_question_52 : decode cX11_question 52 = .ok (.iload_n 2, 1) := dko_28 (dk_t 12 52 [28, 42] dwX11_question_40 rfl rfl)
theorem dX11_question_53 : decode cX11_question 53 = .ok (.aload_n 0, 1) := dko_42 (dk_t 13 53 [42] dwX11_question_40 rfl rfl)
theorem dwX11_question_54 : dkW cX11_question 54 [180, 0, 9, 3, 182, 0, 189, 167, 0, 22, 42, 27, 28, 42] = true := by decide +kernel
theorem dX11_question_54 : decode cX11_question 54 = .ok (.getfield 9, 3) := dko_180 dwX11_question_54
theorem dX11_question_57 : decode cX11_question 57 = .ok (.iconst 0, 1) := dko_3 (dk_t 3 57 [3, 182, 0, 189, 167, 0, 22, 42, 27, 28, 42] dwX11_question_54 rfl rfl)
theorem dX11_question_58 : decode cX11_question 58 = .ok (.invokevirtual 189, 3) := dko_182 (dk_t 4 58 [182, 0, 189, 167, 0, 22, 42, 27, 28, 42] dwX11_question_54 rfl rfl)
theorem dX11_question_61 : decode cX11_question 61 = .ok (.goto 22, 3) := dko_167 (dk_t 7 61 [167, 0, 22, 42, 27, 28, 42] dwX11_question_54 rfl rfl)
theorem dX11_question_64 : decode cX11_question 64 = .ok (.aload_n 0, 1) := dko_42 (dk_t 10 64 [42, 27, 28, 42] dwX11_question_54 rfl rfl)
theorem dX11_question_65 : decode cX11_question 65 = .ok (.iload_n 1, 1) := dko_27 (dk_t 11 65 [27, 28, 42] dwX11_question_54 rfl rfl)
theorem dX11_question_66 : decode cX11_question 66 = .ok (.iload_n 2, 1) := dko_28 (dk_t 12 66 [28, 42] dwX11_question_54 rfl rfl)
theorem dX11_question_67 : decode cX11_question 67 = .ok (.aload_n 0, 1) := dko_42 (dk_t 13 67 [42] dwX11_question_54 rfl rfl)
theorem dwX11_question_68 : dkW cX11_question 68 [180, 0, 9, 3, 182, 0, 221, 153, 0, 7, 4, 167, 0, 4] = true := by decide +kernel
theorem dX11_question_68 : decode cX11_question 68 = .ok (.getfield 9, 3) := dko_180 dwX11_question_68
theorem dX11_question_71 : decode cX11_question 71 = .ok (.iconst 0, 1) := dko_3 (dk_t 3 71 [3, 182, 0, 221, 153, 0, 7, 4, 167, 0, 4] dwX11_question_68 rfl rfl)
theorem dX11_question_72 : decode cX11_question 72 = .ok (.invokevirtual 221, 3) := dko_182 (dk_t 4 72 [182, 0, 221, 153, 0, 7, 4, 167, 0, 4] dwX11_question_68 rfl rfl)
theorem dX11_question_75 : decode cX11_question 75 = .ok (.ifCond .eq 7, 3) := dko_153 (dk_t 7 75 [153, 0, 7, 4, 167, 0, 4] dwX11_question_68 rfl rfl)
theorem dX11_question_78 : decode cX11_question 78 = .ok (.iconst 1, 1) := dko_4 (dk_t 10 78 [4, 167, 0, 4] dwX11_question_68 rfl rfl)
theorem dX11_question_79 : decode cX11_question 79 = .ok (.goto 4, 3) := dko_167 (dk_t 11 79 [167, 0, 4] dwX11_question_68 rfl rfl)
theorem dwX11_question_82 : dkW cX11_question 82 [3, 172] = true := by decide +kernel
theorem dX11_question_82 : decode cX11_question 82 = .ok (.iconst 0, 1) := dko_3 dwX11_question_82
theorem dX11_question_83 : decode cX11_question 83 = .ok (.ireturn, 1) := dko_172 (dk_t 1 83 [172] dwX11_question_82 rfl rfl)
theorem dwX11_first_0 : dkW cX11_first 0 [42, 3, 181, 0, 134, 27, 133, 9, 20, 1, 131, 184, 0, 139] = true := by decide +kernel
theorem dX11_first_0 : decode cX11_first 0 = .ok (.aload_n 0, 1) := dko_42 dwX11_first_0
theorem dX11_first_1 : decode cX11_first 1 = .ok (.iconst 0, 1) := dko_3 (dk_t 1 1 [3, 181, 0, 134, 27, 133, 9, 20, 1, 131, 184, 0, 139] dwX11_first_0 rfl rfl)
theorem dX11_first_2 : decode cX11_first 2 = .ok (.putfield 134, 3) := dko_181 (dk_t 2 2 [181, 0, 134, 27, 133, 9, 20, 1, 131, 184, 0, 139] dwX11_first_0 rfl rfl)
theorem dX11_first_5 : decode cX11_first 5 = .ok (.iload_n 1, 1) := dko_27 (dk_t 5 5 [27, 133, 9, 20, 1, 131, 184, 0, 139] dwX11_first_0 rfl rfl)
theorem dX11_first_6 : decode cX11_first 6 = .ok (.i2l, 1) := dko_133 (dk_t 6 6 [133, 9, 20, 1, 131, 184, 0, 139] dwX11_first_0 rfl rfl)
theorem dX11_first_7 : decode cX11_first 7 = .ok (.lconst 0, 1) := dko_9 (dk_t 7 7 [9, 20, 1, 131, 184, 0, 139] dwX11_first_0 rfl rfl)
theorem dX11_first_8 : decode cX11_first 8 = .ok (.ldc2_w 387, 3) := dko_20 (dk_t 8 8 [20, 1, 131, 184, 0, 139] dwX11_first_0 rfl rfl)
theorem dX11_first_11 : decode cX11_first 11 = .ok (.invokestatic 139, 3) := dko_184 (dk_t 11 11 [184, 0, 139] dwX11_first_0 rfl rfl)
theorem dwX11_first_14 : dkW cX11_first 14 [154, 0, 6, 18, 57, 172, 42, 180, 0, 206, 154, 0, 5, 2] = true := by decide +kernel
theorem dX11_first_14 : decode cX11_first 14 = .ok (.ifCond .ne 6, 3) := dko_154 dwX11_first_14
theorem dX11_first_17 : decode cX11_first 17 = .ok (.ldc 57, 2) := dko_18 (dk_t 3 17 [18, 57, 172, 42, 180, 0, 206, 154, 0, 5, 2] dwX11_first_14 rfl rfl)
theorem dX11_first_19 : decode cX11_first 19 = .ok (.ireturn, 1) := dko_172 (dk_t 5 19 [172, 42, 180, 0, 206, 154, 0, 5, 2] dwX11_first_14 rfl rfl)
theorem dX11_first_20 : decode cX11_first 20 = .ok (.aload_n 0, 1) := dko_42 (dk_t 6 20 [42, 180, 0, 206, 154, 0, 5, 2] dwX11_first_14 rfl rfl)
theorem dX11_first_21 : decode cX11_first 21 = .ok (.getfield 206, 3) := dko_180 (dk_t 7 21 [180, 0, 206, 154, 0, 5, 2] dwX11_first_14 rfl rfl)
theorem dX11_first_24 : decode cX11_first 24 = .ok (.ifCond .ne 5, 3) := dko_154 (dk_t 10 24 [154, 0, 5, 2] dwX11_first_14 rfl rfl)
theorem dX11_first_27 : decode cX11_first 27 = .ok (.iconst (-1), 1) := dko_2 (dk_t 13 27 [2] dwX11_first_14 rfl rfl)
theorem dwX11_first_28 : dkW cX11_first 28 [172, 42, 182, 0, 218, 3, 61, 3, 62, 29, 42, 180, 0, 203] = true := by decide +kernel
theorem dX11_first_28 : decode cX11_first 28 = .ok (.ireturn, 1) := dko_172 dwX11_first_28
theorem dX11_first_29 : decode cX11_first 29 = .ok (.aload_n 0, 1) := dko_42 (dk_t 1 29 [42, 182, 0, 218, 3, 61, 3, 62, 29, 42, 180, 0, 203] dwX11_first_28 rfl rfl)
theorem dX11_first_30 : decode cX11_first 30 = .ok (.invokevirtual 218, 3) := dko_182 (dk_t 2 30 [182, 0, 218, 3, 61, 3, 62, 29, 42, 180, 0, 203] dwX11_first_28 rfl rfl)
theorem dX11_first_33 : decode cX11_first 33 = .ok (.iconst 0, 1) := dko_3 (dk_t 5 33 [3, 61, 3, 62, 29, 42, 180, 0, 203] dwX11_first_28 rfl rfl)
theorem dX11_first_34 : decode cX11_first 34 = .ok (.istore_n 2, 1) := dko_61 (dk_t 6 34 [61, 3, 62, 29, 42, 180, 0, 203] dwX11_first_28 rfl rfl)
theorem dX11_first_35 : decode cX11_first 35 = .ok (.iconst 0, 1) := dko_3 (dk_t 7 35 [3, 62, 29, 42, 180, 0, 203] dwX11_first_28 rfl rfl)
theorem dX11_first_36 : decode cX11_first 36 = .ok (.istore_n 3, 1) := dko_62 (dk_t 8 36 [62, 29, 42, 180, 0, 203] dwX11_first_28 rfl rfl)
theorem dX11_first_37 : decode cX11_first 37 = .ok (.iload_n 3, 1) := dko_29 (dk_t 9 37 [29, 42, 180, 0, 203] dwX11_first_28 rfl rfl)
theorem dX11_first_38 : decode cX11_first 38 = .ok (.aload_n 0, 1) := dko_42 (dk_t 10 38 [42, 180, 0, 203] dwX11_first_28 rfl rfl)
theorem dX11_first_39 : decode cX11_first 39 = .ok (.getfield 203, 3) := dko_180 (dk_t 11 39 [180, 0, 203] dwX11_first_28 rfl rfl)
theorem dwX11_first_42 : dkW cX11_first 42 [162, 0, 41, 28, 42, 42, 180, 0, 51, 29, 46, 42] = true := by decide +kernel
theorem dX11_first_42 : decode cX11_first 42 = .ok (.if_icmp .ge 41, 3) := dko_162 dwX11_first_42
theorem dX11_first_45 : decode cX11_first 45 = .ok (.iload_n 2, 1) := dko_28 (dk_t 3 45 [28, 42, 42, 180, 0, 51, 29, 46, 42] dwX11_first_42 rfl rfl)
theorem dX11_first_46 : decode cX11_first 46 = .ok (.aload_n 0, 1) := dko_42 (dk_t 4 46 [42, 42, 180, 0, 51, 29, 46, 42] dwX11_first_42 rfl rfl)
theorem dX11_first_47 : decode cX11_first 47 = .ok (.aload_n 0, 1) := dko_42 (dk_t 5 47 [42, 180, 0, 51, 29, 46, 42] dwX11_first_42 rfl rfl)
theorem dX11_first_48 : decode cX11_first 48 = .ok (.getfield 51, 3) := dko_180 (dk_t 6 48 [180, 0, 51, 29, 46, 42] dwX11_first_42 rfl rfl)
theorem dX11_first_51 : decode cX11_first 51 = .ok (.iload_n 3, 1) := dko_29 (dk_t 9 51 [29, 46, 42] dwX11_first_42 rfl rfl)
theorem dX11_first_52 : decode cX11_first 52 = .ok (.iaload, 1) := dko_46 (dk_t 10 52 [46, 42] dwX11_first_42 rfl rfl)
theorem dX11_first_53 : decode cX11_first 53 = .ok (.aload_n 0, 1) := dko_42 (dk_t 11 53 [42] dwX11_first_42 rfl rfl)
theorem dwX11_first_54 : dkW cX11_first 54 [180, 0, 54, 29, 46, 42, 180, 0, 9, 3, 182, 0, 221] = true := by decide +kernel
theorem dX11_first_54 : decode cX11_first 54 = .ok (.getfield 54, 3) := dko_180 dwX11_first_54
theorem dX11_first_57 : decode cX11_first 57 = .ok (.iload_n 3, 1) := dko_29 (dk_t 3 57 [29, 46, 42, 180, 0, 9, 3, 182, 0, 221] dwX11_first_54 rfl rfl)
theorem dX11_first_58 : decode cX11_first 58 = .ok (.iaload, 1) := dko_46 (dk_t 4 58 [46, 42, 180, 0, 9, 3, 182, 0, 221] dwX11_first_54 rfl rfl)
theorem dX11_first_59 : decode cX11_first 59 = .ok (.aload_n 0, 1) := dko_42 (dk_t 5 59 [42, 180, 0, 9, 3, 182, 0, 221] dwX11_first_54 rfl rfl)
theorem dX11_first_60 : decode cX11_first 60 = .ok (.getfield 9, 3) := dko_180 (dk_t 6 60 [180, 0, 9, 3, 182, 0, 221] dwX11_first_54 rfl rfl)
theorem dX11_first_63 : decode cX11_first 63 = .ok (.iconst 0, 1) := dko_3 (dk_t 9 63 [3, 182, 0, 221] dwX11_first_54 rfl rfl)
theorem dX11_first_64 : decode cX11_first 64 = .ok (.invokevirtual 221, 3) := dko_182 (dk_t 10 64 [182, 0, 221] dwX11_first_54 rfl rfl)
theorem dwX11_first_67 : dkW cX11_first 67 [153, 0, 7, 4, 167, 0, 4, 3, 96, 61, 132, 3, 1] = true := by decide +kernel
theorem dX11_first_67 : decode cX11_first 67 = .ok (.ifCond .eq 7, 3) := dko_153 dwX11_first_67
theorem dX11_first_70 : decode cX11_first 70 = .ok (.iconst 1, 1) := dko_4 (dk_t 3 70 [4, 167, 0, 4, 3, 96, 61, 132, 3, 1] dwX11_first_67 rfl rfl)
theorem dX11_first_71 : decode cX11_first 71 = .ok (.goto 4, 3) := dko_167 (dk_t 4 71 [167, 0, 4, 3, 96, 61, 132, 3, 1] dwX11_first_67 rfl rfl)
theorem dX11_first_74 : decode cX11_first 74 = .ok (.iconst 0, 1) := dko_3 (dk_t 7 74 [3, 96, 61, 132, 3, 1] dwX11_first_67 rfl rfl)
theorem dX11_first_75 : decode cX11_first 75 = .ok (.iadd, 1) := dko_96 (dk_t 8 75 [96, 61, 132, 3, 1] dwX11_first_67 rfl rfl)
theorem dX11_first_76 : decode cX11_first 76 = .ok (.istore_n 2, 1) := dko_61 (dk_t 9 76 [61, 132, 3, 1] dwX11_first_67 rfl rfl)
theorem dX11_first_77 : decode cX11_first 77 = .ok (.iinc 3 1, 3) := dko_132 (dk_t 10 77 [132, 3, 1] dwX11_first_67 rfl rfl)
theorem dwX11_first_80 : dkW cX11_first 80 [167, 255, 213, 42, 182, 1, 57, 62, 27, 6, 160, 0, 7, 28] = true := by decide +kernel
theorem dX11_first_80 : decode cX11_first 80 = .ok (.goto (-43), 3) := dko_167 dwX11_first_80
theorem dX11_first_83 : decode cX11_first 83 = .ok (.aload_n 0, 1) := dko_42 (dk_t 3 83 [42, 182, 1, 57, 62, 27, 6, 160, 0, 7, 28] dwX11_first_80 rfl rfl)
theorem dX11_first_84 : decode cX11_first 84 = .ok (.invokevirtual 313, 3) := dko_182 (dk_t 4 84 [182, 1, 57, 62, 27, 6, 160, 0, 7, 28] dwX11_first_80 rfl rfl)
theorem dX11_first_87 : decode cX11_first 87 = .ok (.istore_n 3, 1) := dko_62 (dk_t 7 87 [62, 27, 6, 160, 0, 7, 28] dwX11_first_80 rfl rfl)
theorem dX11_first_88 : decode cX11_first 88 = .ok (.iload_n 1, 1) := dko_27 (dk_t 8 88 [27, 6, 160, 0, 7, 28] dwX11_first_80 rfl rfl)
theorem dX11_first_89 : decode cX11_first 89 = .ok (.iconst 3, 1) := dko_6 (dk_t 9 89 [6, 160, 0, 7, 28] dwX11_first_80 rfl rfl)
theorem dX11_first_90 : decode cX11_first 90 = .ok (.if_icmp .ne 7, 3) := dko_160 (dk_t 10 90 [160, 0, 7, 28] dwX11_first_80 rfl rfl)
theorem dX11_first_93 : decode cX11_first 93 = .ok (.iload_n 2, 1) := dko_28 (dk_t 13 93 [28] dwX11_first_80 rfl rfl)
theorem dwX11_first_94 : dkW cX11_first 94 [167, 0, 40, 29, 2, 160, 0, 7, 2, 167, 0, 31, 27] = true := by decide +kernel
theorem dX11_first_94 : decode cX11_first 94 = .ok (.goto 40, 3) := dko_167 dwX11_first_94
theorem dX11_first_97 : decode cX11_first 97 = .ok (.iload_n 3, 1) := dko_29 (dk_t 3 97 [29, 2, 160, 0, 7, 2, 167, 0, 31, 27] dwX11_first_94 rfl rfl)
theorem dX11_first_98 : decode cX11_first 98 = .ok (.iconst (-1), 1) := dko_2 (dk_t 4 98 [2, 160, 0, 7, 2, 167, 0, 31, 27] dwX11_first_94 rfl rfl)
theorem dX11_first_99 : decode cX11_first 99 = .ok (.if_icmp .ne 7, 3) := dko_160 (dk_t 5 99 [160, 0, 7, 2, 167, 0, 31, 27] dwX11_first_94 rfl rfl)
theorem dX11_first_102 : decode cX11_first 102 = .ok (.iconst (-1), 1) := dko_2 (dk_t 8 102 [2, 167, 0, 31, 27] dwX11_first_94 rfl rfl)
theorem dX11_first_103 : decode cX11_first 103 = .ok (.goto 31, 3) := dko_167 (dk_t 9 103 [167, 0, 31, 27] dwX11_first_94 rfl rfl)
theorem dX11_first_106 : decode cX11_first 106 = .ok (.iload_n 1, 1) := dko_27 (dk_t 12 106 [27] dwX11_first_94 rfl rfl)
theorem dwX11_first_107 : dkW cX11_first 107 [154, 0, 12, 42, 180, 0, 51, 29, 46, 167, 0, 18, 27, 4] = true := by decide +kernel
theorem dX11_first_107 : decode cX11_first 107 = .ok (.ifCond .ne 12, 3) := dko_154 dwX11_first_107
theorem dX11_first_110 : decode cX11_first 110 = .ok (.aload_n 0, 1) := dko_42 (dk_t 3 110 [42, 180, 0, 51, 29, 46, 167, 0, 18, 27, 4] dwX11_first_107 rfl rfl)
theorem dX11_first_111 : decode cX11_first 111 = .ok (.getfield 51, 3) := dko_180 (dk_t 4 111 [180, 0, 51, 29, 46, 167, 0, 18, 27, 4] dwX11_first_107 rfl rfl)
theorem dX11_first_114 : decode cX11_first 114 = .ok (.iload_n 3, 1) := dko_29 (dk_t 7 114 [29, 46, 167, 0, 18, 27, 4] dwX11_first_107 rfl rfl)
theorem dX11_first_115 : decode cX11_first 115 = .ok (.iaload, 1) := dko_46 (dk_t 8 115 [46, 167, 0, 18, 27, 4] dwX11_first_107 rfl rfl)
theorem dX11_first_116 : decode cX11_first 116 = .ok (.goto 18, 3) := dko_167 (dk_t 9 116 [167, 0, 18, 27, 4] dwX11_first_107 rfl rfl)
theorem dX11_first_119 : decode cX11_first 119 = .ok (.iload_n 1, 1) := dko_27 (dk_t 12 119 [27, 4] dwX11_first_107 rfl rfl)
theorem dX11_first_120 : decode cX11_first 120 = .ok (.iconst 1, 1) := dko_4 (dk_t 13 120 [4] dwX11_first_107 rfl rfl)
theorem dwX11_first_121 : dkW cX11_first 121 [160, 0, 12, 42, 180, 0, 54, 29, 46, 167, 0, 4, 29, 172] = true := by decide +kernel
theorem dX11_first_121 : decode cX11_first 121 = .ok (.if_icmp .ne 12, 3) := dko_160 dwX11_first_121
theorem dX11_first_124 : decode cX11_first 124 = .ok (.aload_n 0, 1) := dko_42 (dk_t 3 124 [42, 180, 0, 54, 29, 46, 167, 0, 4, 29, 172] dwX11_first_121 rfl rfl)
theorem dX11_first_125 : decode cX11_first 125 = .ok (.getfield 54, 3) := dko_180 (dk_t 4 125 [180, 0, 54, 29, 46, 167, 0, 4, 29, 172] dwX11_first_121 rfl rfl)
theorem dX11_first_128 : decode cX11_first 128 = .ok (.iload_n 3, 1) := dko_29 (dk_t 7 128 [29, 46, 167, 0, 4, 29, 172] dwX11_first_121 rfl rfl)
theorem dX11_first_129 : decode cX11_first 129 = .ok (.iaload, 1) := dko_46 (dk_t 8 129 [46, 167, 0, 4, 29, 172] dwX11_first_121 rfl rfl)
theorem dX11_first_130 : decode cX11_first 130 = .ok (.goto 4, 3) := dko_167 (dk_t 9 130 [167, 0, 4, 29, 172] dwX11_first_121 rfl rfl)
theorem dX11_first_133 : decode cX11_first 133 = .ok (.iload_n 3, 1) := dko_29 (dk_t 12 133 [29, 172] dwX11_first_121 rfl rfl)
theorem dX11_first_134 : decode cX11_first 134 = .ok (.ireturn, 1) := dko_172 (dk_t 13 134 [172] dwX11_first_121 rfl rfl)
theorem dwX11_all_0 : dkW cX11_all 0 [42, 3, 181, 0, 134, 27, 133, 9, 20, 0, 137, 184, 0, 139] = true := by decide +kernel
theorem dX11_all_0 : decode cX11_all 0 = .ok (.aload_n 0, 1) := dko_42 dwX11_all_0
theorem dX11_all_1 : decode cX11_all 1 = .ok (.iconst 0, 1) := dko_3 (dk_t 1 1 [3, 181, 0, 134, 27, 133, 9, 20, 0, 137, 184, 0, 139] dwX11_all_0 rfl rfl)
theorem dX11_all_2 : decode cX11_all 2 = .ok (.putfield 134, 3) := dko_181 (dk_t 2 2 [181, 0, 134, 27, 133, 9, 20, 0, 137, 184, 0, 139] dwX11_all_0 rfl rfl)
theorem dX11_all_5 : decode cX11_all 5 = .ok (.iload_n 1, 1) := dko_27 (dk_t 5 5 [27, 133, 9, 20, 0, 137, 184, 0, 139] dwX11_all_0 rfl rfl)
theorem dX11_all_6 : decode cX11_all 6 = .ok (.i2l, 1) := dko_133 (dk_t 6 6 [133, 9, 20, 0, 137, 184, 0, 139] dwX11_all_0 rfl rfl)
theorem dX11_all_7 : decode cX11_all 7 = .ok (.lconst 0, 1) := dko_9 (dk_t 7 7 [9, 20, 0, 137, 184, 0, 139] dwX11_all_0 rfl rfl)
theorem dX11_all_8 : decode cX11_all 8 = .ok (.ldc2_w 137, 3) := dko_20 (dk_t 8 8 [20, 0, 137, 184, 0, 139] dwX11_all_0 rfl rfl)
theorem dX11_all_11 : decode cX11_all 11 = .ok (.invokestatic 139, 3) := dko_184 (dk_t 11 11 [184, 0, 139] dwX11_all_0 rfl rfl)
theorem dwX11_all_14 : dkW cX11_all 14 [154, 0, 6, 18, 57, 172, 42, 182, 0, 200, 3, 61, 18, 57] = true := by decide +kernel
theorem dX11_all_14 : decode cX11_all 14 = .ok (.ifCond .ne 6, 3) := dko_154 dwX11_all_14
theorem dX11_all_17 : decode cX11_all 17 = .ok (.ldc 57, 2) := dko_18 (dk_t 3 17 [18, 57, 172, 42, 182, 0, 200, 3, 61, 18, 57] dwX11_all_14 rfl rfl)
theorem dX11_all_19 : decode cX11_all 19 = .ok (.ireturn, 1) := dko_172 (dk_t 5 19 [172, 42, 182, 0, 200, 3, 61, 18, 57] dwX11_all_14 rfl rfl)
theorem dX11_all_20 : decode cX11_all 20 = .ok (.aload_n 0, 1) := dko_42 (dk_t 6 20 [42, 182, 0, 200, 3, 61, 18, 57] dwX11_all_14 rfl rfl)
theorem dX11_all_21 : decode cX11_all 21 = .ok (.invokevirtual 200, 3) := dko_182 (dk_t 7 21 [182, 0, 200, 3, 61, 18, 57] dwX11_all_14 rfl rfl)
theorem dX11_all_24 : decode cX11_all 24 = .ok (.iconst 0, 1) := dko_3 (dk_t 10 24 [3, 61, 18, 57] dwX11_all_14 rfl rfl)
theorem dX11_all_25 : decode cX11_all 25 = .ok (.istore_n 2, 1) := dko_61 (dk_t 11 25 [61, 18, 57] dwX11_all_14 rfl rfl)
theorem dX11_all_26 : decode cX11_all 26 = .ok (.ldc 57, 2) := dko_18 (dk_t 12 26 [18, 57] dwX11_all_14 rfl rfl)
theorem dwX11_all_28 : dkW cX11_all 28 [62, 18, 57, 54, 4, 3, 54, 5, 21, 5, 42, 180, 0, 197] = true := by decide +kernel
theorem dX11_all_28 : decode cX11_all 28 = .ok (.istore_n 3, 1) := dko_62 dwX11_all_28
theorem dX11_all_29 : decode cX11_all 29 = .ok (.ldc 57, 2) := dko_18 (dk_t 1 29 [18, 57, 54, 4, 3, 54, 5, 21, 5, 42, 180, 0, 197] dwX11_all_28 rfl rfl)
theorem dX11_all_31 : decode cX11_all 31 = .ok (.istore 4, 2) := dko_54 (dk_t 3 31 [54, 4, 3, 54, 5, 21, 5, 42, 180, 0, 197] dwX11_all_28 rfl rfl)
theorem dX11_all_33 : decode cX11_all 33 = .ok (.iconst 0, 1) := dko_3 (dk_t 5 33 [3, 54, 5, 21, 5, 42, 180, 0, 197] dwX11_all_28 rfl rfl)
theorem dX11_all_34 : decode cX11_all 34 = .ok (.istore 5, 2) := dko_54 (dk_t 6 34 [54, 5, 21, 5, 42, 180, 0, 197] dwX11_all_28 rfl rfl)
theorem dX11_all_36 : decode cX11_all 36 = .ok (.iload 5, 2) := dko_21 (dk_t 8 36 [21, 5, 42, 180, 0, 197] dwX11_all_28 rfl rfl)
theorem dX11_all_38 : decode cX11_all 38 = .ok (.aload_n 0, 1) := dko_42 (dk_t 10 38 [42, 180, 0, 197] dwX11_all_28 rfl rfl)
theorem dX11_all_39 : decode cX11_all 39 = .ok (.getfield 197, 3) := dko_180 (dk_t 11 39 [180, 0, 197] dwX11_all_28 rfl rfl)
theorem dwX11_all_42 : dkW cX11_all 42 [162, 0, 97, 42, 42, 180, 0, 48, 21, 5, 46, 182, 0, 179] = true := by decide +kernel
theorem dX11_all_42 : decode cX11_all 42 = .ok (.if_icmp .ge 97, 3) := dko_162 dwX11_all_42
theorem dX11_all_45 : decode cX11_all 45 = .ok (.aload_n 0, 1) := dko_42 (dk_t 3 45 [42, 42, 180, 0, 48, 21, 5, 46, 182, 0, 179] dwX11_all_42 rfl rfl)
theorem dX11_all_46 : decode cX11_all 46 = .ok (.aload_n 0, 1) := dko_42 (dk_t 4 46 [42, 180, 0, 48, 21, 5, 46, 182, 0, 179] dwX11_all_42 rfl rfl)
theorem dX11_all_47 : decode cX11_all 47 = .ok (.getfield 48, 3) := dko_180 (dk_t 5 47 [180, 0, 48, 21, 5, 46, 182, 0, 179] dwX11_all_42 rfl rfl)
theorem dX11_all_50 : decode cX11_all 50 = .ok (.iload 5, 2) := dko_21 (dk_t 8 50 [21, 5, 46, 182, 0, 179] dwX11_all_42 rfl rfl)
theorem dX11_all_52 : decode cX11_all 52 = .ok (.iaload, 1) := dko_46 (dk_t 10 52 [46, 182, 0, 179] dwX11_all_42 rfl rfl)
theorem dX11_all_53 : decode cX11_all 53 = .ok (.invokevirtual 179, 3) := dko_182 (dk_t 11 53 [182, 0, 179] dwX11_all_42 rfl rfl)
theorem dwX11_all_56 : dkW cX11_all 56 [54, 6, 21, 6, 42, 42, 180, 0, 48, 21, 5, 46] = true := by decide +kernel
theorem dX11_all_56 : decode cX11_all 56 = .ok (.istore 6, 2) := dko_54 dwX11_all_56
theorem dX11_all_58 : decode cX11_all 58 = .ok (.iload 6, 2) := dko_21 (dk_t 2 58 [21, 6, 42, 42, 180, 0, 48, 21, 5, 46] dwX11_all_56 rfl rfl)
theorem dX11_all_60 : decode cX11_all 60 = .ok (.aload_n 0, 1) := dko_42 (dk_t 4 60 [42, 42, 180, 0, 48, 21, 5, 46] dwX11_all_56 rfl rfl)
theorem dX11_all_61 : decode cX11_all 61 = .ok (.aload_n 0, 1) := dko_42 (dk_t 5 61 [42, 180, 0, 48, 21, 5, 46] dwX11_all_56 rfl rfl)
theorem dX11_all_62 : decode cX11_all 62 = .ok (.getfield 48, 3) := dko_180 (dk_t 6 62 [180, 0, 48, 21, 5, 46] dwX11_all_56 rfl rfl)
theorem dX11_all_65 : decode cX11_all 65 = .ok (.iload 5, 2) := dko_21 (dk_t 9 65 [21, 5, 46] dwX11_all_56 rfl rfl)
theorem dX11_all_67 : decode cX11_all 67 = .ok (.iaload, 1) := dko_46 (dk_t 11 67 [46] dwX11_all_56 rfl rfl)
theorem dwX11_all_68 : dkW cX11_all 68 [182, 0, 183, 163, 0, 62, 42, 42, 180, 0, 48, 21, 5, 46] = true := by decide +kernel
theorem dX11_all_68 : decode cX11_all 68 = .ok (.invokevirtual 183, 3) := dko_182 dwX11_all_68
theorem dX11_all_71 : decode cX11_all 71 = .ok (.if_icmp .gt 62, 3) := dko_163 (dk_t 3 71 [163, 0, 62, 42, 42, 180, 0, 48, 21, 5, 46] dwX11_all_68 rfl rfl)
theorem dX11_all_74 : decode cX11_all 74 = .ok (.aload_n 0, 1) := dko_42 (dk_t 6 74 [42, 42, 180, 0, 48, 21, 5, 46] dwX11_all_68 rfl rfl)
theorem dX11_all_75 : decode cX11_all 75 = .ok (.aload_n 0, 1) := dko_42 (dk_t 7 75 [42, 180, 0, 48, 21, 5, 46] dwX11_all_68 rfl rfl)
theorem dX11_all_76 : decode cX11_all 76 = .ok (.getfield 48, 3) := dko_180 (dk_t 8 76 [180, 0, 48, 21, 5, 46] dwX11_all_68 rfl rfl)
theorem dX11_all_79 : decode cX11_all 79 = .ok (.iload 5, 2) := dko_21 (dk_t 11 79 [21, 5, 46] dwX11_all_68 rfl rfl)
theorem dX11_all_81 : decode cX11_all 81 = .ok (.iaload, 1) := dko_46 (dk_t 13 81 [46] dwX11_all_68 rfl rfl)
theorem dwX11_all_82 : dkW cX11_all 82 [21, 6, 42, 180, 0, 9, 3, 182, 0, 221, 153, 0, 35, 28] = true := by decide +kernel
theorem dX11_all_82 : decode cX11_all 82 = .ok (.iload 6, 2) := dko_21 dwX11_all_82
theorem dX11_all_84 : decode cX11_all 84 = .ok (.aload_n 0, 1) := dko_42 (dk_t 2 84 [42, 180, 0, 9, 3, 182, 0, 221, 153, 0, 35, 28] dwX11_all_82 rfl rfl)
theorem dX11_all_85 : decode cX11_all 85 = .ok (.getfield 9, 3) := dko_180 (dk_t 3 85 [180, 0, 9, 3, 182, 0, 221, 153, 0, 35, 28] dwX11_all_82 rfl rfl)
theorem dX11_all_88 : decode cX11_all 88 = .ok (.iconst 0, 1) := dko_3 (dk_t 6 88 [3, 182, 0, 221, 153, 0, 35, 28] dwX11_all_82 rfl rfl)
theorem dX11_all_89 : decode cX11_all 89 = .ok (.invokevirtual 221, 3) := dko_182 (dk_t 7 89 [182, 0, 221, 153, 0, 35, 28] dwX11_all_82 rfl rfl)
theorem dX11_all_92 : decode cX11_all 92 = .ok (.ifCond .eq 35, 3) := dko_153 (dk_t 10 92 [153, 0, 35, 28] dwX11_all_82 rfl rfl)
theorem dX11_all_95 : decode cX11_all 95 = .ok (.iload_n 2, 1) := dko_28 (dk_t 13 95 [28] dwX11_all_82 rfl rfl)
theorem dwX11_all_96 : dkW cX11_all 96 [154, 0, 13, 42, 180, 0, 48, 21, 5, 46, 167, 0, 4, 29] = true := by decide +kernel
theorem dX11_all_96 : decode cX11_all 96 = .ok (.ifCond .ne 13, 3) := dko_154 dwX11_all_96
theorem dX11_all_99 : decode cX11_all 99 = .ok (.aload_n 0, 1) := dko_42 (dk_t 3 99 [42, 180, 0, 48, 21, 5, 46, 167, 0, 4, 29] dwX11_all_96 rfl rfl)
theorem dX11_all_100 : decode cX11_all 100 = .ok (.getfield 48, 3) := dko_180 (dk_t 4 100 [180, 0, 48, 21, 5, 46, 167, 0, 4, 29] dwX11_all_96 rfl rfl)
theorem dX11_all_103 : decode cX11_all 103 = .ok (.iload 5, 2) := dko_21 (dk_t 7 103 [21, 5, 46, 167, 0, 4, 29] dwX11_all_96 rfl rfl)
theorem dX11_all_105 : decode cX11_all 105 = .ok (.iaload, 1) := dko_46 (dk_t 9 105 [46, 167, 0, 4, 29] dwX11_all_96 rfl rfl)
theorem dX11_all_106 : decode cX11_all 106 = .ok (.goto 4, 3) := dko_167 (dk_t 10 106 [167, 0, 4, 29] dwX11_all_96 rfl rfl)
theorem dX11_all_109 : decode cX11_all 109 = .ok (.iload_n 3, 1) := dko_29 (dk_t 13 109 [29] dwX11_all_96 rfl rfl)
theorem dwX11_all_110 : dkW cX11_all 110 [62, 28, 154, 0, 8, 21, 6, 167, 0, 5, 21, 4, 54, 4] = true := by decide +kernel
theorem dX11_all_110 : decode cX11_all 110 = .ok (.istore_n 3, 1) := dko_62 dwX11_all_110
theorem dX11_all_111 : decode cX11_all 111 = .ok (.iload_n 2, 1) := dko_28 (dk_t 1 111 [28, 154, 0, 8, 21, 6, 167, 0, 5, 21, 4, 54, 4] dwX11_all_110 rfl rfl)
theorem dX11_all_112 : decode cX11_all 112 = .ok (.ifCond .ne 8, 3) := dko_154 (dk_t 2 112 [154, 0, 8, 21, 6, 167, 0, 5, 21, 4, 54, 4] dwX11_all_110 rfl rfl)
theorem dX11_all_115 : decode cX11_all 115 = .ok (.iload 6, 2) := dko_21 (dk_t 5 115 [21, 6, 167, 0, 5, 21, 4, 54, 4] dwX11_all_110 rfl rfl)
theorem dX11_all_117 : decode cX11_all 117 = .ok (.goto 5, 3) := dko_167 (dk_t 7 117 [167, 0, 5, 21, 4, 54, 4] dwX11_all_110 rfl rfl)
theorem dX11_all_120 : decode cX11_all 120 = .ok (.iload 4, 2) := dko_21 (dk_t 10 120 [21, 4, 54, 4] dwX11_all_110 rfl rfl)
theorem dX11_all_122 : decode cX11_all 122 = .ok (.istore 4, 2) := dko_54 (dk_t 12 122 [54, 4] dwX11_all_110 rfl rfl)
theorem dwX11_all_124 : dkW cX11_all 124 [132, 2, 1, 132, 6, 1, 167, 255, 184, 132, 5, 1] = true := by decide +kernel
theorem dX11_all_124 : decode cX11_all 124 = .ok (.iinc 2 1, 3) := dko_132 dwX11_all_124
theorem dX11_all_127 : decode cX11_all 127 = .ok (.iinc 6 1, 3) := dko_132 (dk_t 3 127 [132, 6, 1, 167, 255, 184, 132, 5, 1] dwX11_all_124 rfl rfl)
theorem dX11_all_130 : decode cX11_all 130 = .ok (.goto (-72), 3) := dko_167 (dk_t 6 130 [167, 255, 184, 132, 5, 1] dwX11_all_124 rfl rfl)
theorem dX11_all_133 : decode cX11_all 133 = .ok (.iinc 5 1, 3) := dko_132 (dk_t 9 133 [132, 5, 1] dwX11_all_124 rfl rfl)
theorem dwX11_all_136 : dkW cX11_all 136 [167, 255, 156, 27, 154, 0, 7, 28, 167, 0, 22, 28] = true := by decide +kernel
theorem dX11_all_136 : decode cX11_all 136 = .ok (.goto (-100), 3) := dko_167 dwX11_all_136
theorem dX11_all_139 : decode cX11_all 139 = .ok (.iload_n 1, 1) := dko_27 (dk_t 3 139 [27, 154, 0, 7, 28, 167, 0, 22, 28] dwX11_all_136 rfl rfl)
theorem dX11_all_140 : decode cX11_all 140 = .ok (.ifCond .ne 7, 3) := dko_154 (dk_t 4 140 [154, 0, 7, 28, 167, 0, 22, 28] dwX11_all_136 rfl rfl)
theorem dX11_all_143 : decode cX11_all 143 = .ok (.iload_n 2, 1) := dko_28 (dk_t 7 143 [28, 167, 0, 22, 28] dwX11_all_136 rfl rfl)
theorem dX11_all_144 : decode cX11_all 144 = .ok (.goto 22, 3) := dko_167 (dk_t 8 144 [167, 0, 22, 28] dwX11_all_136 rfl rfl)
theorem dX11_all_147 : decode cX11_all 147 = .ok (.iload_n 2, 1) := dko_28 (dk_t 11 147 [28] dwX11_all_136 rfl rfl)
theorem dwX11_all_148 : dkW cX11_all 148 [154, 0, 7, 2, 167, 0, 14, 27, 4, 160, 0, 7, 29] = true := by decide +kernel
theorem dX11_all_148 : decode cX11_all 148 = .ok (.ifCond .ne 7, 3) := dko_154 dwX11_all_148
theorem dX11_all_151 : decode cX11_all 151 = .ok (.iconst (-1), 1) := dko_2 (dk_t 3 151 [2, 167, 0, 14, 27, 4, 160, 0, 7, 29] dwX11_all_148 rfl rfl)
theorem dX11_all_152 : decode cX11_all 152 = .ok (.goto 14, 3) := dko_167 (dk_t 4 152 [167, 0, 14, 27, 4, 160, 0, 7, 29] dwX11_all_148 rfl rfl)
theorem dX11_all_155 : decode cX11_all 155 = .ok (.iload_n 1, 1) := dko_27 (dk_t 7 155 [27, 4, 160, 0, 7, 29] dwX11_all_148 rfl rfl)
theorem dX11_all_156 : decode cX11_all 156 = .ok (.iconst 1, 1) := dko_4 (dk_t 8 156 [4, 160, 0, 7, 29] dwX11_all_148 rfl rfl)
theorem dX11_all_157 : decode cX11_all 157 = .ok (.if_icmp .ne 7, 3) := dko_160 (dk_t 9 157 [160, 0, 7, 29] dwX11_all_148 rfl rfl)
theorem dX11_all_160 : decode cX11_all 160 = .ok (.iload_n 3, 1) := dko_29 (dk_t 12 160 [29] dwX11_all_148 rfl rfl)
theorem dwX11_all_161 : dkW cX11_all 161 [167, 0, 5, 21, 4, 172] = true := by decide +kernel
theorem dX11_all_161 : decode cX11_all 161 = .ok (.goto 5, 3) := dko_167 dwX11_all_161
theorem dX11_all_164 : decode cX11_all 164 = .ok (.iload 4, 2) := dko_21 (dk_t 3 164 [21, 4, 172] dwX11_all_161 rfl rfl)
theorem dX11_all_166 : decode cX11_all 166 = .ok (.ireturn, 1) := dko_172 (dk_t 5 166 [172] dwX11_all_161 rfl rfl)
theorem dwX11_wouldTell_0 : dkW cX11_wouldTell 0 [42, 182, 1, 72, 2, 159, 0, 8, 16, 251, 167, 0, 28, 42] = true := by decide +kernel
theorem dX11_wouldTell_0 : decode cX11_wouldTell 0 = .ok (.aload_n 0, 1) := dko_42 dwX11_wouldTell_0
theorem dX11_wouldTell_1 : decode cX11_wouldTell 1 = .ok (.invokevirtual 328, 3) := dko_182 (dk_t 1 1 [182, 1, 72, 2, 159, 0, 8, 16, 251, 167, 0, 28, 42] dwX11_wouldTell_0 rfl rfl)
theorem dX11_wouldTell_4 : decode cX11_wouldTell 4 = .ok (.iconst (-1), 1) := dko_2 (dk_t 4 4 [2, 159, 0, 8, 16, 251, 167, 0, 28, 42] dwX11_wouldTell_0 rfl rfl)
theorem dX11_wouldTell_5 : decode cX11_wouldTell 5 = .ok (.if_icmp .eq 8, 3) := dko_159 (dk_t 5 5 [159, 0, 8, 16, 251, 167, 0, 28, 42] dwX11_wouldTell_0 rfl rfl)
theorem dX11_wouldTell_8 : decode cX11_wouldTell 8 = .ok (.bipush (-5), 2) := dko_16 (dk_t 8 8 [16, 251, 167, 0, 28, 42] dwX11_wouldTell_0 rfl rfl)
theorem dX11_wouldTell_10 : decode cX11_wouldTell 10 = .ok (.goto 28, 3) := dko_167 (dk_t 10 10 [167, 0, 28, 42] dwX11_wouldTell_0 rfl rfl)
theorem dX11_wouldTell_13 : decode cX11_wouldTell 13 = .ok (.aload_n 0, 1) := dko_42 (dk_t 13 13 [42] dwX11_wouldTell_0 rfl rfl)
theorem dwX11_wouldTell_14 : dkW cX11_wouldTell 14 [180, 0, 206, 154, 0, 17, 42, 4, 182, 1, 63, 2] = true := by decide +kernel
theorem dX11_wouldTell_14 : decode cX11_wouldTell 14 = .ok (.getfield 206, 3) := dko_180 dwX11_wouldTell_14
theorem dX11_wouldTell_17 : decode cX11_wouldTell 17 = .ok (.ifCond .ne 17, 3) := dko_154 (dk_t 3 17 [154, 0, 17, 42, 4, 182, 1, 63, 2] dwX11_wouldTell_14 rfl rfl)
theorem dX11_wouldTell_20 : decode cX11_wouldTell 20 = .ok (.aload_n 0, 1) := dko_42 (dk_t 6 20 [42, 4, 182, 1, 63, 2] dwX11_wouldTell_14 rfl rfl)
theorem dX11_wouldTell_21 : decode cX11_wouldTell 21 = .ok (.iconst 1, 1) := dko_4 (dk_t 7 21 [4, 182, 1, 63, 2] dwX11_wouldTell_14 rfl rfl)
theorem dX11_wouldTell_22 : decode cX11_wouldTell 22 = .ok (.invokevirtual 319, 3) := dko_182 (dk_t 8 22 [182, 1, 63, 2] dwX11_wouldTell_14 rfl rfl)
theorem dX11_wouldTell_25 : decode cX11_wouldTell 25 = .ok (.iconst (-1), 1) := dko_2 (dk_t 11 25 [2] dwX11_wouldTell_14 rfl rfl)
theorem dwX11_wouldTell_26 : dkW cX11_wouldTell 26 [159, 0, 8, 16, 251, 167, 0, 7, 42, 180, 1, 60, 60, 42] = true := by decide +kernel
theorem dX11_wouldTell_26 : decode cX11_wouldTell 26 = .ok (.if_icmp .eq 8, 3) := dko_159 dwX11_wouldTell_26
theorem dX11_wouldTell_29 : decode cX11_wouldTell 29 = .ok (.bipush (-5), 2) := dko_16 (dk_t 3 29 [16, 251, 167, 0, 7, 42, 180, 1, 60, 60, 42] dwX11_wouldTell_26 rfl rfl)
theorem dX11_wouldTell_31 : decode cX11_wouldTell 31 = .ok (.goto 7, 3) := dko_167 (dk_t 5 31 [167, 0, 7, 42, 180, 1, 60, 60, 42] dwX11_wouldTell_26 rfl rfl)
theorem dX11_wouldTell_34 : decode cX11_wouldTell 34 = .ok (.aload_n 0, 1) := dko_42 (dk_t 8 34 [42, 180, 1, 60, 60, 42] dwX11_wouldTell_26 rfl rfl)
theorem dX11_wouldTell_35 : decode cX11_wouldTell 35 = .ok (.getfield 316, 3) := dko_180 (dk_t 9 35 [180, 1, 60, 60, 42] dwX11_wouldTell_26 rfl rfl)
theorem dX11_wouldTell_38 : decode cX11_wouldTell 38 = .ok (.istore_n 1, 1) := dko_60 (dk_t 12 38 [60, 42] dwX11_wouldTell_26 rfl rfl)
theorem dX11_wouldTell_39 : decode cX11_wouldTell 39 = .ok (.aload_n 0, 1) := dko_42 (dk_t 13 39 [42] dwX11_wouldTell_26 rfl rfl)
theorem dwX11_wouldTell_40 : dkW cX11_wouldTell 40 [180, 0, 21, 3, 42, 180, 0, 9, 3, 184, 1, 53, 27, 172] = true := by decide +kernel
theorem dX11_wouldTell_40 : decode cX11_wouldTell 40 = .ok (.getfield 21, 3) := dko_180 dwX11_wouldTell_40
theorem dX11_wouldTell_43 : decode cX11_wouldTell 43 = .ok (.iconst 0, 1) := dko_3 (dk_t 3 43 [3, 42, 180, 0, 9, 3, 184, 1, 53, 27, 172] dwX11_wouldTell_40 rfl rfl)
theorem dX11_wouldTell_44 : decode cX11_wouldTell 44 = .ok (.aload_n 0, 1) := dko_42 (dk_t 4 44 [42, 180, 0, 9, 3, 184, 1, 53, 27, 172] dwX11_wouldTell_40 rfl rfl)
theorem dX11_wouldTell_45 : decode cX11_wouldTell 45 = .ok (.getfield 9, 3) := dko_180 (dk_t 5 45 [180, 0, 9, 3, 184, 1, 53, 27, 172] dwX11_wouldTell_40 rfl rfl)
theorem dX11_wouldTell_48 : decode cX11_wouldTell 48 = .ok (.iconst 0, 1) := dko_3 (dk_t 8 48 [3, 184, 1, 53, 27, 172] dwX11_wouldTell_40 rfl rfl)
theorem dX11_wouldTell_49 : decode cX11_wouldTell 49 = .ok (.invokestatic 309, 3) := dko_184 (dk_t 9 49 [184, 1, 53, 27, 172] dwX11_wouldTell_40 rfl rfl)
theorem dX11_wouldTell_52 : decode cX11_wouldTell 52 = .ok (.iload_n 1, 1) := dko_27 (dk_t 12 52 [27, 172] dwX11_wouldTell_40 rfl rfl)
theorem dX11_wouldTell_53 : decode cX11_wouldTell 53 = .ok (.ireturn, 1) := dko_172 (dk_t 13 53 [172] dwX11_wouldTell_40 rfl rfl)
theorem dwX11_wouldSet_0 : dkW cX11_wouldSet 0 [42, 3, 181, 0, 134, 42, 27, 28, 29, 21, 4, 182, 1, 103] = true := by decide +kernel
theorem dX11_wouldSet_0 : decode cX11_wouldSet 0 = .ok (.aload_n 0, 1) := dko_42 dwX11_wouldSet_0
theorem dX11_wouldSet_1 : decode cX11_wouldSet 1 = .ok (.iconst 0, 1) := dko_3 (dk_t 1 1 [3, 181, 0, 134, 42, 27, 28, 29, 21, 4, 182, 1, 103] dwX11_wouldSet_0 rfl rfl)
theorem dX11_wouldSet_2 : decode cX11_wouldSet 2 = .ok (.putfield 134, 3) := dko_181 (dk_t 2 2 [181, 0, 134, 42, 27, 28, 29, 21, 4, 182, 1, 103] dwX11_wouldSet_0 rfl rfl)
theorem dX11_wouldSet_5 : decode cX11_wouldSet 5 = .ok (.aload_n 0, 1) := dko_42 (dk_t 5 5 [42, 27, 28, 29, 21, 4, 182, 1, 103] dwX11_wouldSet_0 rfl rfl)
theorem dX11_wouldSet_6 : decode cX11_wouldSet 6 = .ok (.iload_n 1, 1) := dko_27 (dk_t 6 6 [27, 28, 29, 21, 4, 182, 1, 103] dwX11_wouldSet_0 rfl rfl)
theorem dX11_wouldSet_7 : decode cX11_wouldSet 7 = .ok (.iload_n 2, 1) := dko_28 (dk_t 7 7 [28, 29, 21, 4, 182, 1, 103] dwX11_wouldSet_0 rfl rfl)
theorem dX11_wouldSet_8 : decode cX11_wouldSet 8 = .ok (.iload_n 3, 1) := dko_29 (dk_t 8 8 [29, 21, 4, 182, 1, 103] dwX11_wouldSet_0 rfl rfl)
theorem dX11_wouldSet_9 : decode cX11_wouldSet 9 = .ok (.iload 4, 2) := dko_21 (dk_t 9 9 [21, 4, 182, 1, 103] dwX11_wouldSet_0 rfl rfl)
theorem dX11_wouldSet_11 : decode cX11_wouldSet 11 = .ok (.invokevirtual 359, 3) := dko_182 (dk_t 11 11 [182, 1, 103] dwX11_wouldSet_0 rfl rfl)
theorem dwX11_wouldSet_14 : dkW cX11_wouldSet 14 [54, 5, 21, 5, 153, 0, 6, 21, 5, 172, 42, 182, 1, 94] = true := by decide +kernel
theorem dX11_wouldSet_14 : decode cX11_wouldSet 14 = .ok (.istore 5, 2) := dko_54 dwX11_wouldSet_14
theorem dX11_wouldSet_16 : decode cX11_wouldSet 16 = .ok (.iload 5, 2) := dko_21 (dk_t 2 16 [21, 5, 153, 0, 6, 21, 5, 172, 42, 182, 1, 94] dwX11_wouldSet_14 rfl rfl)
theorem dX11_wouldSet_18 : decode cX11_wouldSet 18 = .ok (.ifCond .eq 6, 3) := dko_153 (dk_t 4 18 [153, 0, 6, 21, 5, 172, 42, 182, 1, 94] dwX11_wouldSet_14 rfl rfl)
theorem dX11_wouldSet_21 : decode cX11_wouldSet 21 = .ok (.iload 5, 2) := dko_21 (dk_t 7 21 [21, 5, 172, 42, 182, 1, 94] dwX11_wouldSet_14 rfl rfl)
theorem dX11_wouldSet_23 : decode cX11_wouldSet 23 = .ok (.ireturn, 1) := dko_172 (dk_t 9 23 [172, 42, 182, 1, 94] dwX11_wouldSet_14 rfl rfl)
theorem dX11_wouldSet_24 : decode cX11_wouldSet 24 = .ok (.aload_n 0, 1) := dko_42 (dk_t 10 24 [42, 182, 1, 94] dwX11_wouldSet_14 rfl rfl)
theorem dX11_wouldSet_25 : decode cX11_wouldSet 25 = .ok (.invokevirtual 350, 3) := dko_182 (dk_t 11 25 [182, 1, 94] dwX11_wouldSet_14 rfl rfl)
theorem dwX11_wouldSet_28 : dkW cX11_wouldSet 28 [42, 180, 0, 9, 27, 28, 184, 0, 156, 4, 96, 29, 96] = true := by decide +kernel
theorem dX11_wouldSet_28 : decode cX11_wouldSet 28 = .ok (.aload_n 0, 1) := dko_42 dwX11_wouldSet_28
theorem dX11_wouldSet_29 : decode cX11_wouldSet 29 = .ok (.getfield 9, 3) := dko_180 (dk_t 1 29 [180, 0, 9, 27, 28, 184, 0, 156, 4, 96, 29, 96] dwX11_wouldSet_28 rfl rfl)
theorem dX11_wouldSet_32 : decode cX11_wouldSet 32 = .ok (.iload_n 1, 1) := dko_27 (dk_t 4 32 [27, 28, 184, 0, 156, 4, 96, 29, 96] dwX11_wouldSet_28 rfl rfl)
theorem dX11_wouldSet_33 : decode cX11_wouldSet 33 = .ok (.iload_n 2, 1) := dko_28 (dk_t 5 33 [28, 184, 0, 156, 4, 96, 29, 96] dwX11_wouldSet_28 rfl rfl)
theorem dX11_wouldSet_34 : decode cX11_wouldSet 34 = .ok (.invokestatic 156, 3) := dko_184 (dk_t 6 34 [184, 0, 156, 4, 96, 29, 96] dwX11_wouldSet_28 rfl rfl)
theorem dX11_wouldSet_37 : decode cX11_wouldSet 37 = .ok (.iconst 1, 1) := dko_4 (dk_t 9 37 [4, 96, 29, 96] dwX11_wouldSet_28 rfl rfl)
theorem dX11_wouldSet_38 : decode cX11_wouldSet 38 = .ok (.iadd, 1) := dko_96 (dk_t 10 38 [96, 29, 96] dwX11_wouldSet_28 rfl rfl)
theorem dX11_wouldSet_39 : decode cX11_wouldSet 39 = .ok (.iload_n 3, 1) := dko_29 (dk_t 11 39 [29, 96] dwX11_wouldSet_28 rfl rfl)
theorem dX11_wouldSet_40 : decode cX11_wouldSet 40 = .ok (.iadd, 1) := dko_96 (dk_t 12 40 [96] dwX11_wouldSet_28 rfl rfl)
theorem dwX11_wouldSet_41 : dkW cX11_wouldSet 41 [21, 4, 79, 42, 182, 1, 133, 172] = true := by decide +kernel
theorem dX11_wouldSet_41 : decode cX11_wouldSet 41 = .ok (.iload 4, 2) := dko_21 dwX11_wouldSet_41
theorem dX11_wouldSet_43 : decode cX11_wouldSet 43 = .ok (.iastore, 1) := dko_79 (dk_t 2 43 [79, 42, 182, 1, 133, 172] dwX11_wouldSet_41 rfl rfl)
theorem dX11_wouldSet_44 : decode cX11_wouldSet 44 = .ok (.aload_n 0, 1) := dko_42 (dk_t 3 44 [42, 182, 1, 133, 172] dwX11_wouldSet_41 rfl rfl)
theorem dX11_wouldSet_45 : decode cX11_wouldSet 45 = .ok (.invokevirtual 389, 3) := dko_182 (dk_t 4 45 [182, 1, 133, 172] dwX11_wouldSet_41 rfl rfl)
theorem dX11_wouldSet_48 : decode cX11_wouldSet 48 = .ok (.ireturn, 1) := dko_172 (dk_t 7 48 [172] dwX11_wouldSet_41 rfl rfl)
theorem dwX11_wouldCut_0 : dkW cX11_wouldCut 0 [42, 3, 181, 0, 134, 42, 27, 28, 182, 1, 90, 153, 0, 15] = true := by decide +kernel
theorem dX11_wouldCut_0 : decode cX11_wouldCut 0 = .ok (.aload_n 0, 1) := dko_42 dwX11_wouldCut_0
theorem dX11_wouldCut_1 : decode cX11_wouldCut 1 = .ok (.iconst 0, 1) := dko_3 (dk_t 1 1 [3, 181, 0, 134, 42, 27, 28, 182, 1, 90, 153, 0, 15] dwX11_wouldCut_0 rfl rfl)
theorem dX11_wouldCut_2 : decode cX11_wouldCut 2 = .ok (.putfield 134, 3) := dko_181 (dk_t 2 2 [181, 0, 134, 42, 27, 28, 182, 1, 90, 153, 0, 15] dwX11_wouldCut_0 rfl rfl)
theorem dX11_wouldCut_5 : decode cX11_wouldCut 5 = .ok (.aload_n 0, 1) := dko_42 (dk_t 5 5 [42, 27, 28, 182, 1, 90, 153, 0, 15] dwX11_wouldCut_0 rfl rfl)
theorem dX11_wouldCut_6 : decode cX11_wouldCut 6 = .ok (.iload_n 1, 1) := dko_27 (dk_t 6 6 [27, 28, 182, 1, 90, 153, 0, 15] dwX11_wouldCut_0 rfl rfl)
theorem dX11_wouldCut_7 : decode cX11_wouldCut 7 = .ok (.iload_n 2, 1) := dko_28 (dk_t 7 7 [28, 182, 1, 90, 153, 0, 15] dwX11_wouldCut_0 rfl rfl)
theorem dX11_wouldCut_8 : decode cX11_wouldCut 8 = .ok (.invokevirtual 346, 3) := dko_182 (dk_t 8 8 [182, 1, 90, 153, 0, 15] dwX11_wouldCut_0 rfl rfl)
theorem dX11_wouldCut_11 : decode cX11_wouldCut 11 = .ok (.ifCond .eq 15, 3) := dko_153 (dk_t 11 11 [153, 0, 15] dwX11_wouldCut_0 rfl rfl)
theorem dwX11_wouldCut_14 : dkW cX11_wouldCut 14 [29, 133, 9, 20, 0, 137, 184, 0, 139, 154, 0, 5, 2, 172] = true := by decide +kernel
theorem dX11_wouldCut_14 : decode cX11_wouldCut 14 = .ok (.iload_n 3, 1) := dko_29 dwX11_wouldCut_14
theorem dX11_wouldCut_15 : decode cX11_wouldCut 15 = .ok (.i2l, 1) := dko_133 (dk_t 1 15 [133, 9, 20, 0, 137, 184, 0, 139, 154, 0, 5, 2, 172] dwX11_wouldCut_14 rfl rfl)
theorem dX11_wouldCut_16 : decode cX11_wouldCut 16 = .ok (.lconst 0, 1) := dko_9 (dk_t 2 16 [9, 20, 0, 137, 184, 0, 139, 154, 0, 5, 2, 172] dwX11_wouldCut_14 rfl rfl)
theorem dX11_wouldCut_17 : decode cX11_wouldCut 17 = .ok (.ldc2_w 137, 3) := dko_20 (dk_t 3 17 [20, 0, 137, 184, 0, 139, 154, 0, 5, 2, 172] dwX11_wouldCut_14 rfl rfl)
theorem dX11_wouldCut_20 : decode cX11_wouldCut 20 = .ok (.invokestatic 139, 3) := dko_184 (dk_t 6 20 [184, 0, 139, 154, 0, 5, 2, 172] dwX11_wouldCut_14 rfl rfl)
theorem dX11_wouldCut_23 : decode cX11_wouldCut 23 = .ok (.ifCond .ne 5, 3) := dko_154 (dk_t 9 23 [154, 0, 5, 2, 172] dwX11_wouldCut_14 rfl rfl)
theorem dX11_wouldCut_26 : decode cX11_wouldCut 26 = .ok (.iconst (-1), 1) := dko_2 (dk_t 12 26 [2, 172] dwX11_wouldCut_14 rfl rfl)
theorem dX11_wouldCut_27 : decode cX11_wouldCut 27 = .ok (.ireturn, 1) := dko_172 (dk_t 13 27 [172] dwX11_wouldCut_14 rfl rfl)
theorem dwX11_wouldCut_28 : dkW cX11_wouldCut 28 [42, 182, 1, 94, 42, 27, 28, 182, 1, 114, 3, 54, 4, 3] = true := by decide +kernel
theorem dX11_wouldCut_28 : decode cX11_wouldCut 28 = .ok (.aload_n 0, 1) := dko_42 dwX11_wouldCut_28
theorem dX11_wouldCut_29 : decode cX11_wouldCut 29 = .ok (.invokevirtual 350, 3) := dko_182 (dk_t 1 29 [182, 1, 94, 42, 27, 28, 182, 1, 114, 3, 54, 4, 3] dwX11_wouldCut_28 rfl rfl)
theorem dX11_wouldCut_32 : decode cX11_wouldCut 32 = .ok (.aload_n 0, 1) := dko_42 (dk_t 4 32 [42, 27, 28, 182, 1, 114, 3, 54, 4, 3] dwX11_wouldCut_28 rfl rfl)
theorem dX11_wouldCut_33 : decode cX11_wouldCut 33 = .ok (.iload_n 1, 1) := dko_27 (dk_t 5 33 [27, 28, 182, 1, 114, 3, 54, 4, 3] dwX11_wouldCut_28 rfl rfl)
theorem dX11_wouldCut_34 : decode cX11_wouldCut 34 = .ok (.iload_n 2, 1) := dko_28 (dk_t 6 34 [28, 182, 1, 114, 3, 54, 4, 3] dwX11_wouldCut_28 rfl rfl)
theorem dX11_wouldCut_35 : decode cX11_wouldCut 35 = .ok (.invokevirtual 370, 3) := dko_182 (dk_t 7 35 [182, 1, 114, 3, 54, 4, 3] dwX11_wouldCut_28 rfl rfl)
theorem dX11_wouldCut_38 : decode cX11_wouldCut 38 = .ok (.iconst 0, 1) := dko_3 (dk_t 10 38 [3, 54, 4, 3] dwX11_wouldCut_28 rfl rfl)
theorem dX11_wouldCut_39 : decode cX11_wouldCut 39 = .ok (.istore 4, 2) := dko_54 (dk_t 11 39 [54, 4, 3] dwX11_wouldCut_28 rfl rfl)
theorem dX11_wouldCut_41 : decode cX11_wouldCut 41 = .ok (.iconst 0, 1) := dko_3 (dk_t 13 41 [3] dwX11_wouldCut_28 rfl rfl)
theorem dwX11_wouldCut_42 : dkW cX11_wouldCut 42 [54, 5, 3, 54, 6, 21, 6, 17, 1, 104, 162, 0, 88] = true := by decide +kernel
theorem dX11_wouldCut_42 : decode cX11_wouldCut 42 = .ok (.istore 5, 2) := dko_54 dwX11_wouldCut_42
theorem dX11_wouldCut_44 : decode cX11_wouldCut 44 = .ok (.iconst 0, 1) := dko_3 (dk_t 2 44 [3, 54, 6, 21, 6, 17, 1, 104, 162, 0, 88] dwX11_wouldCut_42 rfl rfl)
theorem dX11_wouldCut_45 : decode cX11_wouldCut 45 = .ok (.istore 6, 2) := dko_54 (dk_t 3 45 [54, 6, 21, 6, 17, 1, 104, 162, 0, 88] dwX11_wouldCut_42 rfl rfl)
theorem dX11_wouldCut_47 : decode cX11_wouldCut 47 = .ok (.iload 6, 2) := dko_21 (dk_t 5 47 [21, 6, 17, 1, 104, 162, 0, 88] dwX11_wouldCut_42 rfl rfl)
theorem dX11_wouldCut_49 : decode cX11_wouldCut 49 = .ok (.sipush 360, 3) := dko_17 (dk_t 7 49 [17, 1, 104, 162, 0, 88] dwX11_wouldCut_42 rfl rfl)
theorem dX11_wouldCut_52 : decode cX11_wouldCut 52 = .ok (.if_icmp .ge 88, 3) := dko_162 (dk_t 10 52 [162, 0, 88] dwX11_wouldCut_42 rfl rfl)
theorem dwX11_wouldCut_55 : dkW cX11_wouldCut 55 [21, 4, 42, 180, 0, 21, 21, 6, 46, 42, 180, 0, 9] = true := by decide +kernel
theorem dX11_wouldCut_55 : decode cX11_wouldCut 55 = .ok (.iload 4, 2) := dko_21 dwX11_wouldCut_55
theorem dX11_wouldCut_57 : decode cX11_wouldCut 57 = .ok (.aload_n 0, 1) := dko_42 (dk_t 2 57 [42, 180, 0, 21, 21, 6, 46, 42, 180, 0, 9] dwX11_wouldCut_55 rfl rfl)
theorem dX11_wouldCut_58 : decode cX11_wouldCut 58 = .ok (.getfield 21, 3) := dko_180 (dk_t 3 58 [180, 0, 21, 21, 6, 46, 42, 180, 0, 9] dwX11_wouldCut_55 rfl rfl)
theorem dX11_wouldCut_61 : decode cX11_wouldCut 61 = .ok (.iload 6, 2) := dko_21 (dk_t 6 61 [21, 6, 46, 42, 180, 0, 9] dwX11_wouldCut_55 rfl rfl)
theorem dX11_wouldCut_63 : decode cX11_wouldCut 63 = .ok (.iaload, 1) := dko_46 (dk_t 8 63 [46, 42, 180, 0, 9] dwX11_wouldCut_55 rfl rfl)
theorem dX11_wouldCut_64 : decode cX11_wouldCut 64 = .ok (.aload_n 0, 1) := dko_42 (dk_t 9 64 [42, 180, 0, 9] dwX11_wouldCut_55 rfl rfl)
theorem dX11_wouldCut_65 : decode cX11_wouldCut 65 = .ok (.getfield 9, 3) := dko_180 (dk_t 10 65 [180, 0, 9] dwX11_wouldCut_55 rfl rfl)
theorem dwX11_wouldCut_68 : dkW cX11_wouldCut 68 [21, 6, 46, 100, 96, 54, 4, 4, 54, 7, 21, 7, 7] = true := by decide +kernel
theorem dX11_wouldCut_68 : decode cX11_wouldCut 68 = .ok (.iload 6, 2) := dko_21 dwX11_wouldCut_68
theorem dX11_wouldCut_70 : decode cX11_wouldCut 70 = .ok (.iaload, 1) := dko_46 (dk_t 2 70 [46, 100, 96, 54, 4, 4, 54, 7, 21, 7, 7] dwX11_wouldCut_68 rfl rfl)
theorem dX11_wouldCut_71 : decode cX11_wouldCut 71 = .ok (.isub, 1) := dko_100 (dk_t 3 71 [100, 96, 54, 4, 4, 54, 7, 21, 7, 7] dwX11_wouldCut_68 rfl rfl)
theorem dX11_wouldCut_72 : decode cX11_wouldCut 72 = .ok (.iadd, 1) := dko_96 (dk_t 4 72 [96, 54, 4, 4, 54, 7, 21, 7, 7] dwX11_wouldCut_68 rfl rfl)
theorem dX11_wouldCut_73 : decode cX11_wouldCut 73 = .ok (.istore 4, 2) := dko_54 (dk_t 5 73 [54, 4, 4, 54, 7, 21, 7, 7] dwX11_wouldCut_68 rfl rfl)
theorem dX11_wouldCut_75 : decode cX11_wouldCut 75 = .ok (.iconst 1, 1) := dko_4 (dk_t 7 75 [4, 54, 7, 21, 7, 7] dwX11_wouldCut_68 rfl rfl)
theorem dX11_wouldCut_76 : decode cX11_wouldCut 76 = .ok (.istore 7, 2) := dko_54 (dk_t 8 76 [54, 7, 21, 7, 7] dwX11_wouldCut_68 rfl rfl)
theorem dX11_wouldCut_78 : decode cX11_wouldCut 78 = .ok (.iload 7, 2) := dko_21 (dk_t 10 78 [21, 7, 7] dwX11_wouldCut_68 rfl rfl)
theorem dX11_wouldCut_80 : decode cX11_wouldCut 80 = .ok (.iconst 4, 1) := dko_7 (dk_t 12 80 [7] dwX11_wouldCut_68 rfl rfl)
theorem dwX11_wouldCut_81 : dkW cX11_wouldCut 81 [162, 0, 53, 42, 180, 0, 9, 21, 6, 46, 4, 160, 0, 42] = true := by decide +kernel
theorem dX11_wouldCut_81 : decode cX11_wouldCut 81 = .ok (.if_icmp .ge 53, 3) := dko_162 dwX11_wouldCut_81
theorem dX11_wouldCut_84 : decode cX11_wouldCut 84 = .ok (.aload_n 0, 1) := dko_42 (dk_t 3 84 [42, 180, 0, 9, 21, 6, 46, 4, 160, 0, 42] dwX11_wouldCut_81 rfl rfl)
theorem dX11_wouldCut_85 : decode cX11_wouldCut 85 = .ok (.getfield 9, 3) := dko_180 (dk_t 4 85 [180, 0, 9, 21, 6, 46, 4, 160, 0, 42] dwX11_wouldCut_81 rfl rfl)
theorem dX11_wouldCut_88 : decode cX11_wouldCut 88 = .ok (.iload 6, 2) := dko_21 (dk_t 7 88 [21, 6, 46, 4, 160, 0, 42] dwX11_wouldCut_81 rfl rfl)
theorem dX11_wouldCut_90 : decode cX11_wouldCut 90 = .ok (.iaload, 1) := dko_46 (dk_t 9 90 [46, 4, 160, 0, 42] dwX11_wouldCut_81 rfl rfl)
theorem dX11_wouldCut_91 : decode cX11_wouldCut 91 = .ok (.iconst 1, 1) := dko_4 (dk_t 10 91 [4, 160, 0, 42] dwX11_wouldCut_81 rfl rfl)
theorem dX11_wouldCut_92 : decode cX11_wouldCut 92 = .ok (.if_icmp .ne 42, 3) := dko_160 (dk_t 11 92 [160, 0, 42] dwX11_wouldCut_81 rfl rfl)
theorem dwX11_wouldCut_95 : dkW cX11_wouldCut 95 [21, 5, 42, 180, 0, 21, 21, 6, 21, 7, 96, 46, 42] = true := by decide +kernel
theorem dX11_wouldCut_95 : decode cX11_wouldCut 95 = .ok (.iload 5, 2) := dko_21 dwX11_wouldCut_95
theorem dX11_wouldCut_97 : decode cX11_wouldCut 97 = .ok (.aload_n 0, 1) := dko_42 (dk_t 2 97 [42, 180, 0, 21, 21, 6, 21, 7, 96, 46, 42] dwX11_wouldCut_95 rfl rfl)
theorem dX11_wouldCut_98 : decode cX11_wouldCut 98 = .ok (.getfield 21, 3) := dko_180 (dk_t 3 98 [180, 0, 21, 21, 6, 21, 7, 96, 46, 42] dwX11_wouldCut_95 rfl rfl)
theorem dX11_wouldCut_101 : decode cX11_wouldCut 101 = .ok (.iload 6, 2) := dko_21 (dk_t 6 101 [21, 6, 21, 7, 96, 46, 42] dwX11_wouldCut_95 rfl rfl)
theorem dX11_wouldCut_103 : decode cX11_wouldCut 103 = .ok (.iload 7, 2) := dko_21 (dk_t 8 103 [21, 7, 96, 46, 42] dwX11_wouldCut_95 rfl rfl)
theorem dX11_wouldCut_105 : decode cX11_wouldCut 105 = .ok (.iadd, 1) := dko_96 (dk_t 10 105 [96, 46, 42] dwX11_wouldCut_95 rfl rfl)
theorem dX11_wouldCut_106 : decode cX11_wouldCut 106 = .ok (.iaload, 1) := dko_46 (dk_t 11 106 [46, 42] dwX11_wouldCut_95 rfl rfl)
theorem dX11_wouldCut_107 : decode cX11_wouldCut 107 = .ok (.aload_n 0, 1) := dko_42 (dk_t 12 107 [42] dwX11_wouldCut_95 rfl rfl)
theorem dwX11_wouldCut_108 : dkW cX11_wouldCut 108 [180, 0, 9, 21, 6, 21, 7, 96, 46, 159, 0, 7, 4] = true := by decide +kernel
theorem dX11_wouldCut_108 : decode cX11_wouldCut 108 = .ok (.getfield 9, 3) := dko_180 dwX11_wouldCut_108
theorem dX11_wouldCut_111 : decode cX11_wouldCut 111 = .ok (.iload 6, 2) := dko_21 (dk_t 3 111 [21, 6, 21, 7, 96, 46, 159, 0, 7, 4] dwX11_wouldCut_108 rfl rfl)
theorem dX11_wouldCut_113 : decode cX11_wouldCut 113 = .ok (.iload 7, 2) := dko_21 (dk_t 5 113 [21, 7, 96, 46, 159, 0, 7, 4] dwX11_wouldCut_108 rfl rfl)
theorem dX11_wouldCut_115 : decode cX11_wouldCut 115 = .ok (.iadd, 1) := dko_96 (dk_t 7 115 [96, 46, 159, 0, 7, 4] dwX11_wouldCut_108 rfl rfl)
theorem dX11_wouldCut_116 : decode cX11_wouldCut 116 = .ok (.iaload, 1) := dko_46 (dk_t 8 116 [46, 159, 0, 7, 4] dwX11_wouldCut_108 rfl rfl)
theorem dX11_wouldCut_117 : decode cX11_wouldCut 117 = .ok (.if_icmp .eq 7, 3) := dko_159 (dk_t 9 117 [159, 0, 7, 4] dwX11_wouldCut_108 rfl rfl)
theorem dX11_wouldCut_120 : decode cX11_wouldCut 120 = .ok (.iconst 1, 1) := dko_4 (dk_t 12 120 [4] dwX11_wouldCut_108 rfl rfl)
theorem dwX11_wouldCut_121 : dkW cX11_wouldCut 121 [167, 0, 4, 3, 96, 54, 5, 132, 7, 1, 167, 255, 203] = true := by decide +kernel
theorem dX11_wouldCut_121 : decode cX11_wouldCut 121 = .ok (.goto 4, 3) := dko_167 dwX11_wouldCut_121
theorem dX11_wouldCut_124 : decode cX11_wouldCut 124 = .ok (.iconst 0, 1) := dko_3 (dk_t 3 124 [3, 96, 54, 5, 132, 7, 1, 167, 255, 203] dwX11_wouldCut_121 rfl rfl)
theorem dX11_wouldCut_125 : decode cX11_wouldCut 125 = .ok (.iadd, 1) := dko_96 (dk_t 4 125 [96, 54, 5, 132, 7, 1, 167, 255, 203] dwX11_wouldCut_121 rfl rfl)
theorem dX11_wouldCut_126 : decode cX11_wouldCut 126 = .ok (.istore 5, 2) := dko_54 (dk_t 5 126 [54, 5, 132, 7, 1, 167, 255, 203] dwX11_wouldCut_121 rfl rfl)
theorem dX11_wouldCut_128 : decode cX11_wouldCut 128 = .ok (.iinc 7 1, 3) := dko_132 (dk_t 7 128 [132, 7, 1, 167, 255, 203] dwX11_wouldCut_121 rfl rfl)
theorem dX11_wouldCut_131 : decode cX11_wouldCut 131 = .ok (.goto (-53), 3) := dko_167 (dk_t 10 131 [167, 255, 203] dwX11_wouldCut_121 rfl rfl)
theorem dwX11_wouldCut_134 : dkW cX11_wouldCut 134 [132, 6, 4, 167, 255, 166, 42, 182, 1, 133, 54, 6, 29] = true := by decide +kernel
theorem dX11_wouldCut_134 : decode cX11_wouldCut 134 = .ok (.iinc 6 4, 3) := dko_132 dwX11_wouldCut_134
theorem dX11_wouldCut_137 : decode cX11_wouldCut 137 = .ok (.goto (-90), 3) := dko_167 (dk_t 3 137 [167, 255, 166, 42, 182, 1, 133, 54, 6, 29] dwX11_wouldCut_134 rfl rfl)
theorem dX11_wouldCut_140 : decode cX11_wouldCut 140 = .ok (.aload_n 0, 1) := dko_42 (dk_t 6 140 [42, 182, 1, 133, 54, 6, 29] dwX11_wouldCut_134 rfl rfl)
theorem dX11_wouldCut_141 : decode cX11_wouldCut 141 = .ok (.invokevirtual 389, 3) := dko_182 (dk_t 7 141 [182, 1, 133, 54, 6, 29] dwX11_wouldCut_134 rfl rfl)
theorem dX11_wouldCut_144 : decode cX11_wouldCut 144 = .ok (.istore 6, 2) := dko_54 (dk_t 10 144 [54, 6, 29] dwX11_wouldCut_134 rfl rfl)
theorem dX11_wouldCut_146 : decode cX11_wouldCut 146 = .ok (.iload_n 3, 1) := dko_29 (dk_t 12 146 [29] dwX11_wouldCut_134 rfl rfl)
theorem dwX11_wouldCut_147 : dkW cX11_wouldCut 147 [154, 0, 8, 21, 4, 167, 0, 15, 29, 4, 160, 0, 8] = true := by decide +kernel
theorem dX11_wouldCut_147 : decode cX11_wouldCut 147 = .ok (.ifCond .ne 8, 3) := dko_154 dwX11_wouldCut_147
theorem dX11_wouldCut_150 : decode cX11_wouldCut 150 = .ok (.iload 4, 2) := dko_21 (dk_t 3 150 [21, 4, 167, 0, 15, 29, 4, 160, 0, 8] dwX11_wouldCut_147 rfl rfl)
theorem dX11_wouldCut_152 : decode cX11_wouldCut 152 = .ok (.goto 15, 3) := dko_167 (dk_t 5 152 [167, 0, 15, 29, 4, 160, 0, 8] dwX11_wouldCut_147 rfl rfl)
theorem dX11_wouldCut_155 : decode cX11_wouldCut 155 = .ok (.iload_n 3, 1) := dko_29 (dk_t 8 155 [29, 4, 160, 0, 8] dwX11_wouldCut_147 rfl rfl)
theorem dX11_wouldCut_156 : decode cX11_wouldCut 156 = .ok (.iconst 1, 1) := dko_4 (dk_t 9 156 [4, 160, 0, 8] dwX11_wouldCut_147 rfl rfl)
theorem dX11_wouldCut_157 : decode cX11_wouldCut 157 = .ok (.if_icmp .ne 8, 3) := dko_160 (dk_t 10 157 [160, 0, 8] dwX11_wouldCut_147 rfl rfl)
theorem dwX11_wouldCut_160 : dkW cX11_wouldCut 160 [21, 5, 167, 0, 5, 21, 6, 172] = true := by decide +kernel
theorem dX11_wouldCut_160 : decode cX11_wouldCut 160 = .ok (.iload 5, 2) := dko_21 dwX11_wouldCut_160
theorem dX11_wouldCut_162 : decode cX11_wouldCut 162 = .ok (.goto 5, 3) := dko_167 (dk_t 2 162 [167, 0, 5, 21, 6, 172] dwX11_wouldCut_160 rfl rfl)
theorem dX11_wouldCut_165 : decode cX11_wouldCut 165 = .ok (.iload 6, 2) := dko_21 (dk_t 5 165 [21, 6, 172] dwX11_wouldCut_160 rfl rfl)
theorem dX11_wouldCut_167 : decode cX11_wouldCut 167 = .ok (.ireturn, 1) := dko_172 (dk_t 7 167 [172] dwX11_wouldCut_160 rfl rfl)
theorem dwX11_leansOn_0 : dkW cX11_leansOn 0 [3, 54, 5, 3, 54, 6, 21, 6, 16, 12, 162, 0, 88] = true := by decide +kernel
theorem dX11_leansOn_0 : decode cX11_leansOn 0 = .ok (.iconst 0, 1) := dko_3 dwX11_leansOn_0
theorem dX11_leansOn_1 : decode cX11_leansOn 1 = .ok (.istore 5, 2) := dko_54 (dk_t 1 1 [54, 5, 3, 54, 6, 21, 6, 16, 12, 162, 0, 88] dwX11_leansOn_0 rfl rfl)
theorem dX11_leansOn_3 : decode cX11_leansOn 3 = .ok (.iconst 0, 1) := dko_3 (dk_t 3 3 [3, 54, 6, 21, 6, 16, 12, 162, 0, 88] dwX11_leansOn_0 rfl rfl)
theorem dX11_leansOn_4 : decode cX11_leansOn 4 = .ok (.istore 6, 2) := dko_54 (dk_t 4 4 [54, 6, 21, 6, 16, 12, 162, 0, 88] dwX11_leansOn_0 rfl rfl)
theorem dX11_leansOn_6 : decode cX11_leansOn 6 = .ok (.iload 6, 2) := dko_21 (dk_t 6 6 [21, 6, 16, 12, 162, 0, 88] dwX11_leansOn_0 rfl rfl)
theorem dX11_leansOn_8 : decode cX11_leansOn 8 = .ok (.bipush 12, 2) := dko_16 (dk_t 8 8 [16, 12, 162, 0, 88] dwX11_leansOn_0 rfl rfl)
theorem dX11_leansOn_10 : decode cX11_leansOn 10 = .ok (.if_icmp .ge 88, 3) := dko_162 (dk_t 10 10 [162, 0, 88] dwX11_leansOn_0 rfl rfl)
theorem dwX11_leansOn_13 : dkW cX11_leansOn 13 [21, 5, 154, 0, 70, 42, 21, 6, 182, 0, 162, 153, 0, 65] = true := by decide +kernel
theorem dX11_leansOn_13 : decode cX11_leansOn 13 = .ok (.iload 5, 2) := dko_21 dwX11_leansOn_13
theorem dX11_leansOn_15 : decode cX11_leansOn 15 = .ok (.ifCond .ne 70, 3) := dko_154 (dk_t 2 15 [154, 0, 70, 42, 21, 6, 182, 0, 162, 153, 0, 65] dwX11_leansOn_13 rfl rfl)
theorem dX11_leansOn_18 : decode cX11_leansOn 18 = .ok (.aload_n 0, 1) := dko_42 (dk_t 5 18 [42, 21, 6, 182, 0, 162, 153, 0, 65] dwX11_leansOn_13 rfl rfl)
theorem dX11_leansOn_19 : decode cX11_leansOn 19 = .ok (.iload 6, 2) := dko_21 (dk_t 6 19 [21, 6, 182, 0, 162, 153, 0, 65] dwX11_leansOn_13 rfl rfl)
theorem dX11_leansOn_21 : decode cX11_leansOn 21 = .ok (.invokevirtual 162, 3) := dko_182 (dk_t 8 21 [182, 0, 162, 153, 0, 65] dwX11_leansOn_13 rfl rfl)
theorem dX11_leansOn_24 : decode cX11_leansOn 24 = .ok (.ifCond .eq 65, 3) := dko_153 (dk_t 11 24 [153, 0, 65] dwX11_leansOn_13 rfl rfl)
theorem dwX11_leansOn_27 : dkW cX11_leansOn 27 [42, 21, 6, 3, 182, 0, 165, 4, 160, 0, 54, 42, 21, 6] = true := by decide +kernel
theorem dX11_leansOn_27 : decode cX11_leansOn 27 = .ok (.aload_n 0, 1) := dko_42 dwX11_leansOn_27
theorem dX11_leansOn_28 : decode cX11_leansOn 28 = .ok (.iload 6, 2) := dko_21 (dk_t 1 28 [21, 6, 3, 182, 0, 165, 4, 160, 0, 54, 42, 21, 6] dwX11_leansOn_27 rfl rfl)
theorem dX11_leansOn_30 : decode cX11_leansOn 30 = .ok (.iconst 0, 1) := dko_3 (dk_t 3 30 [3, 182, 0, 165, 4, 160, 0, 54, 42, 21, 6] dwX11_leansOn_27 rfl rfl)
theorem dX11_leansOn_31 : decode cX11_leansOn 31 = .ok (.invokevirtual 165, 3) := dko_182 (dk_t 4 31 [182, 0, 165, 4, 160, 0, 54, 42, 21, 6] dwX11_leansOn_27 rfl rfl)
theorem dX11_leansOn_34 : decode cX11_leansOn 34 = .ok (.iconst 1, 1) := dko_4 (dk_t 7 34 [4, 160, 0, 54, 42, 21, 6] dwX11_leansOn_27 rfl rfl)
theorem dX11_leansOn_35 : decode cX11_leansOn 35 = .ok (.if_icmp .ne 54, 3) := dko_160 (dk_t 8 35 [160, 0, 54, 42, 21, 6] dwX11_leansOn_27 rfl rfl)
theorem dX11_leansOn_38 : decode cX11_leansOn 38 = .ok (.aload_n 0, 1) := dko_42 (dk_t 11 38 [42, 21, 6] dwX11_leansOn_27 rfl rfl)
theorem dX11_leansOn_39 : decode cX11_leansOn 39 = .ok (.iload 6, 2) := dko_21 (dk_t 12 39 [21, 6] dwX11_leansOn_27 rfl rfl)
theorem dwX11_leansOn_41 : dkW cX11_leansOn 41 [6, 182, 0, 165, 29, 160, 0, 43, 42, 21, 6, 4] = true := by decide +kernel
theorem dX11_leansOn_41 : decode cX11_leansOn 41 = .ok (.iconst 3, 1) := dko_6 dwX11_leansOn_41
theorem dX11_leansOn_42 : decode cX11_leansOn 42 = .ok (.invokevirtual 165, 3) := dko_182 (dk_t 1 42 [182, 0, 165, 29, 160, 0, 43, 42, 21, 6, 4] dwX11_leansOn_41 rfl rfl)
theorem dX11_leansOn_45 : decode cX11_leansOn 45 = .ok (.iload_n 3, 1) := dko_29 (dk_t 4 45 [29, 160, 0, 43, 42, 21, 6, 4] dwX11_leansOn_41 rfl rfl)
theorem dX11_leansOn_46 : decode cX11_leansOn 46 = .ok (.if_icmp .ne 43, 3) := dko_160 (dk_t 5 46 [160, 0, 43, 42, 21, 6, 4] dwX11_leansOn_41 rfl rfl)
theorem dX11_leansOn_49 : decode cX11_leansOn 49 = .ok (.aload_n 0, 1) := dko_42 (dk_t 8 49 [42, 21, 6, 4] dwX11_leansOn_41 rfl rfl)
theorem dX11_leansOn_50 : decode cX11_leansOn 50 = .ok (.iload 6, 2) := dko_21 (dk_t 9 50 [21, 6, 4] dwX11_leansOn_41 rfl rfl)
theorem dX11_leansOn_52 : decode cX11_leansOn 52 = .ok (.iconst 1, 1) := dko_4 (dk_t 11 52 [4] dwX11_leansOn_41 rfl rfl)
theorem dwX11_leansOn_53 : dkW cX11_leansOn 53 [182, 0, 165, 27, 160, 0, 32, 42, 180, 0, 9, 27, 28] = true := by decide +kernel
theorem dX11_leansOn_53 : decode cX11_leansOn 53 = .ok (.invokevirtual 165, 3) := dko_182 dwX11_leansOn_53
theorem dX11_leansOn_56 : decode cX11_leansOn 56 = .ok (.iload_n 1, 1) := dko_27 (dk_t 3 56 [27, 160, 0, 32, 42, 180, 0, 9, 27, 28] dwX11_leansOn_53 rfl rfl)
theorem dX11_leansOn_57 : decode cX11_leansOn 57 = .ok (.if_icmp .ne 32, 3) := dko_160 (dk_t 4 57 [160, 0, 32, 42, 180, 0, 9, 27, 28] dwX11_leansOn_53 rfl rfl)
theorem dX11_leansOn_60 : decode cX11_leansOn 60 = .ok (.aload_n 0, 1) := dko_42 (dk_t 7 60 [42, 180, 0, 9, 27, 28] dwX11_leansOn_53 rfl rfl)
theorem dX11_leansOn_61 : decode cX11_leansOn 61 = .ok (.getfield 9, 3) := dko_180 (dk_t 8 61 [180, 0, 9, 27, 28] dwX11_leansOn_53 rfl rfl)
theorem dX11_leansOn_64 : decode cX11_leansOn 64 = .ok (.iload_n 1, 1) := dko_27 (dk_t 11 64 [27, 28] dwX11_leansOn_53 rfl rfl)
theorem dX11_leansOn_65 : decode cX11_leansOn 65 = .ok (.iload_n 2, 1) := dko_28 (dk_t 12 65 [28] dwX11_leansOn_53 rfl rfl)
theorem dwX11_leansOn_66 : dkW cX11_leansOn 66 [184, 0, 156, 4, 96, 42, 21, 6, 5, 182, 0, 165, 96, 46] = true := by decide +kernel
theorem dX11_leansOn_66 : decode cX11_leansOn 66 = .ok (.invokestatic 156, 3) := dko_184 dwX11_leansOn_66
theorem dX11_leansOn_69 : decode cX11_leansOn 69 = .ok (.iconst 1, 1) := dko_4 (dk_t 3 69 [4, 96, 42, 21, 6, 5, 182, 0, 165, 96, 46] dwX11_leansOn_66 rfl rfl)
theorem dX11_leansOn_70 : decode cX11_leansOn 70 = .ok (.iadd, 1) := dko_96 (dk_t 4 70 [96, 42, 21, 6, 5, 182, 0, 165, 96, 46] dwX11_leansOn_66 rfl rfl)
theorem dX11_leansOn_71 : decode cX11_leansOn 71 = .ok (.aload_n 0, 1) := dko_42 (dk_t 5 71 [42, 21, 6, 5, 182, 0, 165, 96, 46] dwX11_leansOn_66 rfl rfl)
theorem dX11_leansOn_72 : decode cX11_leansOn 72 = .ok (.iload 6, 2) := dko_21 (dk_t 6 72 [21, 6, 5, 182, 0, 165, 96, 46] dwX11_leansOn_66 rfl rfl)
theorem dX11_leansOn_74 : decode cX11_leansOn 74 = .ok (.iconst 2, 1) := dko_5 (dk_t 8 74 [5, 182, 0, 165, 96, 46] dwX11_leansOn_66 rfl rfl)
theorem dX11_leansOn_75 : decode cX11_leansOn 75 = .ok (.invokevirtual 165, 3) := dko_182 (dk_t 9 75 [182, 0, 165, 96, 46] dwX11_leansOn_66 rfl rfl)
theorem dX11_leansOn_78 : decode cX11_leansOn 78 = .ok (.iadd, 1) := dko_96 (dk_t 12 78 [96, 46] dwX11_leansOn_66 rfl rfl)
theorem dX11_leansOn_79 : decode cX11_leansOn 79 = .ok (.iaload, 1) := dko_46 (dk_t 13 79 [46] dwX11_leansOn_66 rfl rfl)
theorem dwX11_leansOn_80 : dkW cX11_leansOn 80 [21, 4, 160, 0, 7, 4, 167, 0, 4, 3, 54, 5] = true := by decide +kernel
theorem dX11_leansOn_80 : decode cX11_leansOn 80 = .ok (.iload 4, 2) := dko_21 dwX11_leansOn_80
theorem dX11_leansOn_82 : decode cX11_leansOn 82 = .ok (.if_icmp .ne 7, 3) := dko_160 (dk_t 2 82 [160, 0, 7, 4, 167, 0, 4, 3, 54, 5] dwX11_leansOn_80 rfl rfl)
theorem dX11_leansOn_85 : decode cX11_leansOn 85 = .ok (.iconst 1, 1) := dko_4 (dk_t 5 85 [4, 167, 0, 4, 3, 54, 5] dwX11_leansOn_80 rfl rfl)
theorem dX11_leansOn_86 : decode cX11_leansOn 86 = .ok (.goto 4, 3) := dko_167 (dk_t 6 86 [167, 0, 4, 3, 54, 5] dwX11_leansOn_80 rfl rfl)
theorem dX11_leansOn_89 : decode cX11_leansOn 89 = .ok (.iconst 0, 1) := dko_3 (dk_t 9 89 [3, 54, 5] dwX11_leansOn_80 rfl rfl)
theorem dX11_leansOn_90 : decode cX11_leansOn 90 = .ok (.istore 5, 2) := dko_54 (dk_t 10 90 [54, 5] dwX11_leansOn_80 rfl rfl)
theorem dwX11_leansOn_92 : dkW cX11_leansOn 92 [132, 6, 1, 167, 255, 167, 21, 5, 153, 0, 16, 42, 27, 28] = true := by decide +kernel
theorem dX11_leansOn_92 : decode cX11_leansOn 92 = .ok (.iinc 6 1, 3) := dko_132 dwX11_leansOn_92
theorem dX11_leansOn_95 : decode cX11_leansOn 95 = .ok (.goto (-89), 3) := dko_167 (dk_t 3 95 [167, 255, 167, 21, 5, 153, 0, 16, 42, 27, 28] dwX11_leansOn_92 rfl rfl)
theorem dX11_leansOn_98 : decode cX11_leansOn 98 = .ok (.iload 5, 2) := dko_21 (dk_t 6 98 [21, 5, 153, 0, 16, 42, 27, 28] dwX11_leansOn_92 rfl rfl)
theorem dX11_leansOn_100 : decode cX11_leansOn 100 = .ok (.ifCond .eq 16, 3) := dko_153 (dk_t 8 100 [153, 0, 16, 42, 27, 28] dwX11_leansOn_92 rfl rfl)
theorem dX11_leansOn_103 : decode cX11_leansOn 103 = .ok (.aload_n 0, 1) := dko_42 (dk_t 11 103 [42, 27, 28] dwX11_leansOn_92 rfl rfl)
theorem dX11_leansOn_104 : decode cX11_leansOn 104 = .ok (.iload_n 1, 1) := dko_27 (dk_t 12 104 [27, 28] dwX11_leansOn_92 rfl rfl)
theorem dX11_leansOn_105 : decode cX11_leansOn 105 = .ok (.iload_n 2, 1) := dko_28 (dk_t 13 105 [28] dwX11_leansOn_92 rfl rfl)
theorem dwX11_leansOn_106 : dkW cX11_leansOn 106 [182, 1, 90, 153, 0, 7, 4, 167, 0, 4, 3, 172] = true := by decide +kernel
theorem dX11_leansOn_106 : decode cX11_leansOn 106 = .ok (.invokevirtual 346, 3) := dko_182 dwX11_leansOn_106
theorem dX11_leansOn_109 : decode cX11_leansOn 109 = .ok (.ifCond .eq 7, 3) := dko_153 (dk_t 3 109 [153, 0, 7, 4, 167, 0, 4, 3, 172] dwX11_leansOn_106 rfl rfl)
theorem dX11_leansOn_112 : decode cX11_leansOn 112 = .ok (.iconst 1, 1) := dko_4 (dk_t 6 112 [4, 167, 0, 4, 3, 172] dwX11_leansOn_106 rfl rfl)
theorem dX11_leansOn_113 : decode cX11_leansOn 113 = .ok (.goto 4, 3) := dko_167 (dk_t 7 113 [167, 0, 4, 3, 172] dwX11_leansOn_106 rfl rfl)
theorem dX11_leansOn_116 : decode cX11_leansOn 116 = .ok (.iconst 0, 1) := dko_3 (dk_t 10 116 [3, 172] dwX11_leansOn_106 rfl rfl)
theorem dX11_leansOn_117 : decode cX11_leansOn 117 = .ok (.ireturn, 1) := dko_172 (dk_t 11 117 [172] dwX11_leansOn_106 rfl rfl)
theorem dwX11_leans_0 : dkW cX11_leans 0 [42, 3, 181, 0, 134, 42, 27, 28, 182, 1, 90, 153, 0, 13] = true := by decide +kernel
theorem dX11_leans_0 : decode cX11_leans 0 = .ok (.aload_n 0, 1) := dko_42 dwX11_leans_0
theorem dX11_leans_1 : decode cX11_leans 1 = .ok (.iconst 0, 1) := dko_3 (dk_t 1 1 [3, 181, 0, 134, 42, 27, 28, 182, 1, 90, 153, 0, 13] dwX11_leans_0 rfl rfl)
theorem dX11_leans_2 : decode cX11_leans 2 = .ok (.putfield 134, 3) := dko_181 (dk_t 2 2 [181, 0, 134, 42, 27, 28, 182, 1, 90, 153, 0, 13] dwX11_leans_0 rfl rfl)
theorem dX11_leans_5 : decode cX11_leans 5 = .ok (.aload_n 0, 1) := dko_42 (dk_t 5 5 [42, 27, 28, 182, 1, 90, 153, 0, 13] dwX11_leans_0 rfl rfl)
theorem dX11_leans_6 : decode cX11_leans 6 = .ok (.iload_n 1, 1) := dko_27 (dk_t 6 6 [27, 28, 182, 1, 90, 153, 0, 13] dwX11_leans_0 rfl rfl)
theorem dX11_leans_7 : decode cX11_leans 7 = .ok (.iload_n 2, 1) := dko_28 (dk_t 7 7 [28, 182, 1, 90, 153, 0, 13] dwX11_leans_0 rfl rfl)
theorem dX11_leans_8 : decode cX11_leans 8 = .ok (.invokevirtual 346, 3) := dko_182 (dk_t 8 8 [182, 1, 90, 153, 0, 13] dwX11_leans_0 rfl rfl)
theorem dX11_leans_11 : decode cX11_leans 11 = .ok (.ifCond .eq 13, 3) := dko_153 (dk_t 11 11 [153, 0, 13] dwX11_leans_0 rfl rfl)
theorem dwX11_leans_14 : dkW cX11_leans 14 [29, 133, 9, 10, 184, 0, 139, 154, 0, 5, 2, 172, 3] = true := by decide +kernel
theorem dX11_leans_14 : decode cX11_leans 14 = .ok (.iload_n 3, 1) := dko_29 dwX11_leans_14
theorem dX11_leans_15 : decode cX11_leans 15 = .ok (.i2l, 1) := dko_133 (dk_t 1 15 [133, 9, 10, 184, 0, 139, 154, 0, 5, 2, 172, 3] dwX11_leans_14 rfl rfl)
theorem dX11_leans_16 : decode cX11_leans 16 = .ok (.lconst 0, 1) := dko_9 (dk_t 2 16 [9, 10, 184, 0, 139, 154, 0, 5, 2, 172, 3] dwX11_leans_14 rfl rfl)
theorem dX11_leans_17 : decode cX11_leans 17 = .ok (.lconst 1, 1) := dko_10 (dk_t 3 17 [10, 184, 0, 139, 154, 0, 5, 2, 172, 3] dwX11_leans_14 rfl rfl)
theorem dX11_leans_18 : decode cX11_leans 18 = .ok (.invokestatic 139, 3) := dko_184 (dk_t 4 18 [184, 0, 139, 154, 0, 5, 2, 172, 3] dwX11_leans_14 rfl rfl)
theorem dX11_leans_21 : decode cX11_leans 21 = .ok (.ifCond .ne 5, 3) := dko_154 (dk_t 7 21 [154, 0, 5, 2, 172, 3] dwX11_leans_14 rfl rfl)
theorem dX11_leans_24 : decode cX11_leans 24 = .ok (.iconst (-1), 1) := dko_2 (dk_t 10 24 [2, 172, 3] dwX11_leans_14 rfl rfl)
theorem dX11_leans_25 : decode cX11_leans 25 = .ok (.ireturn, 1) := dko_172 (dk_t 11 25 [172, 3] dwX11_leans_14 rfl rfl)
theorem dX11_leans_26 : decode cX11_leans 26 = .ok (.iconst 0, 1) := dko_3 (dk_t 12 26 [3] dwX11_leans_14 rfl rfl)
theorem dwX11_leans_27 : dkW cX11_leans 27 [54, 4, 3, 54, 5, 21, 5, 16, 90, 162, 0, 52, 42] = true := by decide +kernel
theorem dX11_leans_27 : decode cX11_leans 27 = .ok (.istore 4, 2) := dko_54 dwX11_leans_27
theorem dX11_leans_29 : decode cX11_leans 29 = .ok (.iconst 0, 1) := dko_3 (dk_t 2 29 [3, 54, 5, 21, 5, 16, 90, 162, 0, 52, 42] dwX11_leans_27 rfl rfl)
theorem dX11_leans_30 : decode cX11_leans 30 = .ok (.istore 5, 2) := dko_54 (dk_t 3 30 [54, 5, 21, 5, 16, 90, 162, 0, 52, 42] dwX11_leans_27 rfl rfl)
theorem dX11_leans_32 : decode cX11_leans 32 = .ok (.iload 5, 2) := dko_21 (dk_t 5 32 [21, 5, 16, 90, 162, 0, 52, 42] dwX11_leans_27 rfl rfl)
theorem dX11_leans_34 : decode cX11_leans 34 = .ok (.bipush 90, 2) := dko_16 (dk_t 7 34 [16, 90, 162, 0, 52, 42] dwX11_leans_27 rfl rfl)
theorem dX11_leans_36 : decode cX11_leans 36 = .ok (.if_icmp .ge 52, 3) := dko_162 (dk_t 9 36 [162, 0, 52, 42] dwX11_leans_27 rfl rfl)
theorem dX11_leans_39 : decode cX11_leans 39 = .ok (.aload_n 0, 1) := dko_42 (dk_t 12 39 [42] dwX11_leans_27 rfl rfl)
theorem dwX11_leans_40 : dkW cX11_leans 40 [180, 0, 130, 21, 5, 42, 21, 5, 16, 30, 108, 21, 5] = true := by decide +kernel
theorem dX11_leans_40 : decode cX11_leans 40 = .ok (.getfield 130, 3) := dko_180 dwX11_leans_40
theorem dX11_leans_43 : decode cX11_leans 43 = .ok (.iload 5, 2) := dko_21 (dk_t 3 43 [21, 5, 42, 21, 5, 16, 30, 108, 21, 5] dwX11_leans_40 rfl rfl)
theorem dX11_leans_45 : decode cX11_leans 45 = .ok (.aload_n 0, 1) := dko_42 (dk_t 5 45 [42, 21, 5, 16, 30, 108, 21, 5] dwX11_leans_40 rfl rfl)
theorem dX11_leans_46 : decode cX11_leans 46 = .ok (.iload 5, 2) := dko_21 (dk_t 6 46 [21, 5, 16, 30, 108, 21, 5] dwX11_leans_40 rfl rfl)
theorem dX11_leans_48 : decode cX11_leans 48 = .ok (.bipush 30, 2) := dko_16 (dk_t 8 48 [16, 30, 108, 21, 5] dwX11_leans_40 rfl rfl)
theorem dX11_leans_50 : decode cX11_leans 50 = .ok (.idiv, 1) := dko_108 (dk_t 10 50 [108, 21, 5] dwX11_leans_40 rfl rfl)
theorem dX11_leans_51 : decode cX11_leans 51 = .ok (.iload 5, 2) := dko_21 (dk_t 11 51 [21, 5] dwX11_leans_40 rfl rfl)
theorem dwX11_leans_53 : dkW cX11_leans 53 [16, 30, 112, 27, 28, 182, 1, 136, 84, 21, 4, 42] = true := by decide +kernel
theorem dX11_leans_53 : decode cX11_leans 53 = .ok (.bipush 30, 2) := dko_16 dwX11_leans_53
theorem dX11_leans_55 : decode cX11_leans 55 = .ok (.irem, 1) := dko_112 (dk_t 2 55 [112, 27, 28, 182, 1, 136, 84, 21, 4, 42] dwX11_leans_53 rfl rfl)
theorem dX11_leans_56 : decode cX11_leans 56 = .ok (.iload_n 1, 1) := dko_27 (dk_t 3 56 [27, 28, 182, 1, 136, 84, 21, 4, 42] dwX11_leans_53 rfl rfl)
theorem dX11_leans_57 : decode cX11_leans 57 = .ok (.iload_n 2, 1) := dko_28 (dk_t 4 57 [28, 182, 1, 136, 84, 21, 4, 42] dwX11_leans_53 rfl rfl)
theorem dX11_leans_58 : decode cX11_leans 58 = .ok (.invokevirtual 392, 3) := dko_182 (dk_t 5 58 [182, 1, 136, 84, 21, 4, 42] dwX11_leans_53 rfl rfl)
theorem dX11_leans_61 : decode cX11_leans 61 = .ok (.bastore, 1) := dko_84 (dk_t 8 61 [84, 21, 4, 42] dwX11_leans_53 rfl rfl)
theorem dX11_leans_62 : decode cX11_leans 62 = .ok (.iload 4, 2) := dko_21 (dk_t 9 62 [21, 4, 42] dwX11_leans_53 rfl rfl)
theorem dX11_leans_64 : decode cX11_leans 64 = .ok (.aload_n 0, 1) := dko_42 (dk_t 11 64 [42] dwX11_leans_53 rfl rfl)
theorem dwX11_leans_65 : dkW cX11_leans 65 [180, 0, 130, 21, 5, 51, 153, 0, 7, 4, 167, 0, 4, 3] = true := by decide +kernel
theorem dX11_leans_65 : decode cX11_leans 65 = .ok (.getfield 130, 3) := dko_180 dwX11_leans_65
theorem dX11_leans_68 : decode cX11_leans 68 = .ok (.iload 5, 2) := dko_21 (dk_t 3 68 [21, 5, 51, 153, 0, 7, 4, 167, 0, 4, 3] dwX11_leans_65 rfl rfl)
theorem dX11_leans_70 : decode cX11_leans 70 = .ok (.baload, 1) := dko_51 (dk_t 5 70 [51, 153, 0, 7, 4, 167, 0, 4, 3] dwX11_leans_65 rfl rfl)
theorem dX11_leans_71 : decode cX11_leans 71 = .ok (.ifCond .eq 7, 3) := dko_153 (dk_t 6 71 [153, 0, 7, 4, 167, 0, 4, 3] dwX11_leans_65 rfl rfl)
theorem dX11_leans_74 : decode cX11_leans 74 = .ok (.iconst 1, 1) := dko_4 (dk_t 9 74 [4, 167, 0, 4, 3] dwX11_leans_65 rfl rfl)
theorem dX11_leans_75 : decode cX11_leans 75 = .ok (.goto 4, 3) := dko_167 (dk_t 10 75 [167, 0, 4, 3] dwX11_leans_65 rfl rfl)
theorem dX11_leans_78 : decode cX11_leans 78 = .ok (.iconst 0, 1) := dko_3 (dk_t 13 78 [3] dwX11_leans_65 rfl rfl)
theorem dwX11_leans_79 : dkW cX11_leans 79 [96, 54, 4, 132, 5, 1, 167, 255, 203, 4, 54, 5, 21, 5] = true := by decide +kernel
theorem dX11_leans_79 : decode cX11_leans 79 = .ok (.iadd, 1) := dko_96 dwX11_leans_79
theorem dX11_leans_80 : decode cX11_leans 80 = .ok (.istore 4, 2) := dko_54 (dk_t 1 80 [54, 4, 132, 5, 1, 167, 255, 203, 4, 54, 5, 21, 5] dwX11_leans_79 rfl rfl)
theorem dX11_leans_82 : decode cX11_leans 82 = .ok (.iinc 5 1, 3) := dko_132 (dk_t 3 82 [132, 5, 1, 167, 255, 203, 4, 54, 5, 21, 5] dwX11_leans_79 rfl rfl)
theorem dX11_leans_85 : decode cX11_leans 85 = .ok (.goto (-53), 3) := dko_167 (dk_t 6 85 [167, 255, 203, 4, 54, 5, 21, 5] dwX11_leans_79 rfl rfl)
theorem dX11_leans_88 : decode cX11_leans 88 = .ok (.iconst 1, 1) := dko_4 (dk_t 9 88 [4, 54, 5, 21, 5] dwX11_leans_79 rfl rfl)
theorem dX11_leans_89 : decode cX11_leans 89 = .ok (.istore 5, 2) := dko_54 (dk_t 10 89 [54, 5, 21, 5] dwX11_leans_79 rfl rfl)
theorem dX11_leans_91 : decode cX11_leans 91 = .ok (.iload 5, 2) := dko_21 (dk_t 12 91 [21, 5] dwX11_leans_79 rfl rfl)
theorem dwX11_leans_93 : dkW cX11_leans 93 [153, 0, 99, 3, 54, 5, 3, 54, 6, 21, 6, 16, 90] = true := by decide +kernel
theorem dX11_leans_93 : decode cX11_leans 93 = .ok (.ifCond .eq 99, 3) := dko_153 dwX11_leans_93
theorem dX11_leans_96 : decode cX11_leans 96 = .ok (.iconst 0, 1) := dko_3 (dk_t 3 96 [3, 54, 5, 3, 54, 6, 21, 6, 16, 90] dwX11_leans_93 rfl rfl)
theorem dX11_leans_97 : decode cX11_leans 97 = .ok (.istore 5, 2) := dko_54 (dk_t 4 97 [54, 5, 3, 54, 6, 21, 6, 16, 90] dwX11_leans_93 rfl rfl)
theorem dX11_leans_99 : decode cX11_leans 99 = .ok (.iconst 0, 1) := dko_3 (dk_t 6 99 [3, 54, 6, 21, 6, 16, 90] dwX11_leans_93 rfl rfl)
theorem dX11_leans_100 : decode cX11_leans 100 = .ok (.istore 6, 2) := dko_54 (dk_t 7 100 [54, 6, 21, 6, 16, 90] dwX11_leans_93 rfl rfl)
theorem dX11_leans_102 : decode cX11_leans 102 = .ok (.iload 6, 2) := dko_21 (dk_t 9 102 [21, 6, 16, 90] dwX11_leans_93 rfl rfl)
theorem dX11_leans_104 : decode cX11_leans 104 = .ok (.bipush 90, 2) := dko_16 (dk_t 11 104 [16, 90] dwX11_leans_93 rfl rfl)
theorem dwX11_leans_106 : dkW cX11_leans 106 [162, 0, 83, 3, 54, 7, 21, 7, 16, 90, 162, 0, 67, 42] = true := by decide +kernel
theorem dX11_leans_106 : decode cX11_leans 106 = .ok (.if_icmp .ge 83, 3) := dko_162 dwX11_leans_106
theorem dX11_leans_109 : decode cX11_leans 109 = .ok (.iconst 0, 1) := dko_3 (dk_t 3 109 [3, 54, 7, 21, 7, 16, 90, 162, 0, 67, 42] dwX11_leans_106 rfl rfl)
theorem dX11_leans_110 : decode cX11_leans 110 = .ok (.istore 7, 2) := dko_54 (dk_t 4 110 [54, 7, 21, 7, 16, 90, 162, 0, 67, 42] dwX11_leans_106 rfl rfl)
theorem dX11_leans_112 : decode cX11_leans 112 = .ok (.iload 7, 2) := dko_21 (dk_t 6 112 [21, 7, 16, 90, 162, 0, 67, 42] dwX11_leans_106 rfl rfl)
theorem dX11_leans_114 : decode cX11_leans 114 = .ok (.bipush 90, 2) := dko_16 (dk_t 8 114 [16, 90, 162, 0, 67, 42] dwX11_leans_106 rfl rfl)
theorem dX11_leans_116 : decode cX11_leans 116 = .ok (.if_icmp .ge 67, 3) := dko_162 (dk_t 10 116 [162, 0, 67, 42] dwX11_leans_106 rfl rfl)
theorem dX11_leans_119 : decode cX11_leans 119 = .ok (.aload_n 0, 1) := dko_42 (dk_t 13 119 [42] dwX11_leans_106 rfl rfl)
theorem dwX11_leans_120 : dkW cX11_leans 120 [180, 0, 130, 21, 6, 51, 154, 0, 57, 42, 180, 0, 130] = true := by decide +kernel
theorem dX11_leans_120 : decode cX11_leans 120 = .ok (.getfield 130, 3) := dko_180 dwX11_leans_120
theorem dX11_leans_123 : decode cX11_leans 123 = .ok (.iload 6, 2) := dko_21 (dk_t 3 123 [21, 6, 51, 154, 0, 57, 42, 180, 0, 130] dwX11_leans_120 rfl rfl)
theorem dX11_leans_125 : decode cX11_leans 125 = .ok (.baload, 1) := dko_51 (dk_t 5 125 [51, 154, 0, 57, 42, 180, 0, 130] dwX11_leans_120 rfl rfl)
theorem dX11_leans_126 : decode cX11_leans 126 = .ok (.ifCond .ne 57, 3) := dko_154 (dk_t 6 126 [154, 0, 57, 42, 180, 0, 130] dwX11_leans_120 rfl rfl)
theorem dX11_leans_129 : decode cX11_leans 129 = .ok (.aload_n 0, 1) := dko_42 (dk_t 9 129 [42, 180, 0, 130] dwX11_leans_120 rfl rfl)
theorem dX11_leans_130 : decode cX11_leans 130 = .ok (.getfield 130, 3) := dko_180 (dk_t 10 130 [180, 0, 130] dwX11_leans_120 rfl rfl)
theorem dwX11_leans_133 : dkW cX11_leans 133 [21, 7, 51, 153, 0, 41, 42, 21, 6, 16, 30, 108, 21, 6] = true := by decide +kernel
theorem dX11_leans_133 : decode cX11_leans 133 = .ok (.iload 7, 2) := dko_21 dwX11_leans_133
theorem dX11_leans_135 : decode cX11_leans 135 = .ok (.baload, 1) := dko_51 (dk_t 2 135 [51, 153, 0, 41, 42, 21, 6, 16, 30, 108, 21, 6] dwX11_leans_133 rfl rfl)
theorem dX11_leans_136 : decode cX11_leans 136 = .ok (.ifCond .eq 41, 3) := dko_153 (dk_t 3 136 [153, 0, 41, 42, 21, 6, 16, 30, 108, 21, 6] dwX11_leans_133 rfl rfl)
theorem dX11_leans_139 : decode cX11_leans 139 = .ok (.aload_n 0, 1) := dko_42 (dk_t 6 139 [42, 21, 6, 16, 30, 108, 21, 6] dwX11_leans_133 rfl rfl)
theorem dX11_leans_140 : decode cX11_leans 140 = .ok (.iload 6, 2) := dko_21 (dk_t 7 140 [21, 6, 16, 30, 108, 21, 6] dwX11_leans_133 rfl rfl)
theorem dX11_leans_142 : decode cX11_leans 142 = .ok (.bipush 30, 2) := dko_16 (dk_t 9 142 [16, 30, 108, 21, 6] dwX11_leans_133 rfl rfl)
theorem dX11_leans_144 : decode cX11_leans 144 = .ok (.idiv, 1) := dko_108 (dk_t 11 144 [108, 21, 6] dwX11_leans_133 rfl rfl)
theorem dX11_leans_145 : decode cX11_leans 145 = .ok (.iload 6, 2) := dko_21 (dk_t 12 145 [21, 6] dwX11_leans_133 rfl rfl)
theorem dwX11_leans_147 : dkW cX11_leans 147 [16, 30, 112, 21, 7, 16, 30, 108, 21, 7, 16, 30, 112] = true := by decide +kernel
theorem dX11_leans_147 : decode cX11_leans 147 = .ok (.bipush 30, 2) := dko_16 dwX11_leans_147
theorem dX11_leans_149 : decode cX11_leans 149 = .ok (.irem, 1) := dko_112 (dk_t 2 149 [112, 21, 7, 16, 30, 108, 21, 7, 16, 30, 112] dwX11_leans_147 rfl rfl)
theorem dX11_leans_150 : decode cX11_leans 150 = .ok (.iload 7, 2) := dko_21 (dk_t 3 150 [21, 7, 16, 30, 108, 21, 7, 16, 30, 112] dwX11_leans_147 rfl rfl)
theorem dX11_leans_152 : decode cX11_leans 152 = .ok (.bipush 30, 2) := dko_16 (dk_t 5 152 [16, 30, 108, 21, 7, 16, 30, 112] dwX11_leans_147 rfl rfl)
theorem dX11_leans_154 : decode cX11_leans 154 = .ok (.idiv, 1) := dko_108 (dk_t 7 154 [108, 21, 7, 16, 30, 112] dwX11_leans_147 rfl rfl)
theorem dX11_leans_155 : decode cX11_leans 155 = .ok (.iload 7, 2) := dko_21 (dk_t 8 155 [21, 7, 16, 30, 112] dwX11_leans_147 rfl rfl)
theorem dX11_leans_157 : decode cX11_leans 157 = .ok (.bipush 30, 2) := dko_16 (dk_t 10 157 [16, 30, 112] dwX11_leans_147 rfl rfl)
theorem dX11_leans_159 : decode cX11_leans 159 = .ok (.irem, 1) := dko_112 (dk_t 12 159 [112] dwX11_leans_147 rfl rfl)
theorem dwX11_leans_160 : dkW cX11_leans 160 [182, 1, 136, 153, 0, 14, 42, 180, 0, 130, 21, 6, 4, 84] = true := by decide +kernel
theorem dX11_leans_160 : decode cX11_leans 160 = .ok (.invokevirtual 392, 3) := dko_182 dwX11_leans_160
theorem dX11_leans_163 : decode cX11_leans 163 = .ok (.ifCond .eq 14, 3) := dko_153 (dk_t 3 163 [153, 0, 14, 42, 180, 0, 130, 21, 6, 4, 84] dwX11_leans_160 rfl rfl)
theorem dX11_leans_166 : decode cX11_leans 166 = .ok (.aload_n 0, 1) := dko_42 (dk_t 6 166 [42, 180, 0, 130, 21, 6, 4, 84] dwX11_leans_160 rfl rfl)
theorem dX11_leans_167 : decode cX11_leans 167 = .ok (.getfield 130, 3) := dko_180 (dk_t 7 167 [180, 0, 130, 21, 6, 4, 84] dwX11_leans_160 rfl rfl)
theorem dX11_leans_170 : decode cX11_leans 170 = .ok (.iload 6, 2) := dko_21 (dk_t 10 170 [21, 6, 4, 84] dwX11_leans_160 rfl rfl)
theorem dX11_leans_172 : decode cX11_leans 172 = .ok (.iconst 1, 1) := dko_4 (dk_t 12 172 [4, 84] dwX11_leans_160 rfl rfl)
theorem dX11_leans_173 : decode cX11_leans 173 = .ok (.bastore, 1) := dko_84 (dk_t 13 173 [84] dwX11_leans_160 rfl rfl)
theorem dwX11_leans_174 : dkW cX11_leans 174 [4, 54, 5, 132, 7, 1, 167, 255, 188, 132, 6, 1] = true := by decide +kernel
theorem dX11_leans_174 : decode cX11_leans 174 = .ok (.iconst 1, 1) := dko_4 dwX11_leans_174
theorem dX11_leans_175 : decode cX11_leans 175 = .ok (.istore 5, 2) := dko_54 (dk_t 1 175 [54, 5, 132, 7, 1, 167, 255, 188, 132, 6, 1] dwX11_leans_174 rfl rfl)
theorem dX11_leans_177 : decode cX11_leans 177 = .ok (.iinc 7 1, 3) := dko_132 (dk_t 3 177 [132, 7, 1, 167, 255, 188, 132, 6, 1] dwX11_leans_174 rfl rfl)
theorem dX11_leans_180 : decode cX11_leans 180 = .ok (.goto (-68), 3) := dko_167 (dk_t 6 180 [167, 255, 188, 132, 6, 1] dwX11_leans_174 rfl rfl)
theorem dX11_leans_183 : decode cX11_leans 183 = .ok (.iinc 6 1, 3) := dko_132 (dk_t 9 183 [132, 6, 1] dwX11_leans_174 rfl rfl)
theorem dwX11_leans_186 : dkW cX11_leans 186 [167, 255, 172, 167, 255, 158, 3, 54, 6, 3, 54, 7, 21, 7] = true := by decide +kernel
theorem dX11_leans_186 : decode cX11_leans 186 = .ok (.goto (-84), 3) := dko_167 dwX11_leans_186
theorem dX11_leans_189 : decode cX11_leans 189 = .ok (.goto (-98), 3) := dko_167 (dk_t 3 189 [167, 255, 158, 3, 54, 6, 3, 54, 7, 21, 7] dwX11_leans_186 rfl rfl)
theorem dX11_leans_192 : decode cX11_leans 192 = .ok (.iconst 0, 1) := dko_3 (dk_t 6 192 [3, 54, 6, 3, 54, 7, 21, 7] dwX11_leans_186 rfl rfl)
theorem dX11_leans_193 : decode cX11_leans 193 = .ok (.istore 6, 2) := dko_54 (dk_t 7 193 [54, 6, 3, 54, 7, 21, 7] dwX11_leans_186 rfl rfl)
theorem dX11_leans_195 : decode cX11_leans 195 = .ok (.iconst 0, 1) := dko_3 (dk_t 9 195 [3, 54, 7, 21, 7] dwX11_leans_186 rfl rfl)
theorem dX11_leans_196 : decode cX11_leans 196 = .ok (.istore 7, 2) := dko_54 (dk_t 10 196 [54, 7, 21, 7] dwX11_leans_186 rfl rfl)
theorem dX11_leans_198 : decode cX11_leans 198 = .ok (.iload 7, 2) := dko_21 (dk_t 12 198 [21, 7] dwX11_leans_186 rfl rfl)
theorem dwX11_leans_200 : dkW cX11_leans 200 [16, 90, 162, 0, 40, 21, 6, 42, 180, 0, 130, 21, 7, 51] = true := by decide +kernel
theorem dX11_leans_200 : decode cX11_leans 200 = .ok (.bipush 90, 2) := dko_16 dwX11_leans_200
theorem dX11_leans_202 : decode cX11_leans 202 = .ok (.if_icmp .ge 40, 3) := dko_162 (dk_t 2 202 [162, 0, 40, 21, 6, 42, 180, 0, 130, 21, 7, 51] dwX11_leans_200 rfl rfl)
theorem dX11_leans_205 : decode cX11_leans 205 = .ok (.iload 6, 2) := dko_21 (dk_t 5 205 [21, 6, 42, 180, 0, 130, 21, 7, 51] dwX11_leans_200 rfl rfl)
theorem dX11_leans_207 : decode cX11_leans 207 = .ok (.aload_n 0, 1) := dko_42 (dk_t 7 207 [42, 180, 0, 130, 21, 7, 51] dwX11_leans_200 rfl rfl)
theorem dX11_leans_208 : decode cX11_leans 208 = .ok (.getfield 130, 3) := dko_180 (dk_t 8 208 [180, 0, 130, 21, 7, 51] dwX11_leans_200 rfl rfl)
theorem dX11_leans_211 : decode cX11_leans 211 = .ok (.iload 7, 2) := dko_21 (dk_t 11 211 [21, 7, 51] dwX11_leans_200 rfl rfl)
theorem dX11_leans_213 : decode cX11_leans 213 = .ok (.baload, 1) := dko_51 (dk_t 13 213 [51] dwX11_leans_200 rfl rfl)
theorem dwX11_leans_214 : dkW cX11_leans 214 [153, 0, 18, 21, 7, 16, 30, 27, 104, 28, 96, 159, 0, 7] = true := by decide +kernel
theorem dX11_leans_214 : decode cX11_leans 214 = .ok (.ifCond .eq 18, 3) := dko_153 dwX11_leans_214
theorem dX11_leans_217 : decode cX11_leans 217 = .ok (.iload 7, 2) := dko_21 (dk_t 3 217 [21, 7, 16, 30, 27, 104, 28, 96, 159, 0, 7] dwX11_leans_214 rfl rfl)
theorem dX11_leans_219 : decode cX11_leans 219 = .ok (.bipush 30, 2) := dko_16 (dk_t 5 219 [16, 30, 27, 104, 28, 96, 159, 0, 7] dwX11_leans_214 rfl rfl)
theorem dX11_leans_221 : decode cX11_leans 221 = .ok (.iload_n 1, 1) := dko_27 (dk_t 7 221 [27, 104, 28, 96, 159, 0, 7] dwX11_leans_214 rfl rfl)
theorem dX11_leans_222 : decode cX11_leans 222 = .ok (.imul, 1) := dko_104 (dk_t 8 222 [104, 28, 96, 159, 0, 7] dwX11_leans_214 rfl rfl)
theorem dX11_leans_223 : decode cX11_leans 223 = .ok (.iload_n 2, 1) := dko_28 (dk_t 9 223 [28, 96, 159, 0, 7] dwX11_leans_214 rfl rfl)
theorem dX11_leans_224 : decode cX11_leans 224 = .ok (.iadd, 1) := dko_96 (dk_t 10 224 [96, 159, 0, 7] dwX11_leans_214 rfl rfl)
theorem dX11_leans_225 : decode cX11_leans 225 = .ok (.if_icmp .eq 7, 3) := dko_159 (dk_t 11 225 [159, 0, 7] dwX11_leans_214 rfl rfl)
theorem dwX11_leans_228 : dkW cX11_leans 228 [4, 167, 0, 4, 3, 96, 54, 6, 132, 7, 1, 167, 255, 215] = true := by decide +kernel
theorem dX11_leans_228 : decode cX11_leans 228 = .ok (.iconst 1, 1) := dko_4 dwX11_leans_228
theorem dX11_leans_229 : decode cX11_leans 229 = .ok (.goto 4, 3) := dko_167 (dk_t 1 229 [167, 0, 4, 3, 96, 54, 6, 132, 7, 1, 167, 255, 215] dwX11_leans_228 rfl rfl)
theorem dX11_leans_232 : decode cX11_leans 232 = .ok (.iconst 0, 1) := dko_3 (dk_t 4 232 [3, 96, 54, 6, 132, 7, 1, 167, 255, 215] dwX11_leans_228 rfl rfl)
theorem dX11_leans_233 : decode cX11_leans 233 = .ok (.iadd, 1) := dko_96 (dk_t 5 233 [96, 54, 6, 132, 7, 1, 167, 255, 215] dwX11_leans_228 rfl rfl)
theorem dX11_leans_234 : decode cX11_leans 234 = .ok (.istore 6, 2) := dko_54 (dk_t 6 234 [54, 6, 132, 7, 1, 167, 255, 215] dwX11_leans_228 rfl rfl)
theorem dX11_leans_236 : decode cX11_leans 236 = .ok (.iinc 7 1, 3) := dko_132 (dk_t 8 236 [132, 7, 1, 167, 255, 215] dwX11_leans_228 rfl rfl)
theorem dX11_leans_239 : decode cX11_leans 239 = .ok (.goto (-41), 3) := dko_167 (dk_t 11 239 [167, 255, 215] dwX11_leans_228 rfl rfl)
theorem dwX11_leans_242 : dkW cX11_leans 242 [29, 154, 0, 8, 21, 4, 167, 0, 5, 21, 6, 172] = true := by decide +kernel
theorem dX11_leans_242 : decode cX11_leans 242 = .ok (.iload_n 3, 1) := dko_29 dwX11_leans_242
theorem dX11_leans_243 : decode cX11_leans 243 = .ok (.ifCond .ne 8, 3) := dko_154 (dk_t 1 243 [154, 0, 8, 21, 4, 167, 0, 5, 21, 6, 172] dwX11_leans_242 rfl rfl)
theorem dX11_leans_246 : decode cX11_leans 246 = .ok (.iload 4, 2) := dko_21 (dk_t 4 246 [21, 4, 167, 0, 5, 21, 6, 172] dwX11_leans_242 rfl rfl)
theorem dX11_leans_248 : decode cX11_leans 248 = .ok (.goto 5, 3) := dko_167 (dk_t 6 248 [167, 0, 5, 21, 6, 172] dwX11_leans_242 rfl rfl)
theorem dX11_leans_251 : decode cX11_leans 251 = .ok (.iload 6, 2) := dko_21 (dk_t 9 251 [21, 6, 172] dwX11_leans_242 rfl rfl)
theorem dX11_leans_253 : decode cX11_leans 253 = .ok (.ireturn, 1) := dko_172 (dk_t 11 253 [172] dwX11_leans_242 rfl rfl)
theorem dwX11_least_0 : dkW cX11_least 0 [42, 3, 181, 0, 134, 42, 27, 28, 182, 1, 90, 153, 0, 10] = true := by decide +kernel
theorem dX11_least_0 : decode cX11_least 0 = .ok (.aload_n 0, 1) := dko_42 dwX11_least_0
theorem dX11_least_1 : decode cX11_least 1 = .ok (.iconst 0, 1) := dko_3 (dk_t 1 1 [3, 181, 0, 134, 42, 27, 28, 182, 1, 90, 153, 0, 10] dwX11_least_0 rfl rfl)
theorem dX11_least_2 : decode cX11_least 2 = .ok (.putfield 134, 3) := dko_181 (dk_t 2 2 [181, 0, 134, 42, 27, 28, 182, 1, 90, 153, 0, 10] dwX11_least_0 rfl rfl)
theorem dX11_least_5 : decode cX11_least 5 = .ok (.aload_n 0, 1) := dko_42 (dk_t 5 5 [42, 27, 28, 182, 1, 90, 153, 0, 10] dwX11_least_0 rfl rfl)
theorem dX11_least_6 : decode cX11_least 6 = .ok (.iload_n 1, 1) := dko_27 (dk_t 6 6 [27, 28, 182, 1, 90, 153, 0, 10] dwX11_least_0 rfl rfl)
theorem dX11_least_7 : decode cX11_least 7 = .ok (.iload_n 2, 1) := dko_28 (dk_t 7 7 [28, 182, 1, 90, 153, 0, 10] dwX11_least_0 rfl rfl)
theorem dX11_least_8 : decode cX11_least 8 = .ok (.invokevirtual 346, 3) := dko_182 (dk_t 8 8 [182, 1, 90, 153, 0, 10] dwX11_least_0 rfl rfl)
theorem dX11_least_11 : decode cX11_least 11 = .ok (.ifCond .eq 10, 3) := dko_153 (dk_t 11 11 [153, 0, 10] dwX11_least_0 rfl rfl)
theorem dwX11_least_14 : dkW cX11_least 14 [29, 184, 1, 100, 154, 0, 6, 18, 57, 172, 42, 182, 1, 94] = true := by decide +kernel
theorem dX11_least_14 : decode cX11_least 14 = .ok (.iload_n 3, 1) := dko_29 dwX11_least_14
theorem dX11_least_15 : decode cX11_least 15 = .ok (.invokestatic 356, 3) := dko_184 (dk_t 1 15 [184, 1, 100, 154, 0, 6, 18, 57, 172, 42, 182, 1, 94] dwX11_least_14 rfl rfl)
theorem dX11_least_18 : decode cX11_least 18 = .ok (.ifCond .ne 6, 3) := dko_154 (dk_t 4 18 [154, 0, 6, 18, 57, 172, 42, 182, 1, 94] dwX11_least_14 rfl rfl)
theorem dX11_least_21 : decode cX11_least 21 = .ok (.ldc 57, 2) := dko_18 (dk_t 7 21 [18, 57, 172, 42, 182, 1, 94] dwX11_least_14 rfl rfl)
theorem dX11_least_23 : decode cX11_least 23 = .ok (.ireturn, 1) := dko_172 (dk_t 9 23 [172, 42, 182, 1, 94] dwX11_least_14 rfl rfl)
theorem dX11_least_24 : decode cX11_least 24 = .ok (.aload_n 0, 1) := dko_42 (dk_t 10 24 [42, 182, 1, 94] dwX11_least_14 rfl rfl)
theorem dX11_least_25 : decode cX11_least 25 = .ok (.invokevirtual 350, 3) := dko_182 (dk_t 11 25 [182, 1, 94] dwX11_least_14 rfl rfl)
theorem dwX11_least_28 : dkW cX11_least 28 [27, 28, 184, 0, 156, 4, 96, 29, 96, 54, 4, 18, 57] = true := by decide +kernel
theorem dX11_least_28 : decode cX11_least 28 = .ok (.iload_n 1, 1) := dko_27 dwX11_least_28
theorem dX11_least_29 : decode cX11_least 29 = .ok (.iload_n 2, 1) := dko_28 (dk_t 1 29 [28, 184, 0, 156, 4, 96, 29, 96, 54, 4, 18, 57] dwX11_least_28 rfl rfl)
theorem dX11_least_30 : decode cX11_least 30 = .ok (.invokestatic 156, 3) := dko_184 (dk_t 2 30 [184, 0, 156, 4, 96, 29, 96, 54, 4, 18, 57] dwX11_least_28 rfl rfl)
theorem dX11_least_33 : decode cX11_least 33 = .ok (.iconst 1, 1) := dko_4 (dk_t 5 33 [4, 96, 29, 96, 54, 4, 18, 57] dwX11_least_28 rfl rfl)
theorem dX11_least_34 : decode cX11_least 34 = .ok (.iadd, 1) := dko_96 (dk_t 6 34 [96, 29, 96, 54, 4, 18, 57] dwX11_least_28 rfl rfl)
theorem dX11_least_35 : decode cX11_least 35 = .ok (.iload_n 3, 1) := dko_29 (dk_t 7 35 [29, 96, 54, 4, 18, 57] dwX11_least_28 rfl rfl)
theorem dX11_least_36 : decode cX11_least 36 = .ok (.iadd, 1) := dko_96 (dk_t 8 36 [96, 54, 4, 18, 57] dwX11_least_28 rfl rfl)
theorem dX11_least_37 : decode cX11_least 37 = .ok (.istore 4, 2) := dko_54 (dk_t 9 37 [54, 4, 18, 57] dwX11_least_28 rfl rfl)
theorem dX11_least_39 : decode cX11_least 39 = .ok (.ldc 57, 2) := dko_18 (dk_t 11 39 [18, 57] dwX11_least_28 rfl rfl)
theorem dwX11_least_41 : dkW cX11_least 41 [54, 5, 16, 157, 54, 6, 21, 6, 16, 99, 163, 0, 68] = true := by decide +kernel
theorem dX11_least_41 : decode cX11_least 41 = .ok (.istore 5, 2) := dko_54 dwX11_least_41
theorem dX11_least_43 : decode cX11_least 43 = .ok (.bipush (-99), 2) := dko_16 (dk_t 2 43 [16, 157, 54, 6, 21, 6, 16, 99, 163, 0, 68] dwX11_least_41 rfl rfl)
theorem dX11_least_45 : decode cX11_least 45 = .ok (.istore 6, 2) := dko_54 (dk_t 4 45 [54, 6, 21, 6, 16, 99, 163, 0, 68] dwX11_least_41 rfl rfl)
theorem dX11_least_47 : decode cX11_least 47 = .ok (.iload 6, 2) := dko_21 (dk_t 6 47 [21, 6, 16, 99, 163, 0, 68] dwX11_least_41 rfl rfl)
theorem dX11_least_49 : decode cX11_least 49 = .ok (.bipush 99, 2) := dko_16 (dk_t 8 49 [16, 99, 163, 0, 68] dwX11_least_41 rfl rfl)
theorem dX11_least_51 : decode cX11_least 51 = .ok (.if_icmp .gt 68, 3) := dko_163 (dk_t 10 51 [163, 0, 68] dwX11_least_41 rfl rfl)
theorem dwX11_least_54 : dkW cX11_least 54 [21, 5, 18, 57, 160, 0, 61, 21, 6, 42, 180, 0, 21] = true := by decide +kernel
theorem dX11_least_54 : decode cX11_least 54 = .ok (.iload 5, 2) := dko_21 dwX11_least_54
theorem dX11_least_56 : decode cX11_least 56 = .ok (.ldc 57, 2) := dko_18 (dk_t 2 56 [18, 57, 160, 0, 61, 21, 6, 42, 180, 0, 21] dwX11_least_54 rfl rfl)
theorem dX11_least_58 : decode cX11_least 58 = .ok (.if_icmp .ne 61, 3) := dko_160 (dk_t 4 58 [160, 0, 61, 21, 6, 42, 180, 0, 21] dwX11_least_54 rfl rfl)
theorem dX11_least_61 : decode cX11_least 61 = .ok (.iload 6, 2) := dko_21 (dk_t 7 61 [21, 6, 42, 180, 0, 21] dwX11_least_54 rfl rfl)
theorem dX11_least_63 : decode cX11_least 63 = .ok (.aload_n 0, 1) := dko_42 (dk_t 9 63 [42, 180, 0, 21] dwX11_least_54 rfl rfl)
theorem dX11_least_64 : decode cX11_least 64 = .ok (.getfield 21, 3) := dko_180 (dk_t 10 64 [180, 0, 21] dwX11_least_54 rfl rfl)
theorem dwX11_least_67 : dkW cX11_least 67 [21, 4, 46, 159, 0, 43, 42, 180, 0, 9, 21, 4, 21, 6] = true := by decide +kernel
theorem dX11_least_67 : decode cX11_least 67 = .ok (.iload 4, 2) := dko_21 dwX11_least_67
theorem dX11_least_69 : decode cX11_least 69 = .ok (.iaload, 1) := dko_46 (dk_t 2 69 [46, 159, 0, 43, 42, 180, 0, 9, 21, 4, 21, 6] dwX11_least_67 rfl rfl)
theorem dX11_least_70 : decode cX11_least 70 = .ok (.if_icmp .eq 43, 3) := dko_159 (dk_t 3 70 [159, 0, 43, 42, 180, 0, 9, 21, 4, 21, 6] dwX11_least_67 rfl rfl)
theorem dX11_least_73 : decode cX11_least 73 = .ok (.aload_n 0, 1) := dko_42 (dk_t 6 73 [42, 180, 0, 9, 21, 4, 21, 6] dwX11_least_67 rfl rfl)
theorem dX11_least_74 : decode cX11_least 74 = .ok (.getfield 9, 3) := dko_180 (dk_t 7 74 [180, 0, 9, 21, 4, 21, 6] dwX11_least_67 rfl rfl)
theorem dX11_least_77 : decode cX11_least 77 = .ok (.iload 4, 2) := dko_21 (dk_t 10 77 [21, 4, 21, 6] dwX11_least_67 rfl rfl)
theorem dX11_least_79 : decode cX11_least 79 = .ok (.iload 6, 2) := dko_21 (dk_t 12 79 [21, 6] dwX11_least_67 rfl rfl)
theorem dwX11_least_81 : dkW cX11_least 81 [79, 42, 42, 180, 0, 36, 42, 180, 0, 9, 3, 182, 0, 210] = true := by decide +kernel
theorem dX11_least_81 : decode cX11_least 81 = .ok (.iastore, 1) := dko_79 dwX11_least_81
theorem dX11_least_82 : decode cX11_least 82 = .ok (.aload_n 0, 1) := dko_42 (dk_t 1 82 [42, 42, 180, 0, 36, 42, 180, 0, 9, 3, 182, 0, 210] dwX11_least_81 rfl rfl)
theorem dX11_least_83 : decode cX11_least 83 = .ok (.aload_n 0, 1) := dko_42 (dk_t 2 83 [42, 180, 0, 36, 42, 180, 0, 9, 3, 182, 0, 210] dwX11_least_81 rfl rfl)
theorem dX11_least_84 : decode cX11_least 84 = .ok (.getfield 36, 3) := dko_180 (dk_t 3 84 [180, 0, 36, 42, 180, 0, 9, 3, 182, 0, 210] dwX11_least_81 rfl rfl)
theorem dX11_least_87 : decode cX11_least 87 = .ok (.aload_n 0, 1) := dko_42 (dk_t 6 87 [42, 180, 0, 9, 3, 182, 0, 210] dwX11_least_81 rfl rfl)
theorem dX11_least_88 : decode cX11_least 88 = .ok (.getfield 9, 3) := dko_180 (dk_t 7 88 [180, 0, 9, 3, 182, 0, 210] dwX11_least_81 rfl rfl)
theorem dX11_least_91 : decode cX11_least 91 = .ok (.iconst 0, 1) := dko_3 (dk_t 10 91 [3, 182, 0, 210] dwX11_least_81 rfl rfl)
theorem dX11_least_92 : decode cX11_least 92 = .ok (.invokevirtual 210, 3) := dko_182 (dk_t 11 92 [182, 0, 210] dwX11_least_81 rfl rfl)
theorem dwX11_least_95 : dkW cX11_least 95 [42, 5, 182, 1, 63, 2, 160, 0, 8, 21, 6, 167, 0, 5] = true := by decide +kernel
theorem dX11_least_95 : decode cX11_least 95 = .ok (.aload_n 0, 1) := dko_42 dwX11_least_95
theorem dX11_least_96 : decode cX11_least 96 = .ok (.iconst 2, 1) := dko_5 (dk_t 1 96 [5, 182, 1, 63, 2, 160, 0, 8, 21, 6, 167, 0, 5] dwX11_least_95 rfl rfl)
theorem dX11_least_97 : decode cX11_least 97 = .ok (.invokevirtual 319, 3) := dko_182 (dk_t 2 97 [182, 1, 63, 2, 160, 0, 8, 21, 6, 167, 0, 5] dwX11_least_95 rfl rfl)
theorem dX11_least_100 : decode cX11_least 100 = .ok (.iconst (-1), 1) := dko_2 (dk_t 5 100 [2, 160, 0, 8, 21, 6, 167, 0, 5] dwX11_least_95 rfl rfl)
theorem dX11_least_101 : decode cX11_least 101 = .ok (.if_icmp .ne 8, 3) := dko_160 (dk_t 6 101 [160, 0, 8, 21, 6, 167, 0, 5] dwX11_least_95 rfl rfl)
theorem dX11_least_104 : decode cX11_least 104 = .ok (.iload 6, 2) := dko_21 (dk_t 9 104 [21, 6, 167, 0, 5] dwX11_least_95 rfl rfl)
theorem dX11_least_106 : decode cX11_least 106 = .ok (.goto 5, 3) := dko_167 (dk_t 11 106 [167, 0, 5] dwX11_least_95 rfl rfl)
theorem dwX11_least_109 : dkW cX11_least 109 [18, 57, 54, 5, 132, 6, 1, 167, 255, 187, 42, 180, 0, 9] = true := by decide +kernel
theorem dX11_least_109 : decode cX11_least 109 = .ok (.ldc 57, 2) := dko_18 dwX11_least_109
theorem dX11_least_111 : decode cX11_least 111 = .ok (.istore 5, 2) := dko_54 (dk_t 2 111 [54, 5, 132, 6, 1, 167, 255, 187, 42, 180, 0, 9] dwX11_least_109 rfl rfl)
theorem dX11_least_113 : decode cX11_least 113 = .ok (.iinc 6 1, 3) := dko_132 (dk_t 4 113 [132, 6, 1, 167, 255, 187, 42, 180, 0, 9] dwX11_least_109 rfl rfl)
theorem dX11_least_116 : decode cX11_least 116 = .ok (.goto (-69), 3) := dko_167 (dk_t 7 116 [167, 255, 187, 42, 180, 0, 9] dwX11_least_109 rfl rfl)
theorem dX11_least_119 : decode cX11_least 119 = .ok (.aload_n 0, 1) := dko_42 (dk_t 10 119 [42, 180, 0, 9] dwX11_least_109 rfl rfl)
theorem dX11_least_120 : decode cX11_least 120 = .ok (.getfield 9, 3) := dko_180 (dk_t 11 120 [180, 0, 9] dwX11_least_109 rfl rfl)
theorem dwX11_least_123 : dkW cX11_least 123 [21, 4, 42, 180, 0, 21, 21, 4, 46, 79, 21, 5, 172] = true := by decide +kernel
theorem dX11_least_123 : decode cX11_least 123 = .ok (.iload 4, 2) := dko_21 dwX11_least_123
theorem dX11_least_125 : decode cX11_least 125 = .ok (.aload_n 0, 1) := dko_42 (dk_t 2 125 [42, 180, 0, 21, 21, 4, 46, 79, 21, 5, 172] dwX11_least_123 rfl rfl)
theorem dX11_least_126 : decode cX11_least 126 = .ok (.getfield 21, 3) := dko_180 (dk_t 3 126 [180, 0, 21, 21, 4, 46, 79, 21, 5, 172] dwX11_least_123 rfl rfl)
theorem dX11_least_129 : decode cX11_least 129 = .ok (.iload 4, 2) := dko_21 (dk_t 6 129 [21, 4, 46, 79, 21, 5, 172] dwX11_least_123 rfl rfl)
theorem dX11_least_131 : decode cX11_least 131 = .ok (.iaload, 1) := dko_46 (dk_t 8 131 [46, 79, 21, 5, 172] dwX11_least_123 rfl rfl)
theorem dX11_least_132 : decode cX11_least 132 = .ok (.iastore, 1) := dko_79 (dk_t 9 132 [79, 21, 5, 172] dwX11_least_123 rfl rfl)
theorem dX11_least_133 : decode cX11_least 133 = .ok (.iload 5, 2) := dko_21 (dk_t 10 133 [21, 5, 172] dwX11_least_123 rfl rfl)
theorem dX11_least_135 : decode cX11_least 135 = .ok (.ireturn, 1) := dko_172 (dk_t 12 135 [172] dwX11_least_123 rfl rfl)
theorem dwX11_depth_0 : dkW cX11_depth 0 [42, 3, 181, 0, 134, 42, 27, 182, 0, 162, 153, 0, 27, 42] = true := by decide +kernel
theorem dX11_depth_0 : decode cX11_depth 0 = .ok (.aload_n 0, 1) := dko_42 dwX11_depth_0
theorem dX11_depth_1 : decode cX11_depth 1 = .ok (.iconst 0, 1) := dko_3 (dk_t 1 1 [3, 181, 0, 134, 42, 27, 182, 0, 162, 153, 0, 27, 42] dwX11_depth_0 rfl rfl)
theorem dX11_depth_2 : decode cX11_depth 2 = .ok (.putfield 134, 3) := dko_181 (dk_t 2 2 [181, 0, 134, 42, 27, 182, 0, 162, 153, 0, 27, 42] dwX11_depth_0 rfl rfl)
theorem dX11_depth_5 : decode cX11_depth 5 = .ok (.aload_n 0, 1) := dko_42 (dk_t 5 5 [42, 27, 182, 0, 162, 153, 0, 27, 42] dwX11_depth_0 rfl rfl)
theorem dX11_depth_6 : decode cX11_depth 6 = .ok (.iload_n 1, 1) := dko_27 (dk_t 6 6 [27, 182, 0, 162, 153, 0, 27, 42] dwX11_depth_0 rfl rfl)
theorem dX11_depth_7 : decode cX11_depth 7 = .ok (.invokevirtual 162, 3) := dko_182 (dk_t 7 7 [182, 0, 162, 153, 0, 27, 42] dwX11_depth_0 rfl rfl)
theorem dX11_depth_10 : decode cX11_depth 10 = .ok (.ifCond .eq 27, 3) := dko_153 (dk_t 10 10 [153, 0, 27, 42] dwX11_depth_0 rfl rfl)
theorem dX11_depth_13 : decode cX11_depth 13 = .ok (.aload_n 0, 1) := dko_42 (dk_t 13 13 [42] dwX11_depth_0 rfl rfl)
theorem dwX11_depth_14 : dkW cX11_depth 14 [27, 3, 182, 0, 165, 8, 160, 0, 17, 42, 42, 27, 4] = true := by decide +kernel
theorem dX11_depth_14 : decode cX11_depth 14 = .ok (.iload_n 1, 1) := dko_27 dwX11_depth_14
theorem dX11_depth_15 : decode cX11_depth 15 = .ok (.iconst 0, 1) := dko_3 (dk_t 1 15 [3, 182, 0, 165, 8, 160, 0, 17, 42, 42, 27, 4] dwX11_depth_14 rfl rfl)
theorem dX11_depth_16 : decode cX11_depth 16 = .ok (.invokevirtual 165, 3) := dko_182 (dk_t 2 16 [182, 0, 165, 8, 160, 0, 17, 42, 42, 27, 4] dwX11_depth_14 rfl rfl)
theorem dX11_depth_19 : decode cX11_depth 19 = .ok (.iconst 5, 1) := dko_8 (dk_t 5 19 [8, 160, 0, 17, 42, 42, 27, 4] dwX11_depth_14 rfl rfl)
theorem dX11_depth_20 : decode cX11_depth 20 = .ok (.if_icmp .ne 17, 3) := dko_160 (dk_t 6 20 [160, 0, 17, 42, 42, 27, 4] dwX11_depth_14 rfl rfl)
theorem dX11_depth_23 : decode cX11_depth 23 = .ok (.aload_n 0, 1) := dko_42 (dk_t 9 23 [42, 42, 27, 4] dwX11_depth_14 rfl rfl)
theorem dX11_depth_24 : decode cX11_depth 24 = .ok (.aload_n 0, 1) := dko_42 (dk_t 10 24 [42, 27, 4] dwX11_depth_14 rfl rfl)
theorem dX11_depth_25 : decode cX11_depth 25 = .ok (.iload_n 1, 1) := dko_27 (dk_t 11 25 [27, 4] dwX11_depth_14 rfl rfl)
theorem dX11_depth_26 : decode cX11_depth 26 = .ok (.iconst 1, 1) := dko_4 (dk_t 12 26 [4] dwX11_depth_14 rfl rfl)
theorem dwX11_depth_27 : dkW cX11_depth 27 [182, 0, 165, 28, 182, 1, 90, 154, 0, 5, 2, 172, 3, 62] = true := by decide +kernel
theorem dX11_depth_27 : decode cX11_depth 27 = .ok (.invokevirtual 165, 3) := dko_182 dwX11_depth_27
theorem dX11_depth_30 : decode cX11_depth 30 = .ok (.iload_n 2, 1) := dko_28 (dk_t 3 30 [28, 182, 1, 90, 154, 0, 5, 2, 172, 3, 62] dwX11_depth_27 rfl rfl)
theorem dX11_depth_31 : decode cX11_depth 31 = .ok (.invokevirtual 346, 3) := dko_182 (dk_t 4 31 [182, 1, 90, 154, 0, 5, 2, 172, 3, 62] dwX11_depth_27 rfl rfl)
theorem dX11_depth_34 : decode cX11_depth 34 = .ok (.ifCond .ne 5, 3) := dko_154 (dk_t 7 34 [154, 0, 5, 2, 172, 3, 62] dwX11_depth_27 rfl rfl)
theorem dX11_depth_37 : decode cX11_depth 37 = .ok (.iconst (-1), 1) := dko_2 (dk_t 10 37 [2, 172, 3, 62] dwX11_depth_27 rfl rfl)
theorem dX11_depth_38 : decode cX11_depth 38 = .ok (.ireturn, 1) := dko_172 (dk_t 11 38 [172, 3, 62] dwX11_depth_27 rfl rfl)
theorem dX11_depth_39 : decode cX11_depth 39 = .ok (.iconst 0, 1) := dko_3 (dk_t 12 39 [3, 62] dwX11_depth_27 rfl rfl)
theorem dX11_depth_40 : decode cX11_depth 40 = .ok (.istore_n 3, 1) := dko_62 (dk_t 13 40 [62] dwX11_depth_27 rfl rfl)
theorem dwX11_depth_41 : dkW cX11_depth 41 [28, 54, 4, 29, 16, 30, 163, 0, 57, 42, 180, 0, 9, 42] = true := by decide +kernel
theorem dX11_depth_41 : decode cX11_depth 41 = .ok (.iload_n 2, 1) := dko_28 dwX11_depth_41
theorem dX11_depth_42 : decode cX11_depth 42 = .ok (.istore 4, 2) := dko_54 (dk_t 1 42 [54, 4, 29, 16, 30, 163, 0, 57, 42, 180, 0, 9, 42] dwX11_depth_41 rfl rfl)
theorem dX11_depth_44 : decode cX11_depth 44 = .ok (.iload_n 3, 1) := dko_29 (dk_t 3 44 [29, 16, 30, 163, 0, 57, 42, 180, 0, 9, 42] dwX11_depth_41 rfl rfl)
theorem dX11_depth_45 : decode cX11_depth 45 = .ok (.bipush 30, 2) := dko_16 (dk_t 4 45 [16, 30, 163, 0, 57, 42, 180, 0, 9, 42] dwX11_depth_41 rfl rfl)
theorem dX11_depth_47 : decode cX11_depth 47 = .ok (.if_icmp .gt 57, 3) := dko_163 (dk_t 6 47 [163, 0, 57, 42, 180, 0, 9, 42] dwX11_depth_41 rfl rfl)
theorem dX11_depth_50 : decode cX11_depth 50 = .ok (.aload_n 0, 1) := dko_42 (dk_t 9 50 [42, 180, 0, 9, 42] dwX11_depth_41 rfl rfl)
theorem dX11_depth_51 : decode cX11_depth 51 = .ok (.getfield 9, 3) := dko_180 (dk_t 10 51 [180, 0, 9, 42] dwX11_depth_41 rfl rfl)
theorem dX11_depth_54 : decode cX11_depth 54 = .ok (.aload_n 0, 1) := dko_42 (dk_t 13 54 [42] dwX11_depth_41 rfl rfl)
theorem dwX11_depth_55 : dkW cX11_depth 55 [27, 4, 182, 0, 165, 21, 4, 184, 0, 156, 4, 96, 42, 27] = true := by decide +kernel
theorem dX11_depth_55 : decode cX11_depth 55 = .ok (.iload_n 1, 1) := dko_27 dwX11_depth_55
theorem dX11_depth_56 : decode cX11_depth 56 = .ok (.iconst 1, 1) := dko_4 (dk_t 1 56 [4, 182, 0, 165, 21, 4, 184, 0, 156, 4, 96, 42, 27] dwX11_depth_55 rfl rfl)
theorem dX11_depth_57 : decode cX11_depth 57 = .ok (.invokevirtual 165, 3) := dko_182 (dk_t 2 57 [182, 0, 165, 21, 4, 184, 0, 156, 4, 96, 42, 27] dwX11_depth_55 rfl rfl)
theorem dX11_depth_60 : decode cX11_depth 60 = .ok (.iload 4, 2) := dko_21 (dk_t 5 60 [21, 4, 184, 0, 156, 4, 96, 42, 27] dwX11_depth_55 rfl rfl)
theorem dX11_depth_62 : decode cX11_depth 62 = .ok (.invokestatic 156, 3) := dko_184 (dk_t 7 62 [184, 0, 156, 4, 96, 42, 27] dwX11_depth_55 rfl rfl)
theorem dX11_depth_65 : decode cX11_depth 65 = .ok (.iconst 1, 1) := dko_4 (dk_t 10 65 [4, 96, 42, 27] dwX11_depth_55 rfl rfl)
theorem dX11_depth_66 : decode cX11_depth 66 = .ok (.iadd, 1) := dko_96 (dk_t 11 66 [96, 42, 27] dwX11_depth_55 rfl rfl)
theorem dX11_depth_67 : decode cX11_depth 67 = .ok (.aload_n 0, 1) := dko_42 (dk_t 12 67 [42, 27] dwX11_depth_55 rfl rfl)
theorem dX11_depth_68 : decode cX11_depth 68 = .ok (.iload_n 1, 1) := dko_27 (dk_t 13 68 [27] dwX11_depth_55 rfl rfl)
theorem dwX11_depth_69 : dkW cX11_depth 69 [5, 182, 0, 165, 96, 46, 54, 5, 42, 42, 27, 4] = true := by decide +kernel
theorem dX11_depth_69 : decode cX11_depth 69 = .ok (.iconst 2, 1) := dko_5 dwX11_depth_69
theorem dX11_depth_70 : decode cX11_depth 70 = .ok (.invokevirtual 165, 3) := dko_182 (dk_t 1 70 [182, 0, 165, 96, 46, 54, 5, 42, 42, 27, 4] dwX11_depth_69 rfl rfl)
theorem dX11_depth_73 : decode cX11_depth 73 = .ok (.iadd, 1) := dko_96 (dk_t 4 73 [96, 46, 54, 5, 42, 42, 27, 4] dwX11_depth_69 rfl rfl)
theorem dX11_depth_74 : decode cX11_depth 74 = .ok (.iaload, 1) := dko_46 (dk_t 5 74 [46, 54, 5, 42, 42, 27, 4] dwX11_depth_69 rfl rfl)
theorem dX11_depth_75 : decode cX11_depth 75 = .ok (.istore 5, 2) := dko_54 (dk_t 6 75 [54, 5, 42, 42, 27, 4] dwX11_depth_69 rfl rfl)
theorem dX11_depth_77 : decode cX11_depth 77 = .ok (.aload_n 0, 1) := dko_42 (dk_t 8 77 [42, 42, 27, 4] dwX11_depth_69 rfl rfl)
theorem dX11_depth_78 : decode cX11_depth 78 = .ok (.aload_n 0, 1) := dko_42 (dk_t 9 78 [42, 27, 4] dwX11_depth_69 rfl rfl)
theorem dX11_depth_79 : decode cX11_depth 79 = .ok (.iload_n 1, 1) := dko_27 (dk_t 10 79 [27, 4] dwX11_depth_69 rfl rfl)
theorem dX11_depth_80 : decode cX11_depth 80 = .ok (.iconst 1, 1) := dko_4 (dk_t 11 80 [4] dwX11_depth_69 rfl rfl)
theorem dwX11_depth_81 : dkW cX11_depth 81 [182, 0, 165, 21, 5, 182, 1, 90, 154, 0, 5, 29, 172] = true := by decide +kernel
theorem dX11_depth_81 : decode cX11_depth 81 = .ok (.invokevirtual 165, 3) := dko_182 dwX11_depth_81
theorem dX11_depth_84 : decode cX11_depth 84 = .ok (.iload 5, 2) := dko_21 (dk_t 3 84 [21, 5, 182, 1, 90, 154, 0, 5, 29, 172] dwX11_depth_81 rfl rfl)
theorem dX11_depth_86 : decode cX11_depth 86 = .ok (.invokevirtual 346, 3) := dko_182 (dk_t 5 86 [182, 1, 90, 154, 0, 5, 29, 172] dwX11_depth_81 rfl rfl)
theorem dX11_depth_89 : decode cX11_depth 89 = .ok (.ifCond .ne 5, 3) := dko_154 (dk_t 8 89 [154, 0, 5, 29, 172] dwX11_depth_81 rfl rfl)
theorem dX11_depth_92 : decode cX11_depth 92 = .ok (.iload_n 3, 1) := dko_29 (dk_t 11 92 [29, 172] dwX11_depth_81 rfl rfl)
theorem dX11_depth_93 : decode cX11_depth 93 = .ok (.ireturn, 1) := dko_172 (dk_t 12 93 [172] dwX11_depth_81 rfl rfl)
theorem dwX11_depth_94 : dkW cX11_depth 94 [132, 3, 1, 21, 5, 54, 4, 167, 255, 199, 16, 254, 172] = true := by decide +kernel
theorem dX11_depth_94 : decode cX11_depth 94 = .ok (.iinc 3 1, 3) := dko_132 dwX11_depth_94
theorem dX11_depth_97 : decode cX11_depth 97 = .ok (.iload 5, 2) := dko_21 (dk_t 3 97 [21, 5, 54, 4, 167, 255, 199, 16, 254, 172] dwX11_depth_94 rfl rfl)
theorem dX11_depth_99 : decode cX11_depth 99 = .ok (.istore 4, 2) := dko_54 (dk_t 5 99 [54, 4, 167, 255, 199, 16, 254, 172] dwX11_depth_94 rfl rfl)
theorem dX11_depth_101 : decode cX11_depth 101 = .ok (.goto (-57), 3) := dko_167 (dk_t 7 101 [167, 255, 199, 16, 254, 172] dwX11_depth_94 rfl rfl)
theorem dX11_depth_104 : decode cX11_depth 104 = .ok (.bipush (-2), 2) := dko_16 (dk_t 10 104 [16, 254, 172] dwX11_depth_94 rfl rfl)
theorem dX11_depth_106 : decode cX11_depth 106 = .ok (.ireturn, 1) := dko_172 (dk_t 12 106 [172] dwX11_depth_94 rfl rfl)
theorem dwX11_since_0 : dkW cX11_since 0 [42, 3, 181, 0, 134, 42, 180, 0, 206, 153, 0, 15, 27, 133] = true := by decide +kernel
theorem dX11_since_0 : decode cX11_since 0 = .ok (.aload_n 0, 1) := dko_42 dwX11_since_0
theorem dX11_since_1 : decode cX11_since 1 = .ok (.iconst 0, 1) := dko_3 (dk_t 1 1 [3, 181, 0, 134, 42, 180, 0, 206, 153, 0, 15, 27, 133] dwX11_since_0 rfl rfl)
theorem dX11_since_2 : decode cX11_since 2 = .ok (.putfield 134, 3) := dko_181 (dk_t 2 2 [181, 0, 134, 42, 180, 0, 206, 153, 0, 15, 27, 133] dwX11_since_0 rfl rfl)
theorem dX11_since_5 : decode cX11_since 5 = .ok (.aload_n 0, 1) := dko_42 (dk_t 5 5 [42, 180, 0, 206, 153, 0, 15, 27, 133] dwX11_since_0 rfl rfl)
theorem dX11_since_6 : decode cX11_since 6 = .ok (.getfield 206, 3) := dko_180 (dk_t 6 6 [180, 0, 206, 153, 0, 15, 27, 133] dwX11_since_0 rfl rfl)
theorem dX11_since_9 : decode cX11_since 9 = .ok (.ifCond .eq 15, 3) := dko_153 (dk_t 9 9 [153, 0, 15, 27, 133] dwX11_since_0 rfl rfl)
theorem dX11_since_12 : decode cX11_since 12 = .ok (.iload_n 1, 1) := dko_27 (dk_t 12 12 [27, 133] dwX11_since_0 rfl rfl)
theorem dX11_since_13 : decode cX11_since 13 = .ok (.i2l, 1) := dko_133 (dk_t 13 13 [133] dwX11_since_0 rfl rfl)
theorem dwX11_since_14 : dkW cX11_since 14 [9, 20, 1, 140, 184, 0, 139, 154, 0, 7, 2, 167, 0, 22] = true := by decide +kernel
theorem dX11_since_14 : decode cX11_since 14 = .ok (.lconst 0, 1) := dko_9 dwX11_since_14
theorem dX11_since_15 : decode cX11_since 15 = .ok (.ldc2_w 396, 3) := dko_20 (dk_t 1 15 [20, 1, 140, 184, 0, 139, 154, 0, 7, 2, 167, 0, 22] dwX11_since_14 rfl rfl)
theorem dX11_since_18 : decode cX11_since 18 = .ok (.invokestatic 139, 3) := dko_184 (dk_t 4 18 [184, 0, 139, 154, 0, 7, 2, 167, 0, 22] dwX11_since_14 rfl rfl)
theorem dX11_since_21 : decode cX11_since 21 = .ok (.ifCond .ne 7, 3) := dko_154 (dk_t 7 21 [154, 0, 7, 2, 167, 0, 22] dwX11_since_14 rfl rfl)
theorem dX11_since_24 : decode cX11_since 24 = .ok (.iconst (-1), 1) := dko_2 (dk_t 10 24 [2, 167, 0, 22] dwX11_since_14 rfl rfl)
theorem dX11_since_25 : decode cX11_since 25 = .ok (.goto 22, 3) := dko_167 (dk_t 11 25 [167, 0, 22] dwX11_since_14 rfl rfl)
theorem dwX11_since_28 : dkW cX11_since 28 [27, 16, 6, 160, 0, 10, 42, 180, 1, 117, 167, 0, 9, 42] = true := by decide +kernel
theorem dX11_since_28 : decode cX11_since 28 = .ok (.iload_n 1, 1) := dko_27 dwX11_since_28
theorem dX11_since_29 : decode cX11_since 29 = .ok (.bipush 6, 2) := dko_16 (dk_t 1 29 [16, 6, 160, 0, 10, 42, 180, 1, 117, 167, 0, 9, 42] dwX11_since_28 rfl rfl)
theorem dX11_since_31 : decode cX11_since 31 = .ok (.if_icmp .ne 10, 3) := dko_160 (dk_t 3 31 [160, 0, 10, 42, 180, 1, 117, 167, 0, 9, 42] dwX11_since_28 rfl rfl)
theorem dX11_since_34 : decode cX11_since 34 = .ok (.aload_n 0, 1) := dko_42 (dk_t 6 34 [42, 180, 1, 117, 167, 0, 9, 42] dwX11_since_28 rfl rfl)
theorem dX11_since_35 : decode cX11_since 35 = .ok (.getfield 373, 3) := dko_180 (dk_t 7 35 [180, 1, 117, 167, 0, 9, 42] dwX11_since_28 rfl rfl)
theorem dX11_since_38 : decode cX11_since 38 = .ok (.goto 9, 3) := dko_167 (dk_t 10 38 [167, 0, 9, 42] dwX11_since_28 rfl rfl)
theorem dX11_since_41 : decode cX11_since 41 = .ok (.aload_n 0, 1) := dko_42 (dk_t 13 41 [42] dwX11_since_28 rfl rfl)
theorem dwX11_since_42 : dkW cX11_since 42 [180, 0, 27, 27, 46, 172] = true := by decide +kernel
theorem dX11_since_42 : decode cX11_since 42 = .ok (.getfield 27, 3) := dko_180 dwX11_since_42
theorem dX11_since_45 : decode cX11_since 45 = .ok (.iload_n 1, 1) := dko_27 (dk_t 3 45 [27, 46, 172] dwX11_since_42 rfl rfl)
theorem dX11_since_46 : decode cX11_since 46 = .ok (.iaload, 1) := dko_46 (dk_t 4 46 [46, 172] dwX11_since_42 rfl rfl)
theorem dX11_since_47 : decode cX11_since 47 = .ok (.ireturn, 1) := dko_172 (dk_t 5 47 [172] dwX11_since_42 rfl rfl)
theorem dwX11_lateMany_0 : dkW cX11_lateMany 0 [3, 60, 3, 61, 28, 16, 12, 162, 0, 31, 27, 42, 28] = true := by decide +kernel
theorem dX11_lateMany_0 : decode cX11_lateMany 0 = .ok (.iconst 0, 1) := dko_3 dwX11_lateMany_0
theorem dX11_lateMany_1 : decode cX11_lateMany 1 = .ok (.istore_n 1, 1) := dko_60 (dk_t 1 1 [60, 3, 61, 28, 16, 12, 162, 0, 31, 27, 42, 28] dwX11_lateMany_0 rfl rfl)
theorem dX11_lateMany_2 : decode cX11_lateMany 2 = .ok (.iconst 0, 1) := dko_3 (dk_t 2 2 [3, 61, 28, 16, 12, 162, 0, 31, 27, 42, 28] dwX11_lateMany_0 rfl rfl)
theorem dX11_lateMany_3 : decode cX11_lateMany 3 = .ok (.istore_n 2, 1) := dko_61 (dk_t 3 3 [61, 28, 16, 12, 162, 0, 31, 27, 42, 28] dwX11_lateMany_0 rfl rfl)
theorem dX11_lateMany_4 : decode cX11_lateMany 4 = .ok (.iload_n 2, 1) := dko_28 (dk_t 4 4 [28, 16, 12, 162, 0, 31, 27, 42, 28] dwX11_lateMany_0 rfl rfl)
theorem dX11_lateMany_5 : decode cX11_lateMany 5 = .ok (.bipush 12, 2) := dko_16 (dk_t 5 5 [16, 12, 162, 0, 31, 27, 42, 28] dwX11_lateMany_0 rfl rfl)
theorem dX11_lateMany_7 : decode cX11_lateMany 7 = .ok (.if_icmp .ge 31, 3) := dko_162 (dk_t 7 7 [162, 0, 31, 27, 42, 28] dwX11_lateMany_0 rfl rfl)
theorem dX11_lateMany_10 : decode cX11_lateMany 10 = .ok (.iload_n 1, 1) := dko_27 (dk_t 10 10 [27, 42, 28] dwX11_lateMany_0 rfl rfl)
theorem dX11_lateMany_11 : decode cX11_lateMany 11 = .ok (.aload_n 0, 1) := dko_42 (dk_t 11 11 [42, 28] dwX11_lateMany_0 rfl rfl)
theorem dX11_lateMany_12 : decode cX11_lateMany 12 = .ok (.iload_n 2, 1) := dko_28 (dk_t 12 12 [28] dwX11_lateMany_0 rfl rfl)
theorem dwX11_lateMany_13 : dkW cX11_lateMany 13 [182, 0, 162, 153, 0, 13, 42, 28, 16, 6, 182, 0, 165] = true := by decide +kernel
theorem dX11_lateMany_13 : decode cX11_lateMany 13 = .ok (.invokevirtual 162, 3) := dko_182 dwX11_lateMany_13
theorem dX11_lateMany_16 : decode cX11_lateMany 16 = .ok (.ifCond .eq 13, 3) := dko_153 (dk_t 3 16 [153, 0, 13, 42, 28, 16, 6, 182, 0, 165] dwX11_lateMany_13 rfl rfl)
theorem dX11_lateMany_19 : decode cX11_lateMany 19 = .ok (.aload_n 0, 1) := dko_42 (dk_t 6 19 [42, 28, 16, 6, 182, 0, 165] dwX11_lateMany_13 rfl rfl)
theorem dX11_lateMany_20 : decode cX11_lateMany 20 = .ok (.iload_n 2, 1) := dko_28 (dk_t 7 20 [28, 16, 6, 182, 0, 165] dwX11_lateMany_13 rfl rfl)
theorem dX11_lateMany_21 : decode cX11_lateMany 21 = .ok (.bipush 6, 2) := dko_16 (dk_t 8 21 [16, 6, 182, 0, 165] dwX11_lateMany_13 rfl rfl)
theorem dX11_lateMany_23 : decode cX11_lateMany 23 = .ok (.invokevirtual 165, 3) := dko_182 (dk_t 10 23 [182, 0, 165] dwX11_lateMany_13 rfl rfl)
theorem dwX11_lateMany_26 : dkW cX11_lateMany 26 [167, 0, 4, 3, 96, 60, 132, 2, 1, 167, 255, 225, 27, 172] = true := by decide +kernel
theorem dX11_lateMany_26 : decode cX11_lateMany 26 = .ok (.goto 4, 3) := dko_167 dwX11_lateMany_26
theorem dX11_lateMany_29 : decode cX11_lateMany 29 = .ok (.iconst 0, 1) := dko_3 (dk_t 3 29 [3, 96, 60, 132, 2, 1, 167, 255, 225, 27, 172] dwX11_lateMany_26 rfl rfl)
theorem dX11_lateMany_30 : decode cX11_lateMany 30 = .ok (.iadd, 1) := dko_96 (dk_t 4 30 [96, 60, 132, 2, 1, 167, 255, 225, 27, 172] dwX11_lateMany_26 rfl rfl)
theorem dX11_lateMany_31 : decode cX11_lateMany 31 = .ok (.istore_n 1, 1) := dko_60 (dk_t 5 31 [60, 132, 2, 1, 167, 255, 225, 27, 172] dwX11_lateMany_26 rfl rfl)
theorem dX11_lateMany_32 : decode cX11_lateMany 32 = .ok (.iinc 2 1, 3) := dko_132 (dk_t 6 32 [132, 2, 1, 167, 255, 225, 27, 172] dwX11_lateMany_26 rfl rfl)
theorem dX11_lateMany_35 : decode cX11_lateMany 35 = .ok (.goto (-31), 3) := dko_167 (dk_t 9 35 [167, 255, 225, 27, 172] dwX11_lateMany_26 rfl rfl)
theorem dX11_lateMany_38 : decode cX11_lateMany 38 = .ok (.iload_n 1, 1) := dko_27 (dk_t 12 38 [27, 172] dwX11_lateMany_26 rfl rfl)
theorem dX11_lateMany_39 : decode cX11_lateMany 39 = .ok (.ireturn, 1) := dko_172 (dk_t 13 39 [172] dwX11_lateMany_26 rfl rfl)
theorem dwX11_count_0 : dkW cX11_count 0 [42, 3, 181, 0, 134, 27] = true := by decide +kernel
theorem dX11_count_0 : decode cX11_count 0 = .ok (.aload_n 0, 1) := dko_42 dwX11_count_0
theorem dX11_count_1 : decode cX11_count 1 = .ok (.iconst 0, 1) := dko_3 (dk_t 1 1 [3, 181, 0, 134, 27] dwX11_count_0 rfl rfl)
theorem dX11_count_2 : decode cX11_count 2 = .ok (.putfield 134, 3) := dko_181 (dk_t 2 2 [181, 0, 134, 27] dwX11_count_0 rfl rfl)
theorem dX11_count_5 : decode cX11_count 5 = .ok (.iload_n 1, 1) := dko_27 (dk_t 5 5 [27] dwX11_count_0 rfl rfl)
theorem dX11_count_6 : decode cX11_count 6 = .ok (.tableswitch 92 0 9 #[54, 59, 64, 69, 92, 92, 92, 92, 82, 87], 54) := by decide +kernel
theorem dwX11_count_60 : dkW cX11_count 60 [42, 182, 1, 47, 172, 42, 182, 1, 120, 172, 42, 182, 1, 123] = true := by decide +kernel
theorem dX11_count_60 : decode cX11_count 60 = .ok (.aload_n 0, 1) := dko_42 dwX11_count_60
theorem dX11_count_61 : decode cX11_count 61 = .ok (.invokevirtual 303, 3) := dko_182 (dk_t 1 61 [182, 1, 47, 172, 42, 182, 1, 120, 172, 42, 182, 1, 123] dwX11_count_60 rfl rfl)
theorem dX11_count_64 : decode cX11_count 64 = .ok (.ireturn, 1) := dko_172 (dk_t 4 64 [172, 42, 182, 1, 120, 172, 42, 182, 1, 123] dwX11_count_60 rfl rfl)
theorem dX11_count_65 : decode cX11_count 65 = .ok (.aload_n 0, 1) := dko_42 (dk_t 5 65 [42, 182, 1, 120, 172, 42, 182, 1, 123] dwX11_count_60 rfl rfl)
theorem dX11_count_66 : decode cX11_count 66 = .ok (.invokevirtual 376, 3) := dko_182 (dk_t 6 66 [182, 1, 120, 172, 42, 182, 1, 123] dwX11_count_60 rfl rfl)
theorem dX11_count_69 : decode cX11_count 69 = .ok (.ireturn, 1) := dko_172 (dk_t 9 69 [172, 42, 182, 1, 123] dwX11_count_60 rfl rfl)
theorem dX11_count_70 : decode cX11_count 70 = .ok (.aload_n 0, 1) := dko_42 (dk_t 10 70 [42, 182, 1, 123] dwX11_count_60 rfl rfl)
theorem dX11_count_71 : decode cX11_count 71 = .ok (.invokevirtual 379, 3) := dko_182 (dk_t 11 71 [182, 1, 123] dwX11_count_60 rfl rfl)
theorem dwX11_count_74 : dkW cX11_count 74 [172, 42, 180, 0, 206, 153, 0, 7, 4, 167, 0, 4, 3, 172] = true := by decide +kernel
theorem dX11_count_74 : decode cX11_count 74 = .ok (.ireturn, 1) := dko_172 dwX11_count_74
theorem dX11_count_75 : decode cX11_count 75 = .ok (.aload_n 0, 1) := dko_42 (dk_t 1 75 [42, 180, 0, 206, 153, 0, 7, 4, 167, 0, 4, 3, 172] dwX11_count_74 rfl rfl)
theorem dX11_count_76 : decode cX11_count 76 = .ok (.getfield 206, 3) := dko_180 (dk_t 2 76 [180, 0, 206, 153, 0, 7, 4, 167, 0, 4, 3, 172] dwX11_count_74 rfl rfl)
theorem dX11_count_79 : decode cX11_count 79 = .ok (.ifCond .eq 7, 3) := dko_153 (dk_t 5 79 [153, 0, 7, 4, 167, 0, 4, 3, 172] dwX11_count_74 rfl rfl)
theorem dX11_count_82 : decode cX11_count 82 = .ok (.iconst 1, 1) := dko_4 (dk_t 8 82 [4, 167, 0, 4, 3, 172] dwX11_count_74 rfl rfl)
theorem dX11_count_83 : decode cX11_count 83 = .ok (.goto 4, 3) := dko_167 (dk_t 9 83 [167, 0, 4, 3, 172] dwX11_count_74 rfl rfl)
theorem dX11_count_86 : decode cX11_count 86 = .ok (.iconst 0, 1) := dko_3 (dk_t 12 86 [3, 172] dwX11_count_74 rfl rfl)
theorem dX11_count_87 : decode cX11_count 87 = .ok (.ireturn, 1) := dko_172 (dk_t 13 87 [172] dwX11_count_74 rfl rfl)
theorem dwX11_count_88 : dkW cX11_count 88 [42, 180, 0, 245, 172, 42, 182, 1, 142, 172, 27, 133] = true := by decide +kernel
theorem dX11_count_88 : decode cX11_count 88 = .ok (.aload_n 0, 1) := dko_42 dwX11_count_88
theorem dX11_count_89 : decode cX11_count 89 = .ok (.getfield 245, 3) := dko_180 (dk_t 1 89 [180, 0, 245, 172, 42, 182, 1, 142, 172, 27, 133] dwX11_count_88 rfl rfl)
theorem dX11_count_92 : decode cX11_count 92 = .ok (.ireturn, 1) := dko_172 (dk_t 4 92 [172, 42, 182, 1, 142, 172, 27, 133] dwX11_count_88 rfl rfl)
theorem dX11_count_93 : decode cX11_count 93 = .ok (.aload_n 0, 1) := dko_42 (dk_t 5 93 [42, 182, 1, 142, 172, 27, 133] dwX11_count_88 rfl rfl)
theorem dX11_count_94 : decode cX11_count 94 = .ok (.invokevirtual 398, 3) := dko_182 (dk_t 6 94 [182, 1, 142, 172, 27, 133] dwX11_count_88 rfl rfl)
theorem dX11_count_97 : decode cX11_count 97 = .ok (.ireturn, 1) := dko_172 (dk_t 9 97 [172, 27, 133] dwX11_count_88 rfl rfl)
theorem dX11_count_98 : decode cX11_count 98 = .ok (.iload_n 1, 1) := dko_27 (dk_t 10 98 [27, 133] dwX11_count_88 rfl rfl)
theorem dX11_count_99 : decode cX11_count 99 = .ok (.i2l, 1) := dko_133 (dk_t 11 99 [133] dwX11_count_88 rfl rfl)
theorem dwX11_count_100 : dkW cX11_count 100 [20, 1, 145, 20, 1, 147, 184, 0, 139, 153, 0, 14, 42] = true := by decide +kernel
theorem dX11_count_100 : decode cX11_count 100 = .ok (.ldc2_w 401, 3) := dko_20 dwX11_count_100
theorem dX11_count_103 : decode cX11_count 103 = .ok (.ldc2_w 403, 3) := dko_20 (dk_t 3 103 [20, 1, 147, 184, 0, 139, 153, 0, 14, 42] dwX11_count_100 rfl rfl)
theorem dX11_count_106 : decode cX11_count 106 = .ok (.invokestatic 139, 3) := dko_184 (dk_t 6 106 [184, 0, 139, 153, 0, 14, 42] dwX11_count_100 rfl rfl)
theorem dX11_count_109 : decode cX11_count 109 = .ok (.ifCond .eq 14, 3) := dko_153 (dk_t 9 109 [153, 0, 14, 42] dwX11_count_100 rfl rfl)
theorem dX11_count_112 : decode cX11_count 112 = .ok (.aload_n 0, 1) := dko_42 (dk_t 12 112 [42] dwX11_count_100 rfl rfl)
theorem dwX11_count_113 : dkW cX11_count 113 [180, 0, 30, 27, 7, 100, 46, 167, 0, 4, 2, 172] = true := by decide +kernel
theorem dX11_count_113 : decode cX11_count 113 = .ok (.getfield 30, 3) := dko_180 dwX11_count_113
theorem dX11_count_116 : decode cX11_count 116 = .ok (.iload_n 1, 1) := dko_27 (dk_t 3 116 [27, 7, 100, 46, 167, 0, 4, 2, 172] dwX11_count_113 rfl rfl)
theorem dX11_count_117 : decode cX11_count 117 = .ok (.iconst 4, 1) := dko_7 (dk_t 4 117 [7, 100, 46, 167, 0, 4, 2, 172] dwX11_count_113 rfl rfl)
theorem dX11_count_118 : decode cX11_count 118 = .ok (.isub, 1) := dko_100 (dk_t 5 118 [100, 46, 167, 0, 4, 2, 172] dwX11_count_113 rfl rfl)
theorem dX11_count_119 : decode cX11_count 119 = .ok (.iaload, 1) := dko_46 (dk_t 6 119 [46, 167, 0, 4, 2, 172] dwX11_count_113 rfl rfl)
theorem dX11_count_120 : decode cX11_count 120 = .ok (.goto 4, 3) := dko_167 (dk_t 7 120 [167, 0, 4, 2, 172] dwX11_count_113 rfl rfl)
theorem dX11_count_123 : decode cX11_count 123 = .ok (.iconst (-1), 1) := dko_2 (dk_t 10 123 [2, 172] dwX11_count_113 rfl rfl)
theorem dX11_count_124 : decode cX11_count 124 = .ok (.ireturn, 1) := dko_172 (dk_t 11 124 [172] dwX11_count_113 rfl rfl)
