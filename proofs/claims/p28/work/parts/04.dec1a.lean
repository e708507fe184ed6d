theorem dX1_init_0 : decode cX1_init 0 = .ok (.aload_n 0, 1) := by decide +kernel
theorem dX1_init_1 : decode cX1_init 1 = .ok (.invokespecial 3, 3) := by decide +kernel
theorem dX1_init_4 : decode cX1_init 4 = .ok (.aload_n 0, 1) := by decide +kernel
theorem dX1_init_5 : decode cX1_init 5 = .ok (.iconst 0, 1) := by decide +kernel
theorem dX1_init_6 : decode cX1_init 6 = .ok (.putfield 9, 3) := by decide +kernel
theorem dX1_init_9 : decode cX1_init 9 = .ok (.aload_n 0, 1) := by decide +kernel
theorem dX1_init_10 : decode cX1_init 10 = .ok (.bipush 10, 2) := by decide +kernel
theorem dX1_init_12 : decode cX1_init 12 = .ok (.newarray .int, 2) := by decide +kernel
theorem dX1_init_14 : decode cX1_init 14 = .ok (.putfield 15, 3) := by decide +kernel
theorem dX1_init_17 : decode cX1_init 17 = .ok (.aload_n 0, 1) := by decide +kernel
theorem dX1_init_18 : decode cX1_init 18 = .ok (.bipush 10, 2) := by decide +kernel
theorem dX1_init_20 : decode cX1_init 20 = .ok (.newarray .int, 2) := by decide +kernel
theorem dX1_init_22 : decode cX1_init 22 = .ok (.putfield 19, 3) := by decide +kernel
theorem dX1_init_25 : decode cX1_init 25 = .ok (.aload_n 0, 1) := by decide +kernel
theorem dX1_init_26 : decode cX1_init 26 = .ok (.bipush 10, 2) := by decide +kernel
theorem dX1_init_28 : decode cX1_init 28 = .ok (.newarray .int, 2) := by decide +kernel
theorem dX1_init_30 : decode cX1_init 30 = .ok (.putfield 22, 3) := by decide +kernel
theorem dX1_init_33 : decode cX1_init 33 = .ok (.aload_n 0, 1) := by decide +kernel
theorem dX1_init_34 : decode cX1_init 34 = .ok (.bipush 40, 2) := by decide +kernel
theorem dX1_init_36 : decode cX1_init 36 = .ok (.newarray .int, 2) := by decide +kernel
theorem dX1_init_38 : decode cX1_init 38 = .ok (.putfield 25, 3) := by decide +kernel
theorem dX1_init_41 : decode cX1_init 41 = .ok (.aload_n 0, 1) := by decide +kernel
theorem dX1_init_42 : decode cX1_init 42 = .ok (.bipush 40, 2) := by decide +kernel
theorem dX1_init_44 : decode cX1_init 44 = .ok (.newarray .int, 2) := by decide +kernel
theorem dX1_init_46 : decode cX1_init 46 = .ok (.putfield 28, 3) := by decide +kernel
theorem dX1_init_49 : decode cX1_init 49 = .ok (.aload_n 0, 1) := by decide +kernel
theorem dX1_init_50 : decode cX1_init 50 = .ok (.bipush 40, 2) := by decide +kernel
theorem dX1_init_52 : decode cX1_init 52 = .ok (.newarray .int, 2) := by decide +kernel
theorem dX1_init_54 : decode cX1_init 54 = .ok (.putfield 31, 3) := by decide +kernel
theorem dX1_init_57 : decode cX1_init 57 = .ok (.aload_n 0, 1) := by decide +kernel
theorem dX1_init_58 : decode cX1_init 58 = .ok (.bipush 40, 2) := by decide +kernel
theorem dX1_init_60 : decode cX1_init 60 = .ok (.newarray .int, 2) := by decide +kernel
theorem dX1_init_62 : decode cX1_init 62 = .ok (.putfield 34, 3) := by decide +kernel
theorem dX1_init_65 : decode cX1_init 65 = .ok (.aload_n 0, 1) := by decide +kernel
theorem dX1_init_66 : decode cX1_init 66 = .ok (.bipush 120, 2) := by decide +kernel
theorem dX1_init_68 : decode cX1_init 68 = .ok (.newarray .int, 2) := by decide +kernel
theorem dX1_init_70 : decode cX1_init 70 = .ok (.putfield 37, 3) := by decide +kernel
theorem dX1_init_73 : decode cX1_init 73 = .ok (.aload_n 0, 1) := by decide +kernel
theorem dX1_init_74 : decode cX1_init 74 = .ok (.bipush 120, 2) := by decide +kernel
theorem dX1_init_76 : decode cX1_init 76 = .ok (.newarray .int, 2) := by decide +kernel
theorem dX1_init_78 : decode cX1_init 78 = .ok (.putfield 40, 3) := by decide +kernel
theorem dX1_init_81 : decode cX1_init 81 = .ok (.aload_n 0, 1) := by decide +kernel
theorem dX1_init_82 : decode cX1_init 82 = .ok (.bipush 120, 2) := by decide +kernel
theorem dX1_init_84 : decode cX1_init 84 = .ok (.newarray .int, 2) := by decide +kernel
theorem dX1_init_86 : decode cX1_init 86 = .ok (.putfield 43, 3) := by decide +kernel
theorem dX1_init_89 : decode cX1_init 89 = .ok (.aload_n 0, 1) := by decide +kernel
theorem dX1_init_90 : decode cX1_init 90 = .ok (.ldc2_w 46, 3) := by decide +kernel
theorem dX1_init_93 : decode cX1_init 93 = .ok (.putfield 48, 3) := by decide +kernel
theorem dX1_init_96 : decode cX1_init 96 = .ok (.iconst 0, 1) := by decide +kernel
theorem dX1_init_97 : decode cX1_init 97 = .ok (.istore_n 1, 1) := by decide +kernel
theorem dX1_init_98 : decode cX1_init 98 = .ok (.iload_n 1, 1) := by decide +kernel
theorem dX1_init_99 : decode cX1_init 99 = .ok (.bipush 10, 2) := by decide +kernel
theorem dX1_init_101 : decode cX1_init 101 = .ok (.if_icmp .ge 16, 3) := by decide +kernel
theorem dX1_init_104 : decode cX1_init 104 = .ok (.aload_n 0, 1) := by decide +kernel
theorem dX1_init_105 : decode cX1_init 105 = .ok (.getfield 15, 3) := by decide +kernel
theorem dX1_init_108 : decode cX1_init 108 = .ok (.iload_n 1, 1) := by decide +kernel
theorem dX1_init_109 : decode cX1_init 109 = .ok (.iconst 1, 1) := by decide +kernel
theorem dX1_init_110 : decode cX1_init 110 = .ok (.iastore, 1) := by decide +kernel
theorem dX1_init_111 : decode cX1_init 111 = .ok (.iinc 1 1, 3) := by decide +kernel
theorem dX1_init_114 : decode cX1_init 114 = .ok (.goto (-16), 3) := by decide +kernel
theorem dX1_init_117 : decode cX1_init 117 = .ok (.iconst 0, 1) := by decide +kernel
theorem dX1_init_118 : decode cX1_init 118 = .ok (.istore_n 1, 1) := by decide +kernel
theorem dX1_init_119 : decode cX1_init 119 = .ok (.iload_n 1, 1) := by decide +kernel
theorem dX1_init_120 : decode cX1_init 120 = .ok (.bipush 40, 2) := by decide +kernel
theorem dX1_init_122 : decode cX1_init 122 = .ok (.if_icmp .ge 37, 3) := by decide +kernel
theorem dX1_init_125 : decode cX1_init 125 = .ok (.aload_n 0, 1) := by decide +kernel
theorem dX1_init_126 : decode cX1_init 126 = .ok (.getfield 25, 3) := by decide +kernel
theorem dX1_init_129 : decode cX1_init 129 = .ok (.iload_n 1, 1) := by decide +kernel
theorem dX1_init_130 : decode cX1_init 130 = .ok (.iconst 0, 1) := by decide +kernel
theorem dX1_init_131 : decode cX1_init 131 = .ok (.iastore, 1) := by decide +kernel
theorem dX1_init_132 : decode cX1_init 132 = .ok (.aload_n 0, 1) := by decide +kernel
theorem dX1_init_133 : decode cX1_init 133 = .ok (.getfield 28, 3) := by decide +kernel
theorem dX1_init_136 : decode cX1_init 136 = .ok (.iload_n 1, 1) := by decide +kernel
theorem dX1_init_137 : decode cX1_init 137 = .ok (.iconst (-1), 1) := by decide +kernel
theorem dX1_init_138 : decode cX1_init 138 = .ok (.iastore, 1) := by decide +kernel
theorem dX1_init_139 : decode cX1_init 139 = .ok (.aload_n 0, 1) := by decide +kernel
theorem dX1_init_140 : decode cX1_init 140 = .ok (.getfield 31, 3) := by decide +kernel
theorem dX1_init_143 : decode cX1_init 143 = .ok (.iload_n 1, 1) := by decide +kernel
theorem dX1_init_144 : decode cX1_init 144 = .ok (.iconst (-1), 1) := by decide +kernel
theorem dX1_init_145 : decode cX1_init 145 = .ok (.iastore, 1) := by decide +kernel
theorem dX1_init_146 : decode cX1_init 146 = .ok (.aload_n 0, 1) := by decide +kernel
theorem dX1_init_147 : decode cX1_init 147 = .ok (.getfield 34, 3) := by decide +kernel
theorem dX1_init_150 : decode cX1_init 150 = .ok (.iload_n 1, 1) := by decide +kernel
theorem dX1_init_151 : decode cX1_init 151 = .ok (.iconst (-1), 1) := by decide +kernel
theorem dX1_init_152 : decode cX1_init 152 = .ok (.iastore, 1) := by decide +kernel
theorem dX1_init_153 : decode cX1_init 153 = .ok (.iinc 1 1, 3) := by decide +kernel
theorem dX1_init_156 : decode cX1_init 156 = .ok (.goto (-37), 3) := by decide +kernel
theorem dX1_init_159 : decode cX1_init 159 = .ok (.iconst 0, 1) := by decide +kernel
theorem dX1_init_160 : decode cX1_init 160 = .ok (.istore_n 1, 1) := by decide +kernel
theorem dX1_init_161 : decode cX1_init 161 = .ok (.iload_n 1, 1) := by decide +kernel
theorem dX1_init_162 : decode cX1_init 162 = .ok (.bipush 120, 2) := by decide +kernel
theorem dX1_init_164 : decode cX1_init 164 = .ok (.if_icmp .ge 30, 3) := by decide +kernel
theorem dX1_init_167 : decode cX1_init 167 = .ok (.aload_n 0, 1) := by decide +kernel
theorem dX1_init_168 : decode cX1_init 168 = .ok (.getfield 37, 3) := by decide +kernel
theorem dX1_init_171 : decode cX1_init 171 = .ok (.iload_n 1, 1) := by decide +kernel
theorem dX1_init_172 : decode cX1_init 172 = .ok (.iconst (-1), 1) := by decide +kernel
theorem dX1_init_173 : decode cX1_init 173 = .ok (.iastore, 1) := by decide +kernel
theorem dX1_init_174 : decode cX1_init 174 = .ok (.aload_n 0, 1) := by decide +kernel
theorem dX1_init_175 : decode cX1_init 175 = .ok (.getfield 40, 3) := by decide +kernel
theorem dX1_init_178 : decode cX1_init 178 = .ok (.iload_n 1, 1) := by decide +kernel
theorem dX1_init_179 : decode cX1_init 179 = .ok (.iconst (-1), 1) := by decide +kernel
theorem dX1_init_180 : decode cX1_init 180 = .ok (.iastore, 1) := by decide +kernel
theorem dX1_init_181 : decode cX1_init 181 = .ok (.aload_n 0, 1) := by decide +kernel
theorem dX1_init_182 : decode cX1_init 182 = .ok (.getfield 43, 3) := by decide +kernel
theorem dX1_init_185 : decode cX1_init 185 = .ok (.iload_n 1, 1) := by decide +kernel
theorem dX1_init_186 : decode cX1_init 186 = .ok (.iconst (-1), 1) := by decide +kernel
theorem dX1_init_187 : decode cX1_init 187 = .ok (.iastore, 1) := by decide +kernel
theorem dX1_init_188 : decode cX1_init 188 = .ok (.iinc 1 1, 3) := by decide +kernel
theorem dX1_init_191 : decode cX1_init 191 = .ok (.goto (-30), 3) := by decide +kernel
theorem dX1_init_194 : decode cX1_init 194 = .ok (.aload_n 0, 1) := by decide +kernel
theorem dX1_init_195 : decode cX1_init 195 = .ok (.getfield 25, 3) := by decide +kernel
theorem dX1_init_198 : decode cX1_init 198 = .ok (.iconst 0, 1) := by decide +kernel
theorem dX1_init_199 : decode cX1_init 199 = .ok (.iconst 3, 1) := by decide +kernel
theorem dX1_init_200 : decode cX1_init 200 = .ok (.iastore, 1) := by decide +kernel
theorem dX1_init_201 : decode cX1_init 201 = .ok (.return_, 1) := by decide +kernel
theorem dX1_copyFrom_0 : decode cX1_copyFrom 0 = .ok (.aload_n 0, 1) := by decide +kernel
theorem dX1_copyFrom_1 : decode cX1_copyFrom 1 = .ok (.aload_n 1, 1) := by decide +kernel
theorem dX1_copyFrom_2 : decode cX1_copyFrom 2 = .ok (.getfield 9, 3) := by decide +kernel
theorem dX1_copyFrom_5 : decode cX1_copyFrom 5 = .ok (.putfield 9, 3) := by decide +kernel
theorem dX1_copyFrom_8 : decode cX1_copyFrom 8 = .ok (.aload_n 1, 1) := by decide +kernel
theorem dX1_copyFrom_9 : decode cX1_copyFrom 9 = .ok (.getfield 15, 3) := by decide +kernel
theorem dX1_copyFrom_12 : decode cX1_copyFrom 12 = .ok (.iconst 0, 1) := by decide +kernel
theorem dX1_copyFrom_13 : decode cX1_copyFrom 13 = .ok (.aload_n 0, 1) := by decide +kernel
theorem dX1_copyFrom_14 : decode cX1_copyFrom 14 = .ok (.getfield 15, 3) := by decide +kernel
theorem dX1_copyFrom_17 : decode cX1_copyFrom 17 = .ok (.iconst 0, 1) := by decide +kernel
theorem dX1_copyFrom_18 : decode cX1_copyFrom 18 = .ok (.bipush 10, 2) := by decide +kernel
theorem dX1_copyFrom_20 : decode cX1_copyFrom 20 = .ok (.invokestatic 52, 3) := by decide +kernel
theorem dX1_copyFrom_23 : decode cX1_copyFrom 23 = .ok (.aload_n 1, 1) := by decide +kernel
theorem dX1_copyFrom_24 : decode cX1_copyFrom 24 = .ok (.getfield 19, 3) := by decide +kernel
theorem dX1_copyFrom_27 : decode cX1_copyFrom 27 = .ok (.iconst 0, 1) := by decide +kernel
theorem dX1_copyFrom_28 : decode cX1_copyFrom 28 = .ok (.aload_n 0, 1) := by decide +kernel
theorem dX1_copyFrom_29 : decode cX1_copyFrom 29 = .ok (.getfield 19, 3) := by decide +kernel
theorem dX1_copyFrom_32 : decode cX1_copyFrom 32 = .ok (.iconst 0, 1) := by decide +kernel
theorem dX1_copyFrom_33 : decode cX1_copyFrom 33 = .ok (.bipush 10, 2) := by decide +kernel
theorem dX1_copyFrom_35 : decode cX1_copyFrom 35 = .ok (.invokestatic 52, 3) := by decide +kernel
theorem dX1_copyFrom_38 : decode cX1_copyFrom 38 = .ok (.aload_n 1, 1) := by decide +kernel
theorem dX1_copyFrom_39 : decode cX1_copyFrom 39 = .ok (.getfield 22, 3) := by decide +kernel
theorem dX1_copyFrom_42 : decode cX1_copyFrom 42 = .ok (.iconst 0, 1) := by decide +kernel
theorem dX1_copyFrom_43 : decode cX1_copyFrom 43 = .ok (.aload_n 0, 1) := by decide +kernel
theorem dX1_copyFrom_44 : decode cX1_copyFrom 44 = .ok (.getfield 22, 3) := by decide +kernel
theorem dX1_copyFrom_47 : decode cX1_copyFrom 47 = .ok (.iconst 0, 1) := by decide +kernel
theorem dX1_copyFrom_48 : decode cX1_copyFrom 48 = .ok (.bipush 10, 2) := by decide +kernel
theorem dX1_copyFrom_50 : decode cX1_copyFrom 50 = .ok (.invokestatic 52, 3) := by decide +kernel
theorem dX1_copyFrom_53 : decode cX1_copyFrom 53 = .ok (.aload_n 1, 1) := by decide +kernel
theorem dX1_copyFrom_54 : decode cX1_copyFrom 54 = .ok (.getfield 25, 3) := by decide +kernel
theorem dX1_copyFrom_57 : decode cX1_copyFrom 57 = .ok (.iconst 0, 1) := by decide +kernel
theorem dX1_copyFrom_58 : decode cX1_copyFrom 58 = .ok (.aload_n 0, 1) := by decide +kernel
theorem dX1_copyFrom_59 : decode cX1_copyFrom 59 = .ok (.getfield 25, 3) := by decide +kernel
theorem dX1_copyFrom_62 : decode cX1_copyFrom 62 = .ok (.iconst 0, 1) := by decide +kernel
theorem dX1_copyFrom_63 : decode cX1_copyFrom 63 = .ok (.bipush 40, 2) := by decide +kernel
theorem dX1_copyFrom_65 : decode cX1_copyFrom 65 = .ok (.invokestatic 52, 3) := by decide +kernel
theorem dX1_copyFrom_68 : decode cX1_copyFrom 68 = .ok (.aload_n 1, 1) := by decide +kernel
theorem dX1_copyFrom_69 : decode cX1_copyFrom 69 = .ok (.getfield 28, 3) := by decide +kernel
theorem dX1_copyFrom_72 : decode cX1_copyFrom 72 = .ok (.iconst 0, 1) := by decide +kernel
theorem dX1_copyFrom_73 : decode cX1_copyFrom 73 = .ok (.aload_n 0, 1) := by decide +kernel
theorem dX1_copyFrom_74 : decode cX1_copyFrom 74 = .ok (.getfield 28, 3) := by decide +kernel
theorem dX1_copyFrom_77 : decode cX1_copyFrom 77 = .ok (.iconst 0, 1) := by decide +kernel
theorem dX1_copyFrom_78 : decode cX1_copyFrom 78 = .ok (.bipush 40, 2) := by decide +kernel
theorem dX1_copyFrom_80 : decode cX1_copyFrom 80 = .ok (.invokestatic 52, 3) := by decide +kernel
theorem dX1_copyFrom_83 : decode cX1_copyFrom 83 = .ok (.aload_n 1, 1) := by decide +kernel
theorem dX1_copyFrom_84 : decode cX1_copyFrom 84 = .ok (.getfield 31, 3) := by decide +kernel
theorem dX1_copyFrom_87 : decode cX1_copyFrom 87 = .ok (.iconst 0, 1) := by decide +kernel
theorem dX1_copyFrom_88 : decode cX1_copyFrom 88 = .ok (.aload_n 0, 1) := by decide +kernel
theorem dX1_copyFrom_89 : decode cX1_copyFrom 89 = .ok (.getfield 31, 3) := by decide +kernel
theorem dX1_copyFrom_92 : decode cX1_copyFrom 92 = .ok (.iconst 0, 1) := by decide +kernel
theorem dX1_copyFrom_93 : decode cX1_copyFrom 93 = .ok (.bipush 40, 2) := by decide +kernel
theorem dX1_copyFrom_95 : decode cX1_copyFrom 95 = .ok (.invokestatic 52, 3) := by decide +kernel
theorem dX1_copyFrom_98 : decode cX1_copyFrom 98 = .ok (.aload_n 1, 1) := by decide +kernel
theorem dX1_copyFrom_99 : decode cX1_copyFrom 99 = .ok (.getfield 34, 3) := by decide +kernel
theorem dX1_copyFrom_102 : decode cX1_copyFrom 102 = .ok (.iconst 0, 1) := by decide +kernel
theorem dX1_copyFrom_103 : decode cX1_copyFrom 103 = .ok (.aload_n 0, 1) := by decide +kernel
theorem dX1_copyFrom_104 : decode cX1_copyFrom 104 = .ok (.getfield 34, 3) := by decide +kernel
theorem dX1_copyFrom_107 : decode cX1_copyFrom 107 = .ok (.iconst 0, 1) := by decide +kernel
theorem dX1_copyFrom_108 : decode cX1_copyFrom 108 = .ok (.bipush 40, 2) := by decide +kernel
theorem dX1_copyFrom_110 : decode cX1_copyFrom 110 = .ok (.invokestatic 52, 3) := by decide +kernel
theorem dX1_copyFrom_113 : decode cX1_copyFrom 113 = .ok (.aload_n 1, 1) := by decide +kernel
theorem dX1_copyFrom_114 : decode cX1_copyFrom 114 = .ok (.getfield 37, 3) := by decide +kernel
theorem dX1_copyFrom_117 : decode cX1_copyFrom 117 = .ok (.iconst 0, 1) := by decide +kernel
theorem dX1_copyFrom_118 : decode cX1_copyFrom 118 = .ok (.aload_n 0, 1) := by decide +kernel
theorem dX1_copyFrom_119 : decode cX1_copyFrom 119 = .ok (.getfield 37, 3) := by decide +kernel
theorem dX1_copyFrom_122 : decode cX1_copyFrom 122 = .ok (.iconst 0, 1) := by decide +kernel
theorem dX1_copyFrom_123 : decode cX1_copyFrom 123 = .ok (.bipush 120, 2) := by decide +kernel
theorem dX1_copyFrom_125 : decode cX1_copyFrom 125 = .ok (.invokestatic 52, 3) := by decide +kernel
theorem dX1_copyFrom_128 : decode cX1_copyFrom 128 = .ok (.aload_n 1, 1) := by decide +kernel
theorem dX1_copyFrom_129 : decode cX1_copyFrom 129 = .ok (.getfield 40, 3) := by decide +kernel
theorem dX1_copyFrom_132 : decode cX1_copyFrom 132 = .ok (.iconst 0, 1) := by decide +kernel
theorem dX1_copyFrom_133 : decode cX1_copyFrom 133 = .ok (.aload_n 0, 1) := by decide +kernel
theorem dX1_copyFrom_134 : decode cX1_copyFrom 134 = .ok (.getfield 40, 3) := by decide +kernel
theorem dX1_copyFrom_137 : decode cX1_copyFrom 137 = .ok (.iconst 0, 1) := by decide +kernel
theorem dX1_copyFrom_138 : decode cX1_copyFrom 138 = .ok (.bipush 120, 2) := by decide +kernel
theorem dX1_copyFrom_140 : decode cX1_copyFrom 140 = .ok (.invokestatic 52, 3) := by decide +kernel
theorem dX1_copyFrom_143 : decode cX1_copyFrom 143 = .ok (.aload_n 1, 1) := by decide +kernel
theorem dX1_copyFrom_144 : decode cX1_copyFrom 144 = .ok (.getfield 43, 3) := by decide +kernel
theorem dX1_copyFrom_147 : decode cX1_copyFrom 147 = .ok (.iconst 0, 1) := by decide +kernel
theorem dX1_copyFrom_148 : decode cX1_copyFrom 148 = .ok (.aload_n 0, 1) := by decide +kernel
theorem dX1_copyFrom_149 : decode cX1_copyFrom 149 = .ok (.getfield 43, 3) := by decide +kernel
theorem dX1_copyFrom_152 : decode cX1_copyFrom 152 = .ok (.iconst 0, 1) := by decide +kernel
theorem dX1_copyFrom_153 : decode cX1_copyFrom 153 = .ok (.bipush 120, 2) := by decide +kernel
theorem dX1_copyFrom_155 : decode cX1_copyFrom 155 = .ok (.invokestatic 52, 3) := by decide +kernel
theorem dX1_copyFrom_158 : decode cX1_copyFrom 158 = .ok (.aload_n 0, 1) := by decide +kernel
theorem dX1_copyFrom_159 : decode cX1_copyFrom 159 = .ok (.aload_n 1, 1) := by decide +kernel
theorem dX1_copyFrom_160 : decode cX1_copyFrom 160 = .ok (.getfield 48, 3) := by decide +kernel
theorem dX1_copyFrom_163 : decode cX1_copyFrom 163 = .ok (.putfield 48, 3) := by decide +kernel
theorem dX1_copyFrom_166 : decode cX1_copyFrom 166 = .ok (.return_, 1) := by decide +kernel
theorem dX1_mayChangeKind_0 : decode cX1_mayChangeKind 0 = .ok (.aload_n 0, 1) := by decide +kernel
theorem dX1_mayChangeKind_1 : decode cX1_mayChangeKind 1 = .ok (.iload_n 1, 1) := by decide +kernel
theorem dX1_mayChangeKind_2 : decode cX1_mayChangeKind 2 = .ok (.invokevirtual 58, 3) := by decide +kernel
theorem dX1_mayChangeKind_5 : decode cX1_mayChangeKind 5 = .ok (.ifCond .ne 27, 3) := by decide +kernel
theorem dX1_mayChangeKind_8 : decode cX1_mayChangeKind 8 = .ok (.aload_n 0, 1) := by decide +kernel
theorem dX1_mayChangeKind_9 : decode cX1_mayChangeKind 9 = .ok (.getfield 28, 3) := by decide +kernel
theorem dX1_mayChangeKind_12 : decode cX1_mayChangeKind 12 = .ok (.iload_n 1, 1) := by decide +kernel
theorem dX1_mayChangeKind_13 : decode cX1_mayChangeKind 13 = .ok (.iaload, 1) := by decide +kernel
theorem dX1_mayChangeKind_14 : decode cX1_mayChangeKind 14 = .ok (.iconst (-1), 1) := by decide +kernel
theorem dX1_mayChangeKind_15 : decode cX1_mayChangeKind 15 = .ok (.if_icmp .ne 17, 3) := by decide +kernel
theorem dX1_mayChangeKind_18 : decode cX1_mayChangeKind 18 = .ok (.aload_n 0, 1) := by decide +kernel
theorem dX1_mayChangeKind_19 : decode cX1_mayChangeKind 19 = .ok (.getfield 31, 3) := by decide +kernel
theorem dX1_mayChangeKind_22 : decode cX1_mayChangeKind 22 = .ok (.iload_n 1, 1) := by decide +kernel
theorem dX1_mayChangeKind_23 : decode cX1_mayChangeKind 23 = .ok (.iaload, 1) := by decide +kernel
theorem dX1_mayChangeKind_24 : decode cX1_mayChangeKind 24 = .ok (.iconst (-1), 1) := by decide +kernel
theorem dX1_mayChangeKind_25 : decode cX1_mayChangeKind 25 = .ok (.if_icmp .ne 7, 3) := by decide +kernel
theorem dX1_mayChangeKind_28 : decode cX1_mayChangeKind 28 = .ok (.iconst 1, 1) := by decide +kernel
theorem dX1_mayChangeKind_29 : decode cX1_mayChangeKind 29 = .ok (.goto 4, 3) := by decide +kernel
theorem dX1_mayChangeKind_32 : decode cX1_mayChangeKind 32 = .ok (.iconst 0, 1) := by decide +kernel
theorem dX1_mayChangeKind_33 : decode cX1_mayChangeKind 33 = .ok (.ireturn, 1) := by decide +kernel
theorem dX1_changeKind_0 : decode cX1_changeKind 0 = .ok (.aload_n 0, 1) := by decide +kernel
theorem dX1_changeKind_1 : decode cX1_changeKind 1 = .ok (.getfield 25, 3) := by decide +kernel
theorem dX1_changeKind_4 : decode cX1_changeKind 4 = .ok (.iload_n 1, 1) := by decide +kernel
theorem dX1_changeKind_5 : decode cX1_changeKind 5 = .ok (.iaload, 1) := by decide +kernel
theorem dX1_changeKind_6 : decode cX1_changeKind 6 = .ok (.istore_n 3, 1) := by decide +kernel
theorem dX1_changeKind_7 : decode cX1_changeKind 7 = .ok (.aload_n 0, 1) := by decide +kernel
theorem dX1_changeKind_8 : decode cX1_changeKind 8 = .ok (.getfield 25, 3) := by decide +kernel
theorem dX1_changeKind_11 : decode cX1_changeKind 11 = .ok (.iload_n 1, 1) := by decide +kernel
theorem dX1_changeKind_12 : decode cX1_changeKind 12 = .ok (.iload_n 2, 1) := by decide +kernel
theorem dX1_changeKind_13 : decode cX1_changeKind 13 = .ok (.iastore, 1) := by decide +kernel
theorem dX1_changeKind_14 : decode cX1_changeKind 14 = .ok (.iload_n 3, 1) := by decide +kernel
theorem dX1_changeKind_15 : decode cX1_changeKind 15 = .ok (.ireturn, 1) := by decide +kernel
theorem dX1_addBurial_0 : decode cX1_addBurial 0 = .ok (.iload_n 2, 1) := by decide +kernel
theorem dX1_addBurial_1 : decode cX1_addBurial 1 = .ok (.iload_n 3, 1) := by decide +kernel
theorem dX1_addBurial_2 : decode cX1_addBurial 2 = .ok (.invokestatic 62, 3) := by decide +kernel
theorem dX1_addBurial_5 : decode cX1_addBurial 5 = .ok (.istore 4, 2) := by decide +kernel
theorem dX1_addBurial_7 : decode cX1_addBurial 7 = .ok (.aload_n 0, 1) := by decide +kernel
theorem dX1_addBurial_8 : decode cX1_addBurial 8 = .ok (.iload_n 1, 1) := by decide +kernel
theorem dX1_addBurial_9 : decode cX1_addBurial 9 = .ok (.iload_n 2, 1) := by decide +kernel
theorem dX1_addBurial_10 : decode cX1_addBurial 10 = .ok (.iload_n 3, 1) := by decide +kernel
theorem dX1_addBurial_11 : decode cX1_addBurial 11 = .ok (.invokevirtual 66, 3) := by decide +kernel
theorem dX1_addBurial_14 : decode cX1_addBurial 14 = .ok (.istore 5, 2) := by decide +kernel
theorem dX1_addBurial_16 : decode cX1_addBurial 16 = .ok (.aload_n 0, 1) := by decide +kernel
theorem dX1_addBurial_17 : decode cX1_addBurial 17 = .ok (.getfield 37, 3) := by decide +kernel
theorem dX1_addBurial_20 : decode cX1_addBurial 20 = .ok (.iload 4, 2) := by decide +kernel
theorem dX1_addBurial_22 : decode cX1_addBurial 22 = .ok (.iload_n 1, 1) := by decide +kernel
theorem dX1_addBurial_23 : decode cX1_addBurial 23 = .ok (.iastore, 1) := by decide +kernel
theorem dX1_addBurial_24 : decode cX1_addBurial 24 = .ok (.aload_n 0, 1) := by decide +kernel
theorem dX1_addBurial_25 : decode cX1_addBurial 25 = .ok (.getfield 40, 3) := by decide +kernel
theorem dX1_addBurial_28 : decode cX1_addBurial 28 = .ok (.iload 4, 2) := by decide +kernel
theorem dX1_addBurial_30 : decode cX1_addBurial 30 = .ok (.aload_n 0, 1) := by decide +kernel
theorem dX1_addBurial_31 : decode cX1_addBurial 31 = .ok (.getfield 9, 3) := by decide +kernel
theorem dX1_addBurial_34 : decode cX1_addBurial 34 = .ok (.iastore, 1) := by decide +kernel
theorem dX1_addBurial_35 : decode cX1_addBurial 35 = .ok (.aload_n 0, 1) := by decide +kernel
theorem dX1_addBurial_36 : decode cX1_addBurial 36 = .ok (.getfield 43, 3) := by decide +kernel
theorem dX1_addBurial_39 : decode cX1_addBurial 39 = .ok (.iload 4, 2) := by decide +kernel
theorem dX1_addBurial_41 : decode cX1_addBurial 41 = .ok (.iload 5, 2) := by decide +kernel
theorem dX1_addBurial_43 : decode cX1_addBurial 43 = .ok (.iastore, 1) := by decide +kernel
theorem dX1_addBurial_44 : decode cX1_addBurial 44 = .ok (.aload_n 0, 1) := by decide +kernel
theorem dX1_addBurial_45 : decode cX1_addBurial 45 = .ok (.getfield 22, 3) := by decide +kernel
theorem dX1_addBurial_48 : decode cX1_addBurial 48 = .ok (.iload_n 1, 1) := by decide +kernel
theorem dX1_addBurial_49 : decode cX1_addBurial 49 = .ok (.dup2, 1) := by decide +kernel
theorem dX1_addBurial_50 : decode cX1_addBurial 50 = .ok (.iaload, 1) := by decide +kernel
theorem dX1_addBurial_51 : decode cX1_addBurial 51 = .ok (.iconst 1, 1) := by decide +kernel
theorem dX1_addBurial_52 : decode cX1_addBurial 52 = .ok (.iadd, 1) := by decide +kernel
theorem dX1_addBurial_53 : decode cX1_addBurial 53 = .ok (.iastore, 1) := by decide +kernel
theorem dX1_addBurial_54 : decode cX1_addBurial 54 = .ok (.aload_n 0, 1) := by decide +kernel
theorem dX1_addBurial_55 : decode cX1_addBurial 55 = .ok (.getfield 19, 3) := by decide +kernel
theorem dX1_addBurial_58 : decode cX1_addBurial 58 = .ok (.iload_n 1, 1) := by decide +kernel
theorem dX1_addBurial_59 : decode cX1_addBurial 59 = .ok (.dup2, 1) := by decide +kernel
theorem dX1_addBurial_60 : decode cX1_addBurial 60 = .ok (.iaload, 1) := by decide +kernel
theorem dX1_addBurial_61 : decode cX1_addBurial 61 = .ok (.iload 5, 2) := by decide +kernel
theorem dX1_addBurial_63 : decode cX1_addBurial 63 = .ok (.iadd, 1) := by decide +kernel
theorem dX1_addBurial_64 : decode cX1_addBurial 64 = .ok (.iastore, 1) := by decide +kernel
theorem dX1_addBurial_65 : decode cX1_addBurial 65 = .ok (.aload_n 0, 1) := by decide +kernel
theorem dX1_addBurial_66 : decode cX1_addBurial 66 = .ok (.aload_n 0, 1) := by decide +kernel
theorem dX1_addBurial_67 : decode cX1_addBurial 67 = .ok (.lconst 0, 1) := by decide +kernel
theorem dX1_addBurial_68 : decode cX1_addBurial 68 = .ok (.invokevirtual 70, 3) := by decide +kernel
theorem dX1_addBurial_71 : decode cX1_addBurial 71 = .ok (.putfield 48, 3) := by decide +kernel
theorem dX1_addBurial_74 : decode cX1_addBurial 74 = .ok (.iload 5, 2) := by decide +kernel
theorem dX1_addBurial_76 : decode cX1_addBurial 76 = .ok (.ireturn, 1) := by decide +kernel
theorem dX1_removeBurials_0 : decode cX1_removeBurials 0 = .ok (.aload_n 0, 1) := by decide +kernel
theorem dX1_removeBurials_1 : decode cX1_removeBurials 1 = .ok (.iload_n 1, 1) := by decide +kernel
theorem dX1_removeBurials_2 : decode cX1_removeBurials 2 = .ok (.invokevirtual 58, 3) := by decide +kernel
theorem dX1_removeBurials_5 : decode cX1_removeBurials 5 = .ok (.istore_n 2, 1) := by decide +kernel
theorem dX1_removeBurials_6 : decode cX1_removeBurials 6 = .ok (.iload_n 1, 1) := by decide +kernel
theorem dX1_removeBurials_7 : decode cX1_removeBurials 7 = .ok (.iconst 3, 1) := by decide +kernel
theorem dX1_removeBurials_8 : decode cX1_removeBurials 8 = .ok (.imul, 1) := by decide +kernel
theorem dX1_removeBurials_9 : decode cX1_removeBurials 9 = .ok (.istore_n 3, 1) := by decide +kernel
theorem dX1_removeBurials_10 : decode cX1_removeBurials 10 = .ok (.iload_n 3, 1) := by decide +kernel
theorem dX1_removeBurials_11 : decode cX1_removeBurials 11 = .ok (.istore 4, 2) := by decide +kernel
theorem dX1_removeBurials_13 : decode cX1_removeBurials 13 = .ok (.iload 4, 2) := by decide +kernel
theorem dX1_removeBurials_15 : decode cX1_removeBurials 15 = .ok (.iload_n 3, 1) := by decide +kernel
theorem dX1_removeBurials_16 : decode cX1_removeBurials 16 = .ok (.iconst 3, 1) := by decide +kernel
theorem dX1_removeBurials_17 : decode cX1_removeBurials 17 = .ok (.iadd, 1) := by decide +kernel
theorem dX1_removeBurials_18 : decode cX1_removeBurials 18 = .ok (.if_icmp .ge 33, 3) := by decide +kernel
theorem dX1_removeBurials_21 : decode cX1_removeBurials 21 = .ok (.aload_n 0, 1) := by decide +kernel
theorem dX1_removeBurials_22 : decode cX1_removeBurials 22 = .ok (.getfield 37, 3) := by decide +kernel
theorem dX1_removeBurials_25 : decode cX1_removeBurials 25 = .ok (.iload 4, 2) := by decide +kernel
theorem dX1_removeBurials_27 : decode cX1_removeBurials 27 = .ok (.iconst (-1), 1) := by decide +kernel
theorem dX1_removeBurials_28 : decode cX1_removeBurials 28 = .ok (.iastore, 1) := by decide +kernel
theorem dX1_removeBurials_29 : decode cX1_removeBurials 29 = .ok (.aload_n 0, 1) := by decide +kernel
theorem dX1_removeBurials_30 : decode cX1_removeBurials 30 = .ok (.getfield 40, 3) := by decide +kernel
theorem dX1_removeBurials_33 : decode cX1_removeBurials 33 = .ok (.iload 4, 2) := by decide +kernel
theorem dX1_removeBurials_35 : decode cX1_removeBurials 35 = .ok (.iconst (-1), 1) := by decide +kernel
theorem dX1_removeBurials_36 : decode cX1_removeBurials 36 = .ok (.iastore, 1) := by decide +kernel
theorem dX1_removeBurials_37 : decode cX1_removeBurials 37 = .ok (.aload_n 0, 1) := by decide +kernel
theorem dX1_removeBurials_38 : decode cX1_removeBurials 38 = .ok (.getfield 43, 3) := by decide +kernel
theorem dX1_removeBurials_41 : decode cX1_removeBurials 41 = .ok (.iload 4, 2) := by decide +kernel
theorem dX1_removeBurials_43 : decode cX1_removeBurials 43 = .ok (.iconst (-1), 1) := by decide +kernel
theorem dX1_removeBurials_44 : decode cX1_removeBurials 44 = .ok (.iastore, 1) := by decide +kernel
theorem dX1_removeBurials_45 : decode cX1_removeBurials 45 = .ok (.iinc 4 1, 3) := by decide +kernel
theorem dX1_removeBurials_48 : decode cX1_removeBurials 48 = .ok (.goto (-35), 3) := by decide +kernel
theorem dX1_removeBurials_51 : decode cX1_removeBurials 51 = .ok (.aload_n 0, 1) := by decide +kernel
theorem dX1_removeBurials_52 : decode cX1_removeBurials 52 = .ok (.aload_n 0, 1) := by decide +kernel
theorem dX1_removeBurials_53 : decode cX1_removeBurials 53 = .ok (.lconst 0, 1) := by decide +kernel
theorem dX1_removeBurials_54 : decode cX1_removeBurials 54 = .ok (.invokevirtual 70, 3) := by decide +kernel
theorem dX1_removeBurials_57 : decode cX1_removeBurials 57 = .ok (.putfield 48, 3) := by decide +kernel
theorem dX1_removeBurials_60 : decode cX1_removeBurials 60 = .ok (.iload_n 2, 1) := by decide +kernel
theorem dX1_removeBurials_61 : decode cX1_removeBurials 61 = .ok (.ireturn, 1) := by decide +kernel
theorem dX1_mayReserve_0 : decode cX1_mayReserve 0 = .ok (.aload_n 0, 1) := by decide +kernel
theorem dX1_mayReserve_1 : decode cX1_mayReserve 1 = .ok (.getfield 25, 3) := by decide +kernel
theorem dX1_mayReserve_4 : decode cX1_mayReserve 4 = .ok (.iload_n 2, 1) := by decide +kernel
theorem dX1_mayReserve_5 : decode cX1_mayReserve 5 = .ok (.iaload, 1) := by decide +kernel
theorem dX1_mayReserve_6 : decode cX1_mayReserve 6 = .ok (.iconst 3, 1) := by decide +kernel
theorem dX1_mayReserve_7 : decode cX1_mayReserve 7 = .ok (.if_icmp .eq 33, 3) := by decide +kernel
theorem dX1_mayReserve_10 : decode cX1_mayReserve 10 = .ok (.aload_n 0, 1) := by decide +kernel
theorem dX1_mayReserve_11 : decode cX1_mayReserve 11 = .ok (.getfield 28, 3) := by decide +kernel
theorem dX1_mayReserve_14 : decode cX1_mayReserve 14 = .ok (.iload_n 2, 1) := by decide +kernel
theorem dX1_mayReserve_15 : decode cX1_mayReserve 15 = .ok (.iaload, 1) := by decide +kernel
theorem dX1_mayReserve_16 : decode cX1_mayReserve 16 = .ok (.iconst (-1), 1) := by decide +kernel
theorem dX1_mayReserve_17 : decode cX1_mayReserve 17 = .ok (.if_icmp .ne 23, 3) := by decide +kernel
theorem dX1_mayReserve_20 : decode cX1_mayReserve 20 = .ok (.aload_n 0, 1) := by decide +kernel
theorem dX1_mayReserve_21 : decode cX1_mayReserve 21 = .ok (.iload_n 2, 1) := by decide +kernel
theorem dX1_mayReserve_22 : decode cX1_mayReserve 22 = .ok (.aload_n 0, 1) := by decide +kernel
theorem dX1_mayReserve_23 : decode cX1_mayReserve 23 = .ok (.getfield 9, 3) := by decide +kernel
theorem dX1_mayReserve_26 : decode cX1_mayReserve 26 = .ok (.invokevirtual 74, 3) := by decide +kernel
theorem dX1_mayReserve_29 : decode cX1_mayReserve 29 = .ok (.iload_n 1, 1) := by decide +kernel
theorem dX1_mayReserve_30 : decode cX1_mayReserve 30 = .ok (.invokestatic 77, 3) := by decide +kernel
theorem dX1_mayReserve_33 : decode cX1_mayReserve 33 = .ok (.ifCond .ne 7, 3) := by decide +kernel
theorem dX1_mayReserve_36 : decode cX1_mayReserve 36 = .ok (.iconst 1, 1) := by decide +kernel
theorem dX1_mayReserve_37 : decode cX1_mayReserve 37 = .ok (.goto 4, 3) := by decide +kernel
theorem dX1_mayReserve_40 : decode cX1_mayReserve 40 = .ok (.iconst 0, 1) := by decide +kernel
theorem dX1_mayReserve_41 : decode cX1_mayReserve 41 = .ok (.ireturn, 1) := by decide +kernel
theorem dX1_addReservation_0 : decode cX1_addReservation 0 = .ok (.aload_n 0, 1) := by decide +kernel
theorem dX1_addReservation_1 : decode cX1_addReservation 1 = .ok (.iload_n 1, 1) := by decide +kernel
