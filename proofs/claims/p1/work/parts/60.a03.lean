theorem dX21_init_102 : decode cX21_init 102 = .ok (.iconst 2, 1) := by decide +kernel
theorem dX21_init_103 : decode cX21_init 103 = .ok (.iconst (-1), 1) := by decide +kernel
theorem dX21_init_104 : decode cX21_init 104 = .ok (.iastore, 1) := by decide +kernel
theorem dX21_init_105 : decode cX21_init 105 = .ok (.dup, 1) := by decide +kernel
theorem dX21_init_106 : decode cX21_init 106 = .ok (.iconst 3, 1) := by decide +kernel
theorem dX21_init_107 : decode cX21_init 107 = .ok (.iconst (-1), 1) := by decide +kernel
theorem dX21_init_108 : decode cX21_init 108 = .ok (.iastore, 1) := by decide +kernel
theorem dX21_init_109 : decode cX21_init 109 = .ok (.putfield 26, 3) := by decide +kernel
theorem dX21_init_112 : decode cX21_init 112 = .ok (.aload_n 0, 1) := by decide +kernel
theorem dX21_init_113 : decode cX21_init 113 = .ok (.iconst 4, 1) := by decide +kernel
theorem dX21_init_114 : decode cX21_init 114 = .ok (.newarray .int, 2) := by decide +kernel
theorem dX21_init_116 : decode cX21_init 116 = .ok (.putfield 29, 3) := by decide +kernel
theorem dX21_init_119 : decode cX21_init 119 = .ok (.aload_n 0, 1) := by decide +kernel
theorem dX21_init_120 : decode cX21_init 120 = .ok (.iconst 4, 1) := by decide +kernel
theorem dX21_init_121 : decode cX21_init 121 = .ok (.sipush 3618, 3) := by decide +kernel
theorem dX21_init_124 : decode cX21_init 124 = .ok (.multianewarray 32 2, 4) := by decide +kernel
theorem dX21_init_128 : decode cX21_init 128 = .ok (.putfield 34, 3) := by decide +kernel
theorem dX21_init_131 : decode cX21_init 131 = .ok (.aload_n 0, 1) := by decide +kernel
theorem dX21_init_132 : decode cX21_init 132 = .ok (.iconst 4, 1) := by decide +kernel
theorem dX21_init_133 : decode cX21_init 133 = .ok (.sipush 3618, 3) := by decide +kernel
theorem dX21_init_136 : decode cX21_init 136 = .ok (.multianewarray 37 2, 4) := by decide +kernel
theorem dX21_init_140 : decode cX21_init 140 = .ok (.putfield 39, 3) := by decide +kernel
theorem dX21_init_143 : decode cX21_init 143 = .ok (.aload_n 0, 1) := by decide +kernel
theorem dX21_init_144 : decode cX21_init 144 = .ok (.iconst 4, 1) := by decide +kernel
theorem dX21_init_145 : decode cX21_init 145 = .ok (.sipush 3618, 3) := by decide +kernel
theorem dX21_init_148 : decode cX21_init 148 = .ok (.multianewarray 37 2, 4) := by decide +kernel
theorem dX21_init_152 : decode cX21_init 152 = .ok (.putfield 42, 3) := by decide +kernel
theorem dX21_init_155 : decode cX21_init 155 = .ok (.aload_n 0, 1) := by decide +kernel
theorem dX21_init_156 : decode cX21_init 156 = .ok (.iconst 4, 1) := by decide +kernel
theorem dX21_init_157 : decode cX21_init 157 = .ok (.newarray .int, 2) := by decide +kernel
theorem dX21_init_159 : decode cX21_init 159 = .ok (.putfield 45, 3) := by decide +kernel
theorem dX21_init_162 : decode cX21_init 162 = .ok (.aload_n 0, 1) := by decide +kernel
theorem dX21_init_163 : decode cX21_init 163 = .ok (.iconst 4, 1) := by decide +kernel
theorem dX21_init_164 : decode cX21_init 164 = .ok (.bipush 15, 2) := by decide +kernel
theorem dX21_init_166 : decode cX21_init 166 = .ok (.multianewarray 37 2, 4) := by decide +kernel
theorem dX21_init_170 : decode cX21_init 170 = .ok (.putfield 48, 3) := by decide +kernel
theorem dX21_init_173 : decode cX21_init 173 = .ok (.aload_n 0, 1) := by decide +kernel
theorem dX21_init_174 : decode cX21_init 174 = .ok (.iconst 4, 1) := by decide +kernel
theorem dX21_init_175 : decode cX21_init 175 = .ok (.anewarray 51, 3) := by decide +kernel
theorem dX21_init_178 : decode cX21_init 178 = .ok (.putfield 53, 3) := by decide +kernel
