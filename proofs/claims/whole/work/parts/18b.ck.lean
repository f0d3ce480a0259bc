set_option maxRecDepth 1000000 in
theorem ck_100 : ckL prog_7_method_6_code 4 false (none) cd_100 0 = true := by decide +kernel
set_option maxRecDepth 1000000 in
theorem ck_101 : ckL prog_7_method_7_code 4 false (none) cd_101 0 = true := by decide +kernel
set_option maxRecDepth 1000000 in
theorem ck_102 : ckL prog_7_method_8_code 4 false (none) cd_102 0 = true := by decide +kernel
set_option maxRecDepth 1000000 in
theorem ck_103 : ckL prog_7_method_9_code 4 false (none) cd_103 0 = true := by decide +kernel
set_option maxRecDepth 1000000 in
theorem ck_104 : ckL prog_7_method_10_code 4 false (some .boolean) cd_104 0 = true := by decide +kernel
set_option maxRecDepth 1000000 in
theorem ck_105 : ckL prog_7_method_11_code 4 false (none) cd_105 0 = true := by decide +kernel
set_option maxRecDepth 1000000 in
theorem ck_106 : ckL prog_7_method_12_code 4 false (some .int) cd_106 0 = true := by decide +kernel
set_option maxRecDepth 1000000 in
theorem ck_107 : ckL prog_7_method_13_code 4 false (none) cd_107 0 = true := by decide +kernel
set_option maxRecDepth 1000000 in
theorem ck_108 : ckL prog_7_method_14_code 4 false (some .boolean) cd_108 0 = true := by decide +kernel
set_option maxRecDepth 1000000 in
theorem ck_109 : ckL prog_7_method_15_code 4 false (none) cd_109 0 = true := by decide +kernel
set_option maxRecDepth 1000000 in
theorem ck_110 : ckL prog_7_method_16_code 4 false (none) cd_110 0 = true := by decide +kernel
set_option maxRecDepth 1000000 in
theorem ck_111 : ckL prog_7_method_17_code 4 false (some .int) cd_111 0 = true := by decide +kernel
set_option maxRecDepth 1000000 in
theorem ck_112 : ckL prog_7_method_18_code 4 false (some .int) cd_112 0 = true := by decide +kernel
set_option maxRecDepth 1000000 in
theorem ck_113 : ckL prog_3_method_1_code 5 true (none) cd_113 0 = true := by decide +kernel
set_option maxRecDepth 1000000 in
theorem ck_114 : ckL prog_3_method_2_code 5 false (some .int) cd_114 0 = true := by decide +kernel
set_option maxRecDepth 1000000 in
theorem ck_115 : ckL prog_3_method_3_code 5 false (none) cd_115 0 = true := by decide +kernel
set_option maxRecDepth 1000000 in
theorem ck_116 : ckL prog_3_method_4_code 5 false (none) cd_116 0 = true := by decide +kernel
set_option maxRecDepth 1000000 in
theorem ck_117 : ckL prog_3_method_5_code 5 false (none) cd_117 0 = true := by decide +kernel
set_option maxRecDepth 1000000 in
theorem ck_118 : ckL prog_3_method_6_code 5 false (none) cd_118 0 = true := by decide +kernel
set_option maxRecDepth 1000000 in
theorem ck_119 : ckL prog_3_method_7_code 5 false (none) cd_119 0 = true := by decide +kernel
set_option maxRecDepth 1000000 in
theorem ck_120 : ckL prog_5_method_1_code 6 true (none) cd_120 0 = true := by decide +kernel
set_option maxRecDepth 1000000 in
theorem ck_121 : ckL prog_5_method_2_code 6 false (none) cd_121 0 = true := by decide +kernel
set_option maxRecDepth 1000000 in
theorem ck_122 : ckL prog_5_method_3_code 6 false (some .int) cd_122 0 = true := by decide +kernel
set_option maxRecDepth 1000000 in
theorem ck_123 : ckL prog_5_method_4_code 6 false (some .int) cd_123 0 = true := by decide +kernel
set_option maxRecDepth 1000000 in
theorem ck_124 : ckL prog_5_method_5_code 6 false (some .int) cd_124 0 = true := by decide +kernel
set_option maxRecDepth 1000000 in
theorem ck_125 : ckL prog_5_method_6_code 6 false (some .int) cd_125 0 = true := by decide +kernel
set_option maxRecDepth 1000000 in
theorem ck_126 : ckL prog_5_method_7_code 6 false (some .int) cd_126 0 = true := by decide +kernel
set_option maxRecDepth 1000000 in
theorem ck_127 : ckL prog_5_method_8_code 6 false (some .int) cd_127 0 = true := by decide +kernel
set_option maxRecDepth 1000000 in
theorem ck_128 : ckL prog_5_method_9_code 6 false (some .int) cd_128 0 = true := by decide +kernel
set_option maxRecDepth 1000000 in
theorem ck_129 : ckL prog_5_method_10_code 6 false (some .int) cd_129 0 = true := by decide +kernel
set_option maxRecDepth 1000000 in
theorem ck_130 : ckL prog_5_method_11_code 6 false (some .int) cd_130 0 = true := by decide +kernel
set_option maxRecDepth 1000000 in
theorem ck_131 : ckL prog_5_method_12_code 6 false (some .int) cd_131 0 = true := by decide +kernel
set_option maxRecDepth 1000000 in
theorem ck_132 : ckL prog_9_method_1_code 7 true (none) cd_132 0 = true := by decide +kernel
set_option maxRecDepth 1000000 in
theorem ck_133 : ckL prog_9_method_2_code 7 false (none) cd_133 0 = true := by decide +kernel
set_option maxRecDepth 1000000 in
theorem ck_134 : ckL prog_9_method_3_code 7 false (some .boolean) cd_134 0 = true := by decide +kernel
set_option maxRecDepth 1000000 in
theorem ck_135 : ckL prog_9_method_4_code 7 false (some .boolean) cd_135 0 = true := by decide +kernel
set_option maxRecDepth 1000000 in
theorem ck_136 : ckL prog_9_method_5_code 7 false (some .int) cd_136 0 = true := by decide +kernel
set_option maxRecDepth 1000000 in
theorem ck_137 : ckL prog_9_method_6_code 7 false (some .int) cd_137 0 = true := by decide +kernel
set_option maxRecDepth 1000000 in
theorem ck_138 : ckL prog_9_method_7_code 7 false (some .int) cd_138 0 = true := by decide +kernel
set_option maxRecDepth 1000000 in
theorem ck_139 : ckL prog_9_method_8_code 7 false (some .boolean) cd_139 0 = true := by decide +kernel
set_option maxRecDepth 1000000 in
theorem ck_140 : ckL prog_9_method_9_code 7 false (some .int) cd_140 0 = true := by decide +kernel
set_option maxRecDepth 1000000 in
theorem ck_141 : ckL prog_9_method_10_code 7 false (none) cd_141 0 = true := by decide +kernel
set_option maxRecDepth 1000000 in
theorem ck_142 : ckL prog_9_method_11_code 7 false (some .int) cd_142 0 = true := by decide +kernel
set_option maxRecDepth 1000000 in
theorem ck_143 : ckL prog_10_method_1_code 8 true (none) cd_143 0 = true := by decide +kernel
set_option maxRecDepth 1000000 in
theorem ck_144 : ckL prog_10_method_2_code 8 false (none) cd_144 0 = true := by decide +kernel
set_option maxRecDepth 1000000 in
theorem ck_145 : ckL prog_10_method_3_code 8 false (some .long) cd_145 0 = true := by decide +kernel
set_option maxRecDepth 1000000 in
theorem ck_146 : ckL prog_10_method_4_code 8 false (none) cd_146 0 = true := by decide +kernel
set_option maxRecDepth 1000000 in
theorem ck_147 : ckL prog_10_method_5_code 8 false (none) cd_147 0 = true := by decide +kernel
set_option maxRecDepth 1000000 in
theorem ck_148 : ckL prog_10_method_6_code 8 false (none) cd_148 0 = true := by decide +kernel
set_option maxRecDepth 1000000 in
theorem ck_149 : ckL prog_10_method_7_code 8 false (some .boolean) cd_149 0 = true := by decide +kernel
set_option maxRecDepth 1000000 in
theorem ck_150 : ckL prog_10_method_8_code 8 false (none) cd_150 0 = true := by decide +kernel
set_option maxRecDepth 1000000 in
theorem ck_151 : ckL prog_12_method_1_code 9 true (none) cd_151 0 = true := by decide +kernel
set_option maxRecDepth 1000000 in
theorem ck_152 : ckL prog_12_method_2_code 9 false (none) cd_152 0 = true := by decide +kernel
set_option maxRecDepth 1000000 in
theorem ck_153 : ckL prog_12_method_3_code 9 false (none) cd_153 0 = true := by decide +kernel
set_option maxRecDepth 1000000 in
theorem ck_154 : ckL prog_12_method_4_code 9 false (some .int) cd_154 0 = true := by decide +kernel
set_option maxRecDepth 1000000 in
theorem ck_155 : ckL prog_12_method_5_code 9 false (some .int) cd_155 0 = true := by decide +kernel
set_option maxRecDepth 1000000 in
theorem ck_156 : ckL prog_12_method_6_code 9 false (some .int) cd_156 0 = true := by decide +kernel
set_option maxRecDepth 1000000 in
theorem ck_157 : ckL prog_12_method_7_code 9 false (some .int) cd_157 0 = true := by decide +kernel
set_option maxRecDepth 1000000 in
theorem ck_158 : ckL prog_12_method_8_code 9 false (some .int) cd_158 0 = true := by decide +kernel
set_option maxRecDepth 1000000 in
theorem ck_159 : ckL prog_12_method_9_code 9 false (none) cd_159 0 = true := by decide +kernel
set_option maxRecDepth 1000000 in
theorem ck_160 : ckL prog_12_method_10_code 9 false (none) cd_160 0 = true := by decide +kernel
set_option maxRecDepth 1000000 in
theorem ck_161 : ckL prog_12_method_11_code 9 false (none) cd_161 0 = true := by decide +kernel
set_option maxRecDepth 1000000 in
theorem ck_162 : ckL prog_12_method_12_code 9 false (none) cd_162 0 = true := by decide +kernel
set_option maxRecDepth 1000000 in
theorem ck_163 : ckL prog_12_method_13_code 9 false (some .int) cd_163 0 = true := by decide +kernel
set_option maxRecDepth 1000000 in
theorem ck_164 : ckL prog_12_method_14_code 9 false (none) cd_164 0 = true := by decide +kernel
set_option maxRecDepth 1000000 in
theorem ck_165 : ckL prog_12_method_15_code 9 false (some .int) cd_165 0 = true := by decide +kernel
set_option maxRecDepth 1000000 in
theorem ck_166 : ckL prog_12_method_16_code 9 false (none) cd_166 0 = true := by decide +kernel
set_option maxRecDepth 1000000 in
theorem ck_167 : ckL prog_4_method_1_code 10 true (none) cd_167 0 = true := by decide +kernel
set_option maxRecDepth 1000000 in
theorem ck_168 : ckL prog_4_method_2_code 10 false (none) cd_168 0 = true := by decide +kernel
set_option maxRecDepth 1000000 in
theorem ck_169 : ckL prog_4_method_3_code 10 false (some .int) cd_169 0 = true := by decide +kernel
set_option maxRecDepth 1000000 in
theorem ck_170 : ckL prog_4_method_4_code 10 false (some .int) cd_170 0 = true := by decide +kernel
set_option maxRecDepth 1000000 in
theorem ck_171 : ckL prog_4_method_5_code 10 false (none) cd_171 0 = true := by decide +kernel
set_option maxRecDepth 1000000 in
theorem ck_172 : ckL prog_4_method_6_code 10 false (none) cd_172 0 = true := by decide +kernel
set_option maxRecDepth 1000000 in
theorem ck_173 : ckL prog_4_method_7_code 10 false (none) cd_173 0 = true := by decide +kernel
set_option maxRecDepth 1000000 in
theorem ck_174 : ckL prog_4_method_8_code 10 false (none) cd_174 0 = true := by decide +kernel
set_option maxRecDepth 1000000 in
theorem ck_175 : ckL prog_4_method_9_code 10 false (none) cd_175 0 = true := by decide +kernel
set_option maxRecDepth 1000000 in
theorem ck_176 : ckL prog_4_method_10_code 10 false (none) cd_176 0 = true := by decide +kernel
set_option maxRecDepth 1000000 in
theorem ck_177 : ckL prog_4_method_11_code 10 false (some .boolean) cd_177 0 = true := by decide +kernel
set_option maxRecDepth 1000000 in
theorem ck_178 : ckL prog_4_method_12_code 10 false (some .int) cd_178 0 = true := by decide +kernel
set_option maxRecDepth 1000000 in
theorem ck_179 : ckL prog_2_method_1_code 11 true (none) cd_179 0 = true := by decide +kernel
set_option maxRecDepth 1000000 in
theorem ck_180 : ckL prog_2_method_2_code 11 false (none) cd_180 0 = true := by decide +kernel
set_option maxRecDepth 1000000 in
theorem ck_181 : ckL prog_2_method_3_code 11 false (some .boolean) cd_181 0 = true := by decide +kernel
set_option maxRecDepth 1000000 in
theorem ck_182 : ckL prog_2_method_4_code 11 false (some .int) cd_182 0 = true := by decide +kernel
set_option maxRecDepth 1000000 in
theorem ck_183 : ckL prog_2_method_5_code 11 false (some .int) cd_183 0 = true := by decide +kernel
set_option maxRecDepth 1000000 in
theorem ck_184 : ckL prog_2_method_6_code 11 false (none) cd_184 0 = true := by decide +kernel
set_option maxRecDepth 1000000 in
theorem ck_185 : ckL prog_2_method_7_code 11 false (some .int) cd_185 0 = true := by decide +kernel
set_option maxRecDepth 1000000 in
theorem ck_186 : ckL prog_2_method_8_code 11 false (some .boolean) cd_186 0 = true := by decide +kernel
set_option maxRecDepth 1000000 in
theorem ck_187 : ckL prog_2_method_9_code 11 false (some .int) cd_187 0 = true := by decide +kernel
set_option maxRecDepth 1000000 in
theorem ck_188 : ckL prog_2_method_10_code 11 false (some .int) cd_188 0 = true := by decide +kernel
set_option maxRecDepth 1000000 in
theorem ck_189 : ckL prog_2_method_11_code 11 false (none) cd_189 0 = true := by decide +kernel
set_option maxRecDepth 1000000 in
theorem ck_190 : ckL prog_14_method_1_code 12 false (some .int) cd_190 0 = true := by decide +kernel
set_option maxRecDepth 1000000 in
theorem ck_191 : ckL prog_14_method_2_code 12 false (some .int) cd_191 0 = true := by decide +kernel
set_option maxRecDepth 1000000 in
theorem ck_192 : ckL prog_14_method_3_code 12 false (none) cd_192 0 = true := by decide +kernel
set_option maxRecDepth 1000000 in
theorem ck_193 : ckL prog_14_method_4_code 12 true (none) cd_193 0 = true := by decide +kernel
set_option maxRecDepth 1000000 in
theorem ck_194 : ckL prog_14_method_5_code 12 false (some .boolean) cd_194 0 = true := by decide +kernel
set_option maxRecDepth 1000000 in
theorem ck_195 : ckL prog_14_method_6_code 12 false (some .boolean) cd_195 0 = true := by decide +kernel
set_option maxRecDepth 1000000 in
theorem ck_196 : ckL prog_14_method_7_code 12 false (some .int) cd_196 0 = true := by decide +kernel
set_option maxRecDepth 1000000 in
theorem ck_197 : ckL prog_14_method_8_code 12 false (some .boolean) cd_197 0 = true := by decide +kernel
set_option maxRecDepth 1000000 in
theorem ck_198 : ckL prog_14_method_9_code 12 false (none) cd_198 0 = true := by decide +kernel
set_option maxRecDepth 1000000 in
theorem ck_199 : ckL prog_14_method_10_code 12 false (none) cd_199 0 = true := by decide +kernel
