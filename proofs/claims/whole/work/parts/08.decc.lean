theorem dX8_factor_85 : q_j cX8_factor 85 88 122 (fun o => .if_icmp .ne o) := ⟨37, by decide +kernel, rfl, rfl⟩
theorem dX8_factor_88 : q_d cX8_factor 88 89 (.aload_n 0) 1 := ⟨by decide +kernel, rfl⟩
theorem dX8_factor_89 : q_d cX8_factor 89 90 (.iload_n 2) 1 := ⟨by decide +kernel, rfl⟩
theorem dX8_factor_90 : q_d cX8_factor 90 93 (.invokevirtual 201) 3 := ⟨by decide +kernel, rfl⟩
theorem dX8_factor_93 : q_d cX8_factor 93 94 (.aload_n 0) 1 := ⟨by decide +kernel, rfl⟩
theorem dX8_factor_94 : q_d cX8_factor 94 96 (.bipush 40) 2 := ⟨by decide +kernel, rfl⟩
theorem dX8_factor_96 : q_d cX8_factor 96 99 (.invokevirtual 204) 3 := ⟨by decide +kernel, rfl⟩
theorem dX8_factor_99 : q_d cX8_factor 99 100 (.aload_n 0) 1 := ⟨by decide +kernel, rfl⟩
theorem dX8_factor_100 : q_d cX8_factor 100 103 (.invokevirtual 207) 3 := ⟨by decide +kernel, rfl⟩
theorem dX8_factor_103 : q_d cX8_factor 103 104 (.aload_n 0) 1 := ⟨by decide +kernel, rfl⟩
theorem dX8_factor_104 : q_d cX8_factor 104 106 (.bipush 41) 2 := ⟨by decide +kernel, rfl⟩
theorem dX8_factor_106 : q_d cX8_factor 106 109 (.invokevirtual 204) 3 := ⟨by decide +kernel, rfl⟩
theorem dX8_factor_109 : q_d cX8_factor 109 110 (.aload_n 0) 1 := ⟨by decide +kernel, rfl⟩
theorem dX8_factor_110 : q_d cX8_factor 110 111 (.dup) 1 := ⟨by decide +kernel, rfl⟩
theorem dX8_factor_111 : q_d cX8_factor 111 114 (.getfield 193) 3 := ⟨by decide +kernel, rfl⟩
theorem dX8_factor_114 : q_d cX8_factor 114 115 (.iconst 1) 1 := ⟨by decide +kernel, rfl⟩
theorem dX8_factor_115 : q_d cX8_factor 115 116 (.isub) 1 := ⟨by decide +kernel, rfl⟩
theorem dX8_factor_116 : q_d cX8_factor 116 119 (.putfield 193) 3 := ⟨by decide +kernel, rfl⟩
theorem dX8_factor_119 : q_j cX8_factor 119 122 266 (fun o => .goto o) := ⟨147, by decide +kernel, rfl, rfl⟩
theorem dX8_factor_122 : q_d cX8_factor 122 123 (.aload_n 0) 1 := ⟨by decide +kernel, rfl⟩
theorem dX8_factor_123 : q_d cX8_factor 123 125 (.ldc 163) 2 := ⟨by decide +kernel, rfl⟩
theorem dX8_factor_125 : q_d cX8_factor 125 128 (.invokevirtual 103) 3 := ⟨by decide +kernel, rfl⟩
theorem dX8_factor_128 : q_j cX8_factor 128 131 193 (fun o => .ifCond .eq o) := ⟨65, by decide +kernel, rfl, rfl⟩
theorem dX8_factor_131 : q_d cX8_factor 131 132 (.aload_n 0) 1 := ⟨by decide +kernel, rfl⟩
theorem dX8_factor_132 : q_d cX8_factor 132 135 (.invokevirtual 78) 3 := ⟨by decide +kernel, rfl⟩
theorem dX8_factor_135 : q_d cX8_factor 135 137 (.bipush 40) 2 := ⟨by decide +kernel, rfl⟩
theorem dX8_factor_137 : q_j cX8_factor 137 140 148 (fun o => .if_icmp .ne o) := ⟨11, by decide +kernel, rfl, rfl⟩
theorem dX8_factor_140 : q_d cX8_factor 140 141 (.aload_n 0) 1 := ⟨by decide +kernel, rfl⟩
theorem dX8_factor_141 : q_d cX8_factor 141 142 (.aload_n 0) 1 := ⟨by decide +kernel, rfl⟩
theorem dX8_factor_142 : q_d cX8_factor 142 145 (.getfield 65) 3 := ⟨by decide +kernel, rfl⟩
theorem dX8_factor_145 : q_d cX8_factor 145 148 (.invokevirtual 201) 3 := ⟨by decide +kernel, rfl⟩
theorem dX8_factor_148 : q_d cX8_factor 148 149 (.aload_n 0) 1 := ⟨by decide +kernel, rfl⟩
theorem dX8_factor_149 : q_d cX8_factor 149 151 (.bipush 40) 2 := ⟨by decide +kernel, rfl⟩
theorem dX8_factor_151 : q_d cX8_factor 151 154 (.invokevirtual 204) 3 := ⟨by decide +kernel, rfl⟩
theorem dX8_factor_154 : q_d cX8_factor 154 155 (.aload_n 0) 1 := ⟨by decide +kernel, rfl⟩
theorem dX8_factor_155 : q_d cX8_factor 155 158 (.invokevirtual 207) 3 := ⟨by decide +kernel, rfl⟩
theorem dX8_factor_158 : q_d cX8_factor 158 159 (.aload_n 0) 1 := ⟨by decide +kernel, rfl⟩
theorem dX8_factor_159 : q_d cX8_factor 159 161 (.bipush 44) 2 := ⟨by decide +kernel, rfl⟩
theorem dX8_factor_161 : q_d cX8_factor 161 164 (.invokevirtual 204) 3 := ⟨by decide +kernel, rfl⟩
theorem dX8_factor_164 : q_d cX8_factor 164 165 (.aload_n 0) 1 := ⟨by decide +kernel, rfl⟩
theorem dX8_factor_165 : q_d cX8_factor 165 168 (.invokevirtual 207) 3 := ⟨by decide +kernel, rfl⟩
theorem dX8_factor_168 : q_d cX8_factor 168 169 (.aload_n 0) 1 := ⟨by decide +kernel, rfl⟩
theorem dX8_factor_169 : q_d cX8_factor 169 171 (.bipush 41) 2 := ⟨by decide +kernel, rfl⟩
theorem dX8_factor_171 : q_d cX8_factor 171 174 (.invokevirtual 204) 3 := ⟨by decide +kernel, rfl⟩
theorem dX8_factor_174 : q_d cX8_factor 174 175 (.aload_n 0) 1 := ⟨by decide +kernel, rfl⟩
theorem dX8_factor_175 : q_d cX8_factor 175 176 (.dup) 1 := ⟨by decide +kernel, rfl⟩
theorem dX8_factor_176 : q_d cX8_factor 176 179 (.getfield 193) 3 := ⟨by decide +kernel, rfl⟩
theorem dX8_factor_179 : q_d cX8_factor 179 180 (.iconst 1) 1 := ⟨by decide +kernel, rfl⟩
theorem dX8_factor_180 : q_d cX8_factor 180 181 (.isub) 1 := ⟨by decide +kernel, rfl⟩
theorem dX8_factor_181 : q_d cX8_factor 181 184 (.putfield 193) 3 := ⟨by decide +kernel, rfl⟩
theorem dX8_factor_184 : q_d cX8_factor 184 185 (.aload_n 0) 1 := ⟨by decide +kernel, rfl⟩
theorem dX8_factor_185 : q_d cX8_factor 185 187 (.bipush 10) 2 := ⟨by decide +kernel, rfl⟩
theorem dX8_factor_187 : q_d cX8_factor 187 190 (.invokevirtual 197) 3 := ⟨by decide +kernel, rfl⟩
theorem dX8_factor_190 : q_j cX8_factor 190 193 266 (fun o => .goto o) := ⟨76, by decide +kernel, rfl, rfl⟩
theorem dX8_factor_193 : q_d cX8_factor 193 194 (.aload_n 0) 1 := ⟨by decide +kernel, rfl⟩
theorem dX8_factor_194 : q_d cX8_factor 194 196 (.ldc 165) 2 := ⟨by decide +kernel, rfl⟩
theorem dX8_factor_196 : q_d cX8_factor 196 199 (.invokevirtual 103) 3 := ⟨by decide +kernel, rfl⟩
theorem dX8_factor_199 : q_j cX8_factor 199 202 260 (fun o => .ifCond .eq o) := ⟨61, by decide +kernel, rfl, rfl⟩
theorem dX8_factor_202 : q_d cX8_factor 202 203 (.aload_n 0) 1 := ⟨by decide +kernel, rfl⟩
theorem dX8_factor_203 : q_d cX8_factor 203 204 (.iload_n 2) 1 := ⟨by decide +kernel, rfl⟩
theorem dX8_factor_204 : q_d cX8_factor 204 207 (.invokevirtual 201) 3 := ⟨by decide +kernel, rfl⟩
theorem dX8_factor_207 : q_d cX8_factor 207 208 (.aload_n 0) 1 := ⟨by decide +kernel, rfl⟩
theorem dX8_factor_208 : q_d cX8_factor 208 211 (.invokevirtual 210) 3 := ⟨by decide +kernel, rfl⟩
theorem dX8_factor_211 : q_d cX8_factor 211 212 (.aload_n 0) 1 := ⟨by decide +kernel, rfl⟩
theorem dX8_factor_212 : q_d cX8_factor 212 214 (.ldc 167) 2 := ⟨by decide +kernel, rfl⟩
theorem dX8_factor_214 : q_d cX8_factor 214 217 (.invokevirtual 213) 3 := ⟨by decide +kernel, rfl⟩
theorem dX8_factor_217 : q_d cX8_factor 217 218 (.aload_n 0) 1 := ⟨by decide +kernel, rfl⟩
theorem dX8_factor_218 : q_d cX8_factor 218 221 (.invokevirtual 210) 3 := ⟨by decide +kernel, rfl⟩
theorem dX8_factor_221 : q_d cX8_factor 221 222 (.aload_n 0) 1 := ⟨by decide +kernel, rfl⟩
theorem dX8_factor_222 : q_d cX8_factor 222 224 (.ldc 168) 2 := ⟨by decide +kernel, rfl⟩
theorem dX8_factor_224 : q_d cX8_factor 224 227 (.invokevirtual 213) 3 := ⟨by decide +kernel, rfl⟩
theorem dX8_factor_227 : q_d cX8_factor 227 228 (.aload_n 0) 1 := ⟨by decide +kernel, rfl⟩
theorem dX8_factor_228 : q_d cX8_factor 228 231 (.invokevirtual 210) 3 := ⟨by decide +kernel, rfl⟩
theorem dX8_factor_231 : q_d cX8_factor 231 232 (.aload_n 0) 1 := ⟨by decide +kernel, rfl⟩
theorem dX8_factor_232 : q_d cX8_factor 232 234 (.ldc 170) 2 := ⟨by decide +kernel, rfl⟩
theorem dX8_factor_234 : q_d cX8_factor 234 237 (.invokevirtual 213) 3 := ⟨by decide +kernel, rfl⟩
theorem dX8_factor_237 : q_d cX8_factor 237 238 (.aload_n 0) 1 := ⟨by decide +kernel, rfl⟩
theorem dX8_factor_238 : q_d cX8_factor 238 241 (.invokevirtual 210) 3 := ⟨by decide +kernel, rfl⟩
theorem dX8_factor_241 : q_d cX8_factor 241 242 (.aload_n 0) 1 := ⟨by decide +kernel, rfl⟩
theorem dX8_factor_242 : q_d cX8_factor 242 243 (.dup) 1 := ⟨by decide +kernel, rfl⟩
theorem dX8_factor_243 : q_d cX8_factor 243 246 (.getfield 193) 3 := ⟨by decide +kernel, rfl⟩
theorem dX8_factor_246 : q_d cX8_factor 246 247 (.iconst 1) 1 := ⟨by decide +kernel, rfl⟩
theorem dX8_factor_247 : q_d cX8_factor 247 248 (.isub) 1 := ⟨by decide +kernel, rfl⟩
theorem dX8_factor_248 : q_d cX8_factor 248 251 (.putfield 193) 3 := ⟨by decide +kernel, rfl⟩
theorem dX8_factor_251 : q_d cX8_factor 251 252 (.aload_n 0) 1 := ⟨by decide +kernel, rfl⟩
theorem dX8_factor_252 : q_d cX8_factor 252 254 (.bipush 11) 2 := ⟨by decide +kernel, rfl⟩
theorem dX8_factor_254 : q_d cX8_factor 254 257 (.invokevirtual 197) 3 := ⟨by decide +kernel, rfl⟩
theorem dX8_factor_257 : q_j cX8_factor 257 260 266 (fun o => .goto o) := ⟨9, by decide +kernel, rfl, rfl⟩
theorem dX8_factor_260 : q_d cX8_factor 260 261 (.aload_n 0) 1 := ⟨by decide +kernel, rfl⟩
theorem dX8_factor_261 : q_d cX8_factor 261 262 (.iconst 1) 1 := ⟨by decide +kernel, rfl⟩
theorem dX8_factor_262 : q_d cX8_factor 262 263 (.iload_n 2) 1 := ⟨by decide +kernel, rfl⟩
theorem dX8_factor_263 : q_d cX8_factor 263 266 (.invokevirtual 106) 3 := ⟨by decide +kernel, rfl⟩
theorem dX8_factor_266 : q_d cX8_factor 266 267 (.return_) 1 := ⟨by decide +kernel, rfl⟩
theorem dX8_product_0 : q_d cX8_product 0 1 (.aload_n 0) 1 := ⟨by decide +kernel, rfl⟩
theorem dX8_product_1 : q_d cX8_product 1 4 (.invokevirtual 210) 3 := ⟨by decide +kernel, rfl⟩
theorem dX8_product_4 : q_d cX8_product 4 5 (.aload_n 0) 1 := ⟨by decide +kernel, rfl⟩
theorem dX8_product_5 : q_d cX8_product 5 8 (.invokevirtual 95) 3 := ⟨by decide +kernel, rfl⟩
theorem dX8_product_8 : q_j cX8_product 8 11 68 (fun o => .ifCond .eq o) := ⟨60, by decide +kernel, rfl, rfl⟩
theorem dX8_product_11 : q_d cX8_product 11 12 (.aload_n 0) 1 := ⟨by decide +kernel, rfl⟩
theorem dX8_product_12 : q_d cX8_product 12 15 (.invokevirtual 78) 3 := ⟨by decide +kernel, rfl⟩
theorem dX8_product_15 : q_d cX8_product 15 17 (.bipush 42) 2 := ⟨by decide +kernel, rfl⟩
theorem dX8_product_17 : q_j cX8_product 17 20 29 (fun o => .if_icmp .eq o) := ⟨12, by decide +kernel, rfl, rfl⟩
theorem dX8_product_20 : q_d cX8_product 20 21 (.aload_n 0) 1 := ⟨by decide +kernel, rfl⟩
theorem dX8_product_21 : q_d cX8_product 21 24 (.invokevirtual 78) 3 := ⟨by decide +kernel, rfl⟩
theorem dX8_product_24 : q_d cX8_product 24 26 (.bipush 47) 2 := ⟨by decide +kernel, rfl⟩
theorem dX8_product_26 : q_j cX8_product 26 29 68 (fun o => .if_icmp .ne o) := ⟨42, by decide +kernel, rfl, rfl⟩
theorem dX8_product_29 : q_d cX8_product 29 30 (.aload_n 0) 1 := ⟨by decide +kernel, rfl⟩
theorem dX8_product_30 : q_d cX8_product 30 33 (.invokevirtual 78) 3 := ⟨by decide +kernel, rfl⟩
theorem dX8_product_33 : q_d cX8_product 33 34 (.istore_n 1) 1 := ⟨by decide +kernel, rfl⟩
theorem dX8_product_34 : q_d cX8_product 34 35 (.aload_n 0) 1 := ⟨by decide +kernel, rfl⟩
theorem dX8_product_35 : q_d cX8_product 35 36 (.dup) 1 := ⟨by decide +kernel, rfl⟩
theorem dX8_product_36 : q_d cX8_product 36 39 (.getfield 65) 3 := ⟨by decide +kernel, rfl⟩
theorem dX8_product_39 : q_d cX8_product 39 40 (.iconst 1) 1 := ⟨by decide +kernel, rfl⟩
theorem dX8_product_40 : q_d cX8_product 40 41 (.iadd) 1 := ⟨by decide +kernel, rfl⟩
theorem dX8_product_41 : q_d cX8_product 41 44 (.putfield 65) 3 := ⟨by decide +kernel, rfl⟩
theorem dX8_product_44 : q_d cX8_product 44 45 (.aload_n 0) 1 := ⟨by decide +kernel, rfl⟩
theorem dX8_product_45 : q_d cX8_product 45 48 (.invokevirtual 210) 3 := ⟨by decide +kernel, rfl⟩
theorem dX8_product_48 : q_d cX8_product 48 49 (.aload_n 0) 1 := ⟨by decide +kernel, rfl⟩
theorem dX8_product_49 : q_d cX8_product 49 50 (.iload_n 1) 1 := ⟨by decide +kernel, rfl⟩
theorem dX8_product_50 : q_d cX8_product 50 52 (.bipush 42) 2 := ⟨by decide +kernel, rfl⟩
theorem dX8_product_52 : q_j cX8_product 52 55 60 (fun o => .if_icmp .ne o) := ⟨8, by decide +kernel, rfl, rfl⟩
theorem dX8_product_55 : q_d cX8_product 55 57 (.bipush 8) 2 := ⟨by decide +kernel, rfl⟩
theorem dX8_product_57 : q_j cX8_product 57 60 62 (fun o => .goto o) := ⟨5, by decide +kernel, rfl, rfl⟩
theorem dX8_product_60 : q_d cX8_product 60 62 (.bipush 9) 2 := ⟨by decide +kernel, rfl⟩
theorem dX8_product_62 : q_d cX8_product 62 65 (.invokevirtual 197) 3 := ⟨by decide +kernel, rfl⟩
theorem dX8_product_65 : q_j cX8_product 65 68 4 (fun o => .goto o) := ⟨(-61), by decide +kernel, rfl, rfl⟩
theorem dX8_product_68 : q_d cX8_product 68 69 (.return_) 1 := ⟨by decide +kernel, rfl⟩
theorem dX8_sum_0 : q_d cX8_sum 0 1 (.aload_n 0) 1 := ⟨by decide +kernel, rfl⟩
theorem dX8_sum_1 : q_d cX8_sum 1 4 (.invokevirtual 217) 3 := ⟨by decide +kernel, rfl⟩
theorem dX8_sum_4 : q_d cX8_sum 4 5 (.aload_n 0) 1 := ⟨by decide +kernel, rfl⟩
theorem dX8_sum_5 : q_d cX8_sum 5 8 (.invokevirtual 95) 3 := ⟨by decide +kernel, rfl⟩
theorem dX8_sum_8 : q_j cX8_sum 8 11 68 (fun o => .ifCond .eq o) := ⟨60, by decide +kernel, rfl, rfl⟩
theorem dX8_sum_11 : q_d cX8_sum 11 12 (.aload_n 0) 1 := ⟨by decide +kernel, rfl⟩
theorem dX8_sum_12 : q_d cX8_sum 12 15 (.invokevirtual 78) 3 := ⟨by decide +kernel, rfl⟩
theorem dX8_sum_15 : q_d cX8_sum 15 17 (.bipush 43) 2 := ⟨by decide +kernel, rfl⟩
theorem dX8_sum_17 : q_j cX8_sum 17 20 29 (fun o => .if_icmp .eq o) := ⟨12, by decide +kernel, rfl, rfl⟩
theorem dX8_sum_20 : q_d cX8_sum 20 21 (.aload_n 0) 1 := ⟨by decide +kernel, rfl⟩
theorem dX8_sum_21 : q_d cX8_sum 21 24 (.invokevirtual 78) 3 := ⟨by decide +kernel, rfl⟩
theorem dX8_sum_24 : q_d cX8_sum 24 26 (.bipush 45) 2 := ⟨by decide +kernel, rfl⟩
theorem dX8_sum_26 : q_j cX8_sum 26 29 68 (fun o => .if_icmp .ne o) := ⟨42, by decide +kernel, rfl, rfl⟩
theorem dX8_sum_29 : q_d cX8_sum 29 30 (.aload_n 0) 1 := ⟨by decide +kernel, rfl⟩
theorem dX8_sum_30 : q_d cX8_sum 30 33 (.invokevirtual 78) 3 := ⟨by decide +kernel, rfl⟩
theorem dX8_sum_33 : q_d cX8_sum 33 34 (.istore_n 1) 1 := ⟨by decide +kernel, rfl⟩
theorem dX8_sum_34 : q_d cX8_sum 34 35 (.aload_n 0) 1 := ⟨by decide +kernel, rfl⟩
theorem dX8_sum_35 : q_d cX8_sum 35 36 (.dup) 1 := ⟨by decide +kernel, rfl⟩
theorem dX8_sum_36 : q_d cX8_sum 36 39 (.getfield 65) 3 := ⟨by decide +kernel, rfl⟩
theorem dX8_sum_39 : q_d cX8_sum 39 40 (.iconst 1) 1 := ⟨by decide +kernel, rfl⟩
theorem dX8_sum_40 : q_d cX8_sum 40 41 (.iadd) 1 := ⟨by decide +kernel, rfl⟩
theorem dX8_sum_41 : q_d cX8_sum 41 44 (.putfield 65) 3 := ⟨by decide +kernel, rfl⟩
theorem dX8_sum_44 : q_d cX8_sum 44 45 (.aload_n 0) 1 := ⟨by decide +kernel, rfl⟩
theorem dX8_sum_45 : q_d cX8_sum 45 48 (.invokevirtual 217) 3 := ⟨by decide +kernel, rfl⟩
theorem dX8_sum_48 : q_d cX8_sum 48 49 (.aload_n 0) 1 := ⟨by decide +kernel, rfl⟩
theorem dX8_sum_49 : q_d cX8_sum 49 50 (.iload_n 1) 1 := ⟨by decide +kernel, rfl⟩
theorem dX8_sum_50 : q_d cX8_sum 50 52 (.bipush 43) 2 := ⟨by decide +kernel, rfl⟩
theorem dX8_sum_52 : q_j cX8_sum 52 55 60 (fun o => .if_icmp .ne o) := ⟨8, by decide +kernel, rfl, rfl⟩
theorem dX8_sum_55 : q_d cX8_sum 55 57 (.bipush 6) 2 := ⟨by decide +kernel, rfl⟩
theorem dX8_sum_57 : q_j cX8_sum 57 60 62 (fun o => .goto o) := ⟨5, by decide +kernel, rfl, rfl⟩
theorem dX8_sum_60 : q_d cX8_sum 60 62 (.bipush 7) 2 := ⟨by decide +kernel, rfl⟩
theorem dX8_sum_62 : q_d cX8_sum 62 65 (.invokevirtual 197) 3 := ⟨by decide +kernel, rfl⟩
theorem dX8_sum_65 : q_j cX8_sum 65 68 4 (fun o => .goto o) := ⟨(-61), by decide +kernel, rfl, rfl⟩
theorem dX8_sum_68 : q_d cX8_sum 68 69 (.return_) 1 := ⟨by decide +kernel, rfl⟩
theorem dX8_readsSleep_0 : q_d cX8_readsSleep 0 1 (.aload_n 0) 1 := ⟨by decide +kernel, rfl⟩
theorem dX8_readsSleep_1 : q_d cX8_readsSleep 1 2 (.iconst 0) 1 := ⟨by decide +kernel, rfl⟩
theorem dX8_readsSleep_2 : q_d cX8_readsSleep 2 3 (.iconst 4) 1 := ⟨by decide +kernel, rfl⟩
theorem dX8_readsSleep_3 : q_d cX8_readsSleep 3 6 (.invokevirtual 220) 3 := ⟨by decide +kernel, rfl⟩
theorem dX8_readsSleep_6 : q_d cX8_readsSleep 6 7 (.istore_n 1) 1 := ⟨by decide +kernel, rfl⟩
theorem dX8_readsSleep_7 : q_d cX8_readsSleep 7 8 (.aload_n 0) 1 := ⟨by decide +kernel, rfl⟩
theorem dX8_readsSleep_8 : q_d cX8_readsSleep 8 11 (.invokevirtual 78) 3 := ⟨by decide +kernel, rfl⟩
theorem dX8_readsSleep_11 : q_d cX8_readsSleep 11 12 (.pop) 1 := ⟨by decide +kernel, rfl⟩
theorem dX8_readsSleep_12 : q_d cX8_readsSleep 12 13 (.aload_n 0) 1 := ⟨by decide +kernel, rfl⟩
theorem dX8_readsSleep_13 : q_d cX8_readsSleep 13 16 (.getfield 65) 3 := ⟨by decide +kernel, rfl⟩
theorem dX8_readsSleep_16 : q_d cX8_readsSleep 16 17 (.istore_n 2) 1 := ⟨by decide +kernel, rfl⟩
theorem dX8_readsSleep_17 : q_d cX8_readsSleep 17 18 (.aload_n 0) 1 := ⟨by decide +kernel, rfl⟩
theorem dX8_readsSleep_18 : q_d cX8_readsSleep 18 21 (.invokevirtual 223) 3 := ⟨by decide +kernel, rfl⟩
theorem dX8_readsSleep_21 : q_d cX8_readsSleep 21 22 (.istore_n 3) 1 := ⟨by decide +kernel, rfl⟩
theorem dX8_readsSleep_22 : q_d cX8_readsSleep 22 23 (.aload_n 0) 1 := ⟨by decide +kernel, rfl⟩
theorem dX8_readsSleep_23 : q_d cX8_readsSleep 23 26 (.invokevirtual 95) 3 := ⟨by decide +kernel, rfl⟩
theorem dX8_readsSleep_26 : q_j cX8_readsSleep 26 29 53 (fun o => .ifCond .eq o) := ⟨27, by decide +kernel, rfl, rfl⟩
theorem dX8_readsSleep_29 : q_d cX8_readsSleep 29 30 (.aload_n 0) 1 := ⟨by decide +kernel, rfl⟩
theorem dX8_readsSleep_30 : q_d cX8_readsSleep 30 33 (.getfield 24) 3 := ⟨by decide +kernel, rfl⟩
theorem dX8_readsSleep_33 : q_d cX8_readsSleep 33 34 (.iload_n 1) 1 := ⟨by decide +kernel, rfl⟩
theorem dX8_readsSleep_34 : q_d cX8_readsSleep 34 35 (.iload_n 3) 1 := ⟨by decide +kernel, rfl⟩
theorem dX8_readsSleep_35 : q_d cX8_readsSleep 35 38 (.invokestatic 226) 3 := ⟨by decide +kernel, rfl⟩
theorem dX8_readsSleep_38 : q_d cX8_readsSleep 38 39 (.iconst 1) 1 := ⟨by decide +kernel, rfl⟩
theorem dX8_readsSleep_39 : q_d cX8_readsSleep 39 40 (.iadd) 1 := ⟨by decide +kernel, rfl⟩
theorem dX8_readsSleep_40 : q_d cX8_readsSleep 40 41 (.laload) 1 := ⟨by decide +kernel, rfl⟩
theorem dX8_readsSleep_41 : q_d cX8_readsSleep 41 42 (.lconst 0) 1 := ⟨by decide +kernel, rfl⟩
theorem dX8_readsSleep_42 : q_d cX8_readsSleep 42 43 (.lcmp) 1 := ⟨by decide +kernel, rfl⟩
theorem dX8_readsSleep_43 : q_j cX8_readsSleep 43 46 53 (fun o => .ifCond .le o) := ⟨10, by decide +kernel, rfl, rfl⟩
theorem dX8_readsSleep_46 : q_d cX8_readsSleep 46 47 (.aload_n 0) 1 := ⟨by decide +kernel, rfl⟩
theorem dX8_readsSleep_47 : q_d cX8_readsSleep 47 49 (.bipush 6) 2 := ⟨by decide +kernel, rfl⟩
theorem dX8_readsSleep_49 : q_d cX8_readsSleep 49 50 (.iload_n 2) 1 := ⟨by decide +kernel, rfl⟩
theorem dX8_readsSleep_50 : q_d cX8_readsSleep 50 53 (.invokevirtual 106) 3 := ⟨by decide +kernel, rfl⟩
theorem dX8_readsSleep_53 : q_d cX8_readsSleep 53 54 (.aload_n 0) 1 := ⟨by decide +kernel, rfl⟩
theorem dX8_readsSleep_54 : q_d cX8_readsSleep 54 57 (.invokevirtual 95) 3 := ⟨by decide +kernel, rfl⟩
theorem dX8_readsSleep_57 : q_j cX8_readsSleep 57 60 61 (fun o => .ifCond .ne o) := ⟨4, by decide +kernel, rfl, rfl⟩
theorem dX8_readsSleep_60 : q_d cX8_readsSleep 60 61 (.return_) 1 := ⟨by decide +kernel, rfl⟩
theorem dX8_readsSleep_61 : q_d cX8_readsSleep 61 62 (.aload_n 0) 1 := ⟨by decide +kernel, rfl⟩
theorem dX8_readsSleep_62 : q_d cX8_readsSleep 62 65 (.getfield 190) 3 := ⟨by decide +kernel, rfl⟩
theorem dX8_readsSleep_65 : q_d cX8_readsSleep 65 67 (.istore 4) 2 := ⟨by decide +kernel, rfl⟩
theorem dX8_readsSleep_67 : q_d cX8_readsSleep 67 68 (.aload_n 0) 1 := ⟨by decide +kernel, rfl⟩
theorem dX8_readsSleep_68 : q_d cX8_readsSleep 68 69 (.iconst 0) 1 := ⟨by decide +kernel, rfl⟩
theorem dX8_readsSleep_69 : q_d cX8_readsSleep 69 72 (.putfield 193) 3 := ⟨by decide +kernel, rfl⟩
theorem dX8_readsSleep_72 : q_d cX8_readsSleep 72 73 (.aload_n 0) 1 := ⟨by decide +kernel, rfl⟩
theorem dX8_readsSleep_73 : q_d cX8_readsSleep 73 76 (.invokevirtual 207) 3 := ⟨by decide +kernel, rfl⟩
theorem dX8_readsSleep_76 : q_d cX8_readsSleep 76 77 (.aload_n 0) 1 := ⟨by decide +kernel, rfl⟩
theorem dX8_readsSleep_77 : q_d cX8_readsSleep 77 80 (.invokevirtual 95) 3 := ⟨by decide +kernel, rfl⟩
theorem dX8_readsSleep_80 : q_j cX8_readsSleep 80 83 84 (fun o => .ifCond .ne o) := ⟨4, by decide +kernel, rfl, rfl⟩
theorem dX8_readsSleep_83 : q_d cX8_readsSleep 83 84 (.return_) 1 := ⟨by decide +kernel, rfl⟩
theorem dX8_readsSleep_84 : q_d cX8_readsSleep 84 85 (.aload_n 0) 1 := ⟨by decide +kernel, rfl⟩
theorem dX8_readsSleep_85 : q_d cX8_readsSleep 85 88 (.getfield 24) 3 := ⟨by decide +kernel, rfl⟩
theorem dX8_readsSleep_88 : q_d cX8_readsSleep 88 89 (.iload_n 1) 1 := ⟨by decide +kernel, rfl⟩
theorem dX8_readsSleep_89 : q_d cX8_readsSleep 89 90 (.iload_n 3) 1 := ⟨by decide +kernel, rfl⟩
theorem dX8_readsSleep_90 : q_d cX8_readsSleep 90 93 (.invokestatic 226) 3 := ⟨by decide +kernel, rfl⟩
theorem dX8_readsSleep_93 : q_d cX8_readsSleep 93 95 (.iload 4) 2 := ⟨by decide +kernel, rfl⟩
theorem dX8_readsSleep_95 : q_d cX8_readsSleep 95 96 (.i2l) 1 := ⟨by decide +kernel, rfl⟩
theorem dX8_readsSleep_96 : q_d cX8_readsSleep 96 97 (.lastore) 1 := ⟨by decide +kernel, rfl⟩
theorem dX8_readsSleep_97 : q_d cX8_readsSleep 97 98 (.aload_n 0) 1 := ⟨by decide +kernel, rfl⟩
theorem dX8_readsSleep_98 : q_d cX8_readsSleep 98 101 (.getfield 24) 3 := ⟨by decide +kernel, rfl⟩
theorem dX8_readsSleep_101 : q_d cX8_readsSleep 101 102 (.iload_n 1) 1 := ⟨by decide +kernel, rfl⟩
theorem dX8_readsSleep_102 : q_d cX8_readsSleep 102 103 (.iload_n 3) 1 := ⟨by decide +kernel, rfl⟩
theorem dX8_readsSleep_103 : q_d cX8_readsSleep 103 106 (.invokestatic 226) 3 := ⟨by decide +kernel, rfl⟩
theorem dX8_readsSleep_106 : q_d cX8_readsSleep 106 107 (.iconst 1) 1 := ⟨by decide +kernel, rfl⟩
theorem dX8_readsSleep_107 : q_d cX8_readsSleep 107 108 (.iadd) 1 := ⟨by decide +kernel, rfl⟩
theorem dX8_readsSleep_108 : q_d cX8_readsSleep 108 109 (.aload_n 0) 1 := ⟨by decide +kernel, rfl⟩
theorem dX8_readsSleep_109 : q_d cX8_readsSleep 109 112 (.getfield 190) 3 := ⟨by decide +kernel, rfl⟩
theorem dX8_readsSleep_112 : q_d cX8_readsSleep 112 113 (.i2l) 1 := ⟨by decide +kernel, rfl⟩
theorem dX8_readsSleep_113 : q_d cX8_readsSleep 113 114 (.lastore) 1 := ⟨by decide +kernel, rfl⟩
theorem dX8_readsSleep_114 : q_d cX8_readsSleep 114 115 (.return_) 1 := ⟨by decide +kernel, rfl⟩
theorem dX8_readsPays_0 : q_d cX8_readsPays 0 1 (.aload_n 0) 1 := ⟨by decide +kernel, rfl⟩
theorem dX8_readsPays_1 : q_d cX8_readsPays 1 4 (.invokevirtual 78) 3 := ⟨by decide +kernel, rfl⟩
theorem dX8_readsPays_4 : q_d cX8_readsPays 4 5 (.pop) 1 := ⟨by decide +kernel, rfl⟩
theorem dX8_readsPays_5 : q_d cX8_readsPays 5 6 (.aload_n 0) 1 := ⟨by decide +kernel, rfl⟩
theorem dX8_readsPays_6 : q_d cX8_readsPays 6 9 (.getfield 65) 3 := ⟨by decide +kernel, rfl⟩
theorem dX8_readsPays_9 : q_d cX8_readsPays 9 10 (.istore_n 1) 1 := ⟨by decide +kernel, rfl⟩
theorem dX8_readsPays_10 : q_d cX8_readsPays 10 11 (.aload_n 0) 1 := ⟨by decide +kernel, rfl⟩
theorem dX8_readsPays_11 : q_d cX8_readsPays 11 12 (.iconst 0) 1 := ⟨by decide +kernel, rfl⟩
theorem dX8_readsPays_12 : q_d cX8_readsPays 12 13 (.iconst 4) 1 := ⟨by decide +kernel, rfl⟩
theorem dX8_readsPays_13 : q_d cX8_readsPays 13 16 (.invokevirtual 220) 3 := ⟨by decide +kernel, rfl⟩
theorem dX8_readsPays_16 : q_d cX8_readsPays 16 17 (.istore_n 2) 1 := ⟨by decide +kernel, rfl⟩
theorem dX8_readsPays_17 : q_d cX8_readsPays 17 18 (.aload_n 0) 1 := ⟨by decide +kernel, rfl⟩
theorem dX8_readsPays_18 : q_d cX8_readsPays 18 21 (.invokevirtual 95) 3 := ⟨by decide +kernel, rfl⟩
theorem dX8_readsPays_21 : q_j cX8_readsPays 21 24 43 (fun o => .ifCond .eq o) := ⟨22, by decide +kernel, rfl, rfl⟩
theorem dX8_readsPays_24 : q_d cX8_readsPays 24 25 (.aload_n 0) 1 := ⟨by decide +kernel, rfl⟩
theorem dX8_readsPays_25 : q_d cX8_readsPays 25 28 (.getfield 229) 3 := ⟨by decide +kernel, rfl⟩
theorem dX8_readsPays_28 : q_d cX8_readsPays 28 29 (.iload_n 2) 1 := ⟨by decide +kernel, rfl⟩
theorem dX8_readsPays_29 : q_d cX8_readsPays 29 30 (.ishr) 1 := ⟨by decide +kernel, rfl⟩
theorem dX8_readsPays_30 : q_d cX8_readsPays 30 31 (.iconst 1) 1 := ⟨by decide +kernel, rfl⟩
theorem dX8_readsPays_31 : q_d cX8_readsPays 31 32 (.iand) 1 := ⟨by decide +kernel, rfl⟩
theorem dX8_readsPays_32 : q_d cX8_readsPays 32 33 (.iconst 1) 1 := ⟨by decide +kernel, rfl⟩
theorem dX8_readsPays_33 : q_j cX8_readsPays 33 36 43 (fun o => .if_icmp .ne o) := ⟨10, by decide +kernel, rfl, rfl⟩
theorem dX8_readsPays_36 : q_d cX8_readsPays 36 37 (.aload_n 0) 1 := ⟨by decide +kernel, rfl⟩
theorem dX8_readsPays_37 : q_d cX8_readsPays 37 39 (.bipush 6) 2 := ⟨by decide +kernel, rfl⟩
theorem dX8_readsPays_39 : q_d cX8_readsPays 39 40 (.iload_n 1) 1 := ⟨by decide +kernel, rfl⟩
theorem dX8_readsPays_40 : q_d cX8_readsPays 40 43 (.invokevirtual 106) 3 := ⟨by decide +kernel, rfl⟩
theorem dX8_readsPays_43 : q_d cX8_readsPays 43 44 (.aload_n 0) 1 := ⟨by decide +kernel, rfl⟩
theorem dX8_readsPays_44 : q_d cX8_readsPays 44 45 (.iconst 0) 1 := ⟨by decide +kernel, rfl⟩
theorem dX8_readsPays_45 : q_d cX8_readsPays 45 48 (.sipush 999) 3 := ⟨by decide +kernel, rfl⟩
theorem dX8_readsPays_48 : q_d cX8_readsPays 48 51 (.invokevirtual 187) 3 := ⟨by decide +kernel, rfl⟩
theorem dX8_readsPays_51 : q_d cX8_readsPays 51 52 (.istore_n 3) 1 := ⟨by decide +kernel, rfl⟩
theorem dX8_readsPays_52 : q_d cX8_readsPays 52 53 (.aload_n 0) 1 := ⟨by decide +kernel, rfl⟩
theorem dX8_readsPays_53 : q_d cX8_readsPays 53 56 (.invokevirtual 95) 3 := ⟨by decide +kernel, rfl⟩
theorem dX8_readsPays_56 : q_j cX8_readsPays 56 59 60 (fun o => .ifCond .ne o) := ⟨4, by decide +kernel, rfl, rfl⟩
theorem dX8_readsPays_59 : q_d cX8_readsPays 59 60 (.return_) 1 := ⟨by decide +kernel, rfl⟩
theorem dX8_readsPays_60 : q_d cX8_readsPays 60 61 (.aload_n 0) 1 := ⟨by decide +kernel, rfl⟩
theorem dX8_readsPays_61 : q_d cX8_readsPays 61 62 (.dup) 1 := ⟨by decide +kernel, rfl⟩
theorem dX8_readsPays_62 : q_d cX8_readsPays 62 65 (.getfield 229) 3 := ⟨by decide +kernel, rfl⟩
theorem dX8_readsPays_65 : q_d cX8_readsPays 65 66 (.iconst 1) 1 := ⟨by decide +kernel, rfl⟩
theorem dX8_readsPays_66 : q_d cX8_readsPays 66 67 (.iload_n 2) 1 := ⟨by decide +kernel, rfl⟩
theorem dX8_readsPays_67 : q_d cX8_readsPays 67 68 (.ishl) 1 := ⟨by decide +kernel, rfl⟩
theorem dX8_readsPays_68 : q_d cX8_readsPays 68 69 (.ior) 1 := ⟨by decide +kernel, rfl⟩
theorem dX8_readsPays_69 : q_d cX8_readsPays 69 72 (.putfield 229) 3 := ⟨by decide +kernel, rfl⟩
theorem dX8_readsPays_72 : q_d cX8_readsPays 72 73 (.aload_n 0) 1 := ⟨by decide +kernel, rfl⟩
theorem dX8_readsPays_73 : q_d cX8_readsPays 73 76 (.getfield 24) 3 := ⟨by decide +kernel, rfl⟩
theorem dX8_readsPays_76 : q_d cX8_readsPays 76 78 (.bipush 12) 2 := ⟨by decide +kernel, rfl⟩
theorem dX8_readsPays_78 : q_d cX8_readsPays 78 79 (.iload_n 2) 1 := ⟨by decide +kernel, rfl⟩
theorem dX8_readsPays_79 : q_d cX8_readsPays 79 80 (.iadd) 1 := ⟨by decide +kernel, rfl⟩
theorem dX8_readsPays_80 : q_d cX8_readsPays 80 81 (.iload_n 3) 1 := ⟨by decide +kernel, rfl⟩
theorem dX8_readsPays_81 : q_d cX8_readsPays 81 82 (.i2l) 1 := ⟨by decide +kernel, rfl⟩
theorem dX8_readsPays_82 : q_d cX8_readsPays 82 83 (.lastore) 1 := ⟨by decide +kernel, rfl⟩
theorem dX8_readsPays_83 : q_d cX8_readsPays 83 84 (.return_) 1 := ⟨by decide +kernel, rfl⟩
theorem dX8_readsOrder_0 : q_d cX8_readsOrder 0 1 (.iconst 0) 1 := ⟨by decide +kernel, rfl⟩
theorem dX8_readsOrder_1 : q_d cX8_readsOrder 1 2 (.istore_n 1) 1 := ⟨by decide +kernel, rfl⟩
theorem dX8_readsOrder_2 : q_d cX8_readsOrder 2 3 (.iconst 0) 1 := ⟨by decide +kernel, rfl⟩
theorem dX8_readsOrder_3 : q_d cX8_readsOrder 3 4 (.istore_n 2) 1 := ⟨by decide +kernel, rfl⟩
theorem dX8_readsOrder_4 : q_d cX8_readsOrder 4 5 (.iconst 1) 1 := ⟨by decide +kernel, rfl⟩
theorem dX8_readsOrder_5 : q_d cX8_readsOrder 5 6 (.istore_n 3) 1 := ⟨by decide +kernel, rfl⟩
theorem dX8_readsOrder_6 : q_d cX8_readsOrder 6 7 (.iload_n 3) 1 := ⟨by decide +kernel, rfl⟩
theorem dX8_readsOrder_7 : q_j cX8_readsOrder 7 10 102 (fun o => .ifCond .eq o) := ⟨95, by decide +kernel, rfl, rfl⟩
theorem dX8_readsOrder_10 : q_d cX8_readsOrder 10 11 (.aload_n 0) 1 := ⟨by decide +kernel, rfl⟩
theorem dX8_readsOrder_11 : q_d cX8_readsOrder 11 14 (.invokevirtual 95) 3 := ⟨by decide +kernel, rfl⟩
theorem dX8_readsOrder_14 : q_j cX8_readsOrder 14 17 102 (fun o => .ifCond .eq o) := ⟨88, by decide +kernel, rfl, rfl⟩
theorem dX8_readsOrder_17 : q_d cX8_readsOrder 17 18 (.aload_n 0) 1 := ⟨by decide +kernel, rfl⟩
theorem dX8_readsOrder_18 : q_d cX8_readsOrder 18 21 (.invokevirtual 78) 3 := ⟨by decide +kernel, rfl⟩
theorem dX8_readsOrder_21 : q_d cX8_readsOrder 21 22 (.pop) 1 := ⟨by decide +kernel, rfl⟩
theorem dX8_readsOrder_22 : q_d cX8_readsOrder 22 23 (.aload_n 0) 1 := ⟨by decide +kernel, rfl⟩
theorem dX8_readsOrder_23 : q_d cX8_readsOrder 23 26 (.getfield 65) 3 := ⟨by decide +kernel, rfl⟩
theorem dX8_readsOrder_26 : q_d cX8_readsOrder 26 28 (.istore 4) 2 := ⟨by decide +kernel, rfl⟩
theorem dX8_readsOrder_28 : q_d cX8_readsOrder 28 29 (.aload_n 0) 1 := ⟨by decide +kernel, rfl⟩
theorem dX8_readsOrder_29 : q_d cX8_readsOrder 29 30 (.iconst 5) 1 := ⟨by decide +kernel, rfl⟩
theorem dX8_readsOrder_30 : q_d cX8_readsOrder 30 32 (.bipush 7) 2 := ⟨by decide +kernel, rfl⟩
theorem dX8_readsOrder_32 : q_d cX8_readsOrder 32 35 (.invokevirtual 220) 3 := ⟨by decide +kernel, rfl⟩
theorem dX8_readsOrder_35 : q_d cX8_readsOrder 35 37 (.istore 5) 2 := ⟨by decide +kernel, rfl⟩
theorem dX8_readsOrder_37 : q_d cX8_readsOrder 37 38 (.aload_n 0) 1 := ⟨by decide +kernel, rfl⟩
theorem dX8_readsOrder_38 : q_d cX8_readsOrder 38 41 (.invokevirtual 95) 3 := ⟨by decide +kernel, rfl⟩
theorem dX8_readsOrder_41 : q_j cX8_readsOrder 41 44 61 (fun o => .ifCond .eq o) := ⟨20, by decide +kernel, rfl, rfl⟩
theorem dX8_readsOrder_44 : q_d cX8_readsOrder 44 45 (.iload_n 2) 1 := ⟨by decide +kernel, rfl⟩
theorem dX8_readsOrder_45 : q_d cX8_readsOrder 45 47 (.iload 5) 2 := ⟨by decide +kernel, rfl⟩
theorem dX8_readsOrder_47 : q_d cX8_readsOrder 47 48 (.ishr) 1 := ⟨by decide +kernel, rfl⟩
theorem dX8_readsOrder_48 : q_d cX8_readsOrder 48 49 (.iconst 1) 1 := ⟨by decide +kernel, rfl⟩
theorem dX8_readsOrder_49 : q_d cX8_readsOrder 49 50 (.iand) 1 := ⟨by decide +kernel, rfl⟩
theorem dX8_readsOrder_50 : q_d cX8_readsOrder 50 51 (.iconst 1) 1 := ⟨by decide +kernel, rfl⟩
theorem dX8_readsOrder_51 : q_j cX8_readsOrder 51 54 61 (fun o => .if_icmp .ne o) := ⟨10, by decide +kernel, rfl, rfl⟩
theorem dX8_readsOrder_54 : q_d cX8_readsOrder 54 55 (.aload_n 0) 1 := ⟨by decide +kernel, rfl⟩
theorem dX8_readsOrder_55 : q_d cX8_readsOrder 55 56 (.iconst 1) 1 := ⟨by decide +kernel, rfl⟩
theorem dX8_readsOrder_56 : q_d cX8_readsOrder 56 58 (.iload 4) 2 := ⟨by decide +kernel, rfl⟩
theorem dX8_readsOrder_58 : q_d cX8_readsOrder 58 61 (.invokevirtual 106) 3 := ⟨by decide +kernel, rfl⟩
theorem dX8_readsOrder_61 : q_d cX8_readsOrder 61 62 (.aload_n 0) 1 := ⟨by decide +kernel, rfl⟩
theorem dX8_readsOrder_62 : q_d cX8_readsOrder 62 65 (.invokevirtual 95) 3 := ⟨by decide +kernel, rfl⟩
theorem dX8_readsOrder_65 : q_j cX8_readsOrder 65 68 69 (fun o => .ifCond .ne o) := ⟨4, by decide +kernel, rfl, rfl⟩
theorem dX8_readsOrder_68 : q_d cX8_readsOrder 68 69 (.return_) 1 := ⟨by decide +kernel, rfl⟩
theorem dX8_readsOrder_69 : q_d cX8_readsOrder 69 70 (.iload_n 2) 1 := ⟨by decide +kernel, rfl⟩
theorem dX8_readsOrder_70 : q_d cX8_readsOrder 70 71 (.iconst 1) 1 := ⟨by decide +kernel, rfl⟩
theorem dX8_readsOrder_71 : q_d cX8_readsOrder 71 73 (.iload 5) 2 := ⟨by decide +kernel, rfl⟩
theorem dX8_readsOrder_73 : q_d cX8_readsOrder 73 74 (.ishl) 1 := ⟨by decide +kernel, rfl⟩
theorem dX8_readsOrder_74 : q_d cX8_readsOrder 74 75 (.ior) 1 := ⟨by decide +kernel, rfl⟩
theorem dX8_readsOrder_75 : q_d cX8_readsOrder 75 76 (.istore_n 2) 1 := ⟨by decide +kernel, rfl⟩
theorem dX8_readsOrder_76 : q_d cX8_readsOrder 76 77 (.aload_n 0) 1 := ⟨by decide +kernel, rfl⟩
theorem dX8_readsOrder_77 : q_d cX8_readsOrder 77 80 (.getfield 24) 3 := ⟨by decide +kernel, rfl⟩
theorem dX8_readsOrder_80 : q_d cX8_readsOrder 80 82 (.bipush 9) 2 := ⟨by decide +kernel, rfl⟩
theorem dX8_readsOrder_82 : q_d cX8_readsOrder 82 83 (.iload_n 1) 1 := ⟨by decide +kernel, rfl⟩
theorem dX8_readsOrder_83 : q_d cX8_readsOrder 83 84 (.iadd) 1 := ⟨by decide +kernel, rfl⟩
theorem dX8_readsOrder_84 : q_d cX8_readsOrder 84 86 (.iload 5) 2 := ⟨by decide +kernel, rfl⟩
theorem dX8_readsOrder_86 : q_d cX8_readsOrder 86 87 (.i2l) 1 := ⟨by decide +kernel, rfl⟩
theorem dX8_readsOrder_87 : q_d cX8_readsOrder 87 88 (.lastore) 1 := ⟨by decide +kernel, rfl⟩
theorem dX8_readsOrder_88 : q_d cX8_readsOrder 88 91 (.iinc 1 1) 3 := ⟨by decide +kernel, rfl⟩
theorem dX8_readsOrder_91 : q_d cX8_readsOrder 91 92 (.aload_n 0) 1 := ⟨by decide +kernel, rfl⟩
theorem dX8_readsOrder_92 : q_d cX8_readsOrder 92 95 (.invokevirtual 78) 3 := ⟨by decide +kernel, rfl⟩
theorem dX8_readsOrder_95 : q_d cX8_readsOrder 95 98 (.invokestatic 91) 3 := ⟨by decide +kernel, rfl⟩
theorem dX8_readsOrder_98 : q_d cX8_readsOrder 98 99 (.istore_n 3) 1 := ⟨by decide +kernel, rfl⟩
theorem dX8_readsOrder_99 : q_j cX8_readsOrder 99 102 6 (fun o => .goto o) := ⟨(-93), by decide +kernel, rfl, rfl⟩
theorem dX8_readsOrder_102 : q_d cX8_readsOrder 102 103 (.aload_n 0) 1 := ⟨by decide +kernel, rfl⟩
theorem dX8_readsOrder_103 : q_d cX8_readsOrder 103 106 (.getfield 24) 3 := ⟨by decide +kernel, rfl⟩
theorem dX8_readsOrder_106 : q_d cX8_readsOrder 106 108 (.bipush 8) 2 := ⟨by decide +kernel, rfl⟩
theorem dX8_readsOrder_108 : q_d cX8_readsOrder 108 109 (.iload_n 1) 1 := ⟨by decide +kernel, rfl⟩
theorem dX8_readsOrder_109 : q_d cX8_readsOrder 109 110 (.i2l) 1 := ⟨by decide +kernel, rfl⟩
theorem dX8_readsOrder_110 : q_d cX8_readsOrder 110 111 (.lastore) 1 := ⟨by decide +kernel, rfl⟩
theorem dX8_readsOrder_111 : q_d cX8_readsOrder 111 112 (.return_) 1 := ⟨by decide +kernel, rfl⟩
theorem dX8_isOnce_0 : q_d cX8_isOnce 0 1 (.aload_n 0) 1 := ⟨by decide +kernel, rfl⟩
theorem dX8_isOnce_1 : q_d cX8_isOnce 1 2 (.aload_n 1) 1 := ⟨by decide +kernel, rfl⟩
theorem dX8_isOnce_2 : q_d cX8_isOnce 2 5 (.invokevirtual 99) 3 := ⟨by decide +kernel, rfl⟩
theorem dX8_isOnce_5 : q_j cX8_isOnce 5 8 20 (fun o => .ifCond .eq o) := ⟨15, by decide +kernel, rfl, rfl⟩
theorem dX8_isOnce_8 : q_d cX8_isOnce 8 9 (.aload_n 0) 1 := ⟨by decide +kernel, rfl⟩
theorem dX8_isOnce_9 : q_d cX8_isOnce 9 12 (.getfield 232) 3 := ⟨by decide +kernel, rfl⟩
theorem dX8_isOnce_12 : q_d cX8_isOnce 12 13 (.iload_n 2) 1 := ⟨by decide +kernel, rfl⟩
theorem dX8_isOnce_13 : q_d cX8_isOnce 13 14 (.ishr) 1 := ⟨by decide +kernel, rfl⟩
theorem dX8_isOnce_14 : q_d cX8_isOnce 14 15 (.iconst 1) 1 := ⟨by decide +kernel, rfl⟩
theorem dX8_isOnce_15 : q_d cX8_isOnce 15 16 (.iand) 1 := ⟨by decide +kernel, rfl⟩
theorem dX8_isOnce_16 : q_d cX8_isOnce 16 17 (.iconst 1) 1 := ⟨by decide +kernel, rfl⟩
theorem dX8_isOnce_17 : q_j cX8_isOnce 17 20 22 (fun o => .if_icmp .ne o) := ⟨5, by decide +kernel, rfl, rfl⟩
theorem dX8_isOnce_20 : q_d cX8_isOnce 20 21 (.iconst 0) 1 := ⟨by decide +kernel, rfl⟩
theorem dX8_isOnce_21 : q_d cX8_isOnce 21 22 (.ireturn) 1 := ⟨by decide +kernel, rfl⟩
theorem dX8_isOnce_22 : q_d cX8_isOnce 22 23 (.aload_n 0) 1 := ⟨by decide +kernel, rfl⟩
theorem dX8_isOnce_23 : q_d cX8_isOnce 23 24 (.dup) 1 := ⟨by decide +kernel, rfl⟩
theorem dX8_isOnce_24 : q_d cX8_isOnce 24 27 (.getfield 232) 3 := ⟨by decide +kernel, rfl⟩
theorem dX8_isOnce_27 : q_d cX8_isOnce 27 28 (.iconst 1) 1 := ⟨by decide +kernel, rfl⟩
theorem dX8_isOnce_28 : q_d cX8_isOnce 28 29 (.iload_n 2) 1 := ⟨by decide +kernel, rfl⟩
theorem dX8_isOnce_29 : q_d cX8_isOnce 29 30 (.ishl) 1 := ⟨by decide +kernel, rfl⟩
theorem dX8_isOnce_30 : q_d cX8_isOnce 30 31 (.ior) 1 := ⟨by decide +kernel, rfl⟩
theorem dX8_isOnce_31 : q_d cX8_isOnce 31 34 (.putfield 232) 3 := ⟨by decide +kernel, rfl⟩
theorem dX8_isOnce_34 : q_d cX8_isOnce 34 35 (.aload_n 0) 1 := ⟨by decide +kernel, rfl⟩
theorem dX8_isOnce_35 : q_d cX8_isOnce 35 36 (.aload_n 1) 1 := ⟨by decide +kernel, rfl⟩
theorem dX8_isOnce_36 : q_d cX8_isOnce 36 39 (.invokevirtual 103) 3 := ⟨by decide +kernel, rfl⟩
theorem dX8_isOnce_39 : q_d cX8_isOnce 39 40 (.ireturn) 1 := ⟨by decide +kernel, rfl⟩
theorem dX8_readsLine_0 : q_d cX8_readsLine 0 1 (.aload_n 0) 1 := ⟨by decide +kernel, rfl⟩
theorem dX8_readsLine_1 : q_d cX8_readsLine 1 4 (.invokevirtual 78) 3 := ⟨by decide +kernel, rfl⟩
theorem dX8_readsLine_4 : q_d cX8_readsLine 4 5 (.pop) 1 := ⟨by decide +kernel, rfl⟩
theorem dX8_readsLine_5 : q_d cX8_readsLine 5 6 (.aload_n 0) 1 := ⟨by decide +kernel, rfl⟩
theorem dX8_readsLine_6 : q_d cX8_readsLine 6 9 (.getfield 65) 3 := ⟨by decide +kernel, rfl⟩
theorem dX8_readsLine_9 : q_d cX8_readsLine 9 10 (.istore_n 1) 1 := ⟨by decide +kernel, rfl⟩
theorem dX8_readsLine_10 : q_d cX8_readsLine 10 11 (.aload_n 0) 1 := ⟨by decide +kernel, rfl⟩
theorem dX8_readsLine_11 : q_d cX8_readsLine 11 13 (.ldc 151) 2 := ⟨by decide +kernel, rfl⟩
theorem dX8_readsLine_13 : q_d cX8_readsLine 13 16 (.invokevirtual 103) 3 := ⟨by decide +kernel, rfl⟩
theorem dX8_readsLine_16 : q_j cX8_readsLine 16 19 27 (fun o => .ifCond .eq o) := ⟨11, by decide +kernel, rfl, rfl⟩
theorem dX8_readsLine_19 : q_d cX8_readsLine 19 20 (.aload_n 0) 1 := ⟨by decide +kernel, rfl⟩
theorem dX8_readsLine_20 : q_d cX8_readsLine 20 21 (.iload_n 1) 1 := ⟨by decide +kernel, rfl⟩
theorem dX8_readsLine_21 : q_d cX8_readsLine 21 24 (.invokevirtual 235) 3 := ⟨by decide +kernel, rfl⟩
theorem dX8_readsLine_24 : q_j cX8_readsLine 24 27 161 (fun o => .goto o) := ⟨137, by decide +kernel, rfl, rfl⟩
theorem dX8_readsLine_27 : q_d cX8_readsLine 27 28 (.aload_n 0) 1 := ⟨by decide +kernel, rfl⟩
theorem dX8_readsLine_28 : q_d cX8_readsLine 28 30 (.ldc 153) 2 := ⟨by decide +kernel, rfl⟩
theorem dX8_readsLine_30 : q_d cX8_readsLine 30 33 (.invokevirtual 103) 3 := ⟨by decide +kernel, rfl⟩
theorem dX8_readsLine_33 : q_j cX8_readsLine 33 36 43 (fun o => .ifCond .eq o) := ⟨10, by decide +kernel, rfl, rfl⟩
theorem dX8_readsLine_36 : q_d cX8_readsLine 36 37 (.aload_n 0) 1 := ⟨by decide +kernel, rfl⟩
theorem dX8_readsLine_37 : q_d cX8_readsLine 37 40 (.invokevirtual 238) 3 := ⟨by decide +kernel, rfl⟩
theorem dX8_readsLine_40 : q_j cX8_readsLine 40 43 161 (fun o => .goto o) := ⟨121, by decide +kernel, rfl, rfl⟩
theorem dX8_readsLine_43 : q_d cX8_readsLine 43 44 (.aload_n 0) 1 := ⟨by decide +kernel, rfl⟩
theorem dX8_readsLine_44 : q_d cX8_readsLine 44 46 (.ldc 155) 2 := ⟨by decide +kernel, rfl⟩
theorem dX8_readsLine_46 : q_d cX8_readsLine 46 49 (.invokevirtual 103) 3 := ⟨by decide +kernel, rfl⟩
theorem dX8_readsLine_49 : q_j cX8_readsLine 49 52 59 (fun o => .ifCond .eq o) := ⟨10, by decide +kernel, rfl, rfl⟩
theorem dX8_readsLine_52 : q_d cX8_readsLine 52 53 (.aload_n 0) 1 := ⟨by decide +kernel, rfl⟩
theorem dX8_readsLine_53 : q_d cX8_readsLine 53 56 (.invokevirtual 241) 3 := ⟨by decide +kernel, rfl⟩
theorem dX8_readsLine_56 : q_j cX8_readsLine 56 59 161 (fun o => .goto o) := ⟨105, by decide +kernel, rfl, rfl⟩
theorem dX8_readsLine_59 : q_d cX8_readsLine 59 60 (.aload_n 0) 1 := ⟨by decide +kernel, rfl⟩
theorem dX8_readsLine_60 : q_d cX8_readsLine 60 62 (.ldc 157) 2 := ⟨by decide +kernel, rfl⟩
theorem dX8_readsLine_62 : q_d cX8_readsLine 62 63 (.iconst 0) 1 := ⟨by decide +kernel, rfl⟩
theorem dX8_readsLine_63 : q_d cX8_readsLine 63 66 (.invokevirtual 244) 3 := ⟨by decide +kernel, rfl⟩
theorem dX8_readsLine_66 : q_j cX8_readsLine 66 69 86 (fun o => .ifCond .eq o) := ⟨20, by decide +kernel, rfl, rfl⟩
theorem dX8_readsLine_69 : q_d cX8_readsLine 69 70 (.aload_n 0) 1 := ⟨by decide +kernel, rfl⟩
theorem dX8_readsLine_70 : q_d cX8_readsLine 70 73 (.getfield 24) 3 := ⟨by decide +kernel, rfl⟩
theorem dX8_readsLine_73 : q_d cX8_readsLine 73 74 (.iconst 3) 1 := ⟨by decide +kernel, rfl⟩
theorem dX8_readsLine_74 : q_d cX8_readsLine 74 75 (.aload_n 0) 1 := ⟨by decide +kernel, rfl⟩
theorem dX8_readsLine_75 : q_d cX8_readsLine 75 76 (.iconst 0) 1 := ⟨by decide +kernel, rfl⟩
theorem dX8_readsLine_76 : q_d cX8_readsLine 76 78 (.bipush 60) 2 := ⟨by decide +kernel, rfl⟩
theorem dX8_readsLine_78 : q_d cX8_readsLine 78 81 (.invokevirtual 187) 3 := ⟨by decide +kernel, rfl⟩
theorem dX8_readsLine_81 : q_d cX8_readsLine 81 82 (.i2l) 1 := ⟨by decide +kernel, rfl⟩
theorem dX8_readsLine_82 : q_d cX8_readsLine 82 83 (.lastore) 1 := ⟨by decide +kernel, rfl⟩
theorem dX8_readsLine_83 : q_j cX8_readsLine 83 86 161 (fun o => .goto o) := ⟨78, by decide +kernel, rfl, rfl⟩
theorem dX8_readsLine_86 : q_d cX8_readsLine 86 87 (.aload_n 0) 1 := ⟨by decide +kernel, rfl⟩
theorem dX8_readsLine_87 : q_d cX8_readsLine 87 89 (.ldc 159) 2 := ⟨by decide +kernel, rfl⟩
theorem dX8_readsLine_89 : q_d cX8_readsLine 89 90 (.iconst 1) 1 := ⟨by decide +kernel, rfl⟩
theorem dX8_readsLine_90 : q_d cX8_readsLine 90 93 (.invokevirtual 244) 3 := ⟨by decide +kernel, rfl⟩
theorem dX8_readsLine_93 : q_j cX8_readsLine 93 96 114 (fun o => .ifCond .eq o) := ⟨21, by decide +kernel, rfl, rfl⟩
theorem dX8_readsLine_96 : q_d cX8_readsLine 96 97 (.aload_n 0) 1 := ⟨by decide +kernel, rfl⟩
theorem dX8_readsLine_97 : q_d cX8_readsLine 97 100 (.getfield 24) 3 := ⟨by decide +kernel, rfl⟩
theorem dX8_readsLine_100 : q_d cX8_readsLine 100 101 (.iconst 4) 1 := ⟨by decide +kernel, rfl⟩
theorem dX8_readsLine_101 : q_d cX8_readsLine 101 102 (.aload_n 0) 1 := ⟨by decide +kernel, rfl⟩
theorem dX8_readsLine_102 : q_d cX8_readsLine 102 103 (.iconst 0) 1 := ⟨by decide +kernel, rfl⟩
theorem dX8_readsLine_103 : q_d cX8_readsLine 103 106 (.sipush 999) 3 := ⟨by decide +kernel, rfl⟩
theorem dX8_readsLine_106 : q_d cX8_readsLine 106 109 (.invokevirtual 187) 3 := ⟨by decide +kernel, rfl⟩
theorem dX8_readsLine_109 : q_d cX8_readsLine 109 110 (.i2l) 1 := ⟨by decide +kernel, rfl⟩
theorem dX8_readsLine_110 : q_d cX8_readsLine 110 111 (.lastore) 1 := ⟨by decide +kernel, rfl⟩
theorem dX8_readsLine_111 : q_j cX8_readsLine 111 114 161 (fun o => .goto o) := ⟨50, by decide +kernel, rfl, rfl⟩
theorem dX8_readsLine_114 : q_d cX8_readsLine 114 115 (.aload_n 0) 1 := ⟨by decide +kernel, rfl⟩
theorem dX8_readsLine_115 : q_d cX8_readsLine 115 117 (.ldc 141) 2 := ⟨by decide +kernel, rfl⟩
theorem dX8_readsLine_117 : q_d cX8_readsLine 117 118 (.iconst 2) 1 := ⟨by decide +kernel, rfl⟩
theorem dX8_readsLine_118 : q_d cX8_readsLine 118 121 (.invokevirtual 244) 3 := ⟨by decide +kernel, rfl⟩
theorem dX8_readsLine_121 : q_j cX8_readsLine 121 124 138 (fun o => .ifCond .eq o) := ⟨17, by decide +kernel, rfl, rfl⟩
theorem dX8_readsLine_124 : q_d cX8_readsLine 124 125 (.aload_n 0) 1 := ⟨by decide +kernel, rfl⟩
theorem dX8_readsLine_125 : q_d cX8_readsLine 125 128 (.getfield 24) 3 := ⟨by decide +kernel, rfl⟩
theorem dX8_readsLine_128 : q_d cX8_readsLine 128 129 (.iconst 5) 1 := ⟨by decide +kernel, rfl⟩
theorem dX8_readsLine_129 : q_d cX8_readsLine 129 130 (.aload_n 0) 1 := ⟨by decide +kernel, rfl⟩
theorem dX8_readsLine_130 : q_d cX8_readsLine 130 133 (.invokevirtual 223) 3 := ⟨by decide +kernel, rfl⟩
theorem dX8_readsLine_133 : q_d cX8_readsLine 133 134 (.i2l) 1 := ⟨by decide +kernel, rfl⟩
theorem dX8_readsLine_134 : q_d cX8_readsLine 134 135 (.lastore) 1 := ⟨by decide +kernel, rfl⟩
theorem dX8_readsLine_135 : q_j cX8_readsLine 135 138 161 (fun o => .goto o) := ⟨26, by decide +kernel, rfl, rfl⟩
theorem dX8_readsLine_138 : q_d cX8_readsLine 138 139 (.aload_n 0) 1 := ⟨by decide +kernel, rfl⟩
theorem dX8_readsLine_139 : q_d cX8_readsLine 139 141 (.ldc 161) 2 := ⟨by decide +kernel, rfl⟩
theorem dX8_readsLine_141 : q_d cX8_readsLine 141 142 (.iconst 3) 1 := ⟨by decide +kernel, rfl⟩
theorem dX8_readsLine_142 : q_d cX8_readsLine 142 145 (.invokevirtual 244) 3 := ⟨by decide +kernel, rfl⟩
theorem dX8_readsLine_145 : q_j cX8_readsLine 145 148 155 (fun o => .ifCond .eq o) := ⟨10, by decide +kernel, rfl, rfl⟩
theorem dX8_readsLine_148 : q_d cX8_readsLine 148 149 (.aload_n 0) 1 := ⟨by decide +kernel, rfl⟩
theorem dX8_readsLine_149 : q_d cX8_readsLine 149 152 (.invokevirtual 248) 3 := ⟨by decide +kernel, rfl⟩
theorem dX8_readsLine_152 : q_j cX8_readsLine 152 155 161 (fun o => .goto o) := ⟨9, by decide +kernel, rfl, rfl⟩
theorem dX8_readsLine_155 : q_d cX8_readsLine 155 156 (.aload_n 0) 1 := ⟨by decide +kernel, rfl⟩
theorem dX8_readsLine_156 : q_d cX8_readsLine 156 157 (.iconst 1) 1 := ⟨by decide +kernel, rfl⟩
theorem dX8_readsLine_157 : q_d cX8_readsLine 157 158 (.iload_n 1) 1 := ⟨by decide +kernel, rfl⟩
theorem dX8_readsLine_158 : q_d cX8_readsLine 158 161 (.invokevirtual 106) 3 := ⟨by decide +kernel, rfl⟩
theorem dX8_readsLine_161 : q_d cX8_readsLine 161 162 (.aload_n 0) 1 := ⟨by decide +kernel, rfl⟩
theorem dX8_readsLine_162 : q_d cX8_readsLine 162 164 (.bipush 59) 2 := ⟨by decide +kernel, rfl⟩
theorem dX8_readsLine_164 : q_d cX8_readsLine 164 167 (.invokevirtual 204) 3 := ⟨by decide +kernel, rfl⟩
theorem dX8_readsLine_167 : q_d cX8_readsLine 167 168 (.return_) 1 := ⟨by decide +kernel, rfl⟩
theorem dX8_text_0 : q_d cX8_text 0 1 (.aload_n 0) 1 := ⟨by decide +kernel, rfl⟩
theorem dX8_text_1 : q_d cX8_text 1 2 (.iconst 0) 1 := ⟨by decide +kernel, rfl⟩
theorem dX8_text_2 : q_d cX8_text 2 5 (.putfield 52) 3 := ⟨by decide +kernel, rfl⟩
theorem dX8_text_5 : q_d cX8_text 5 6 (.aload_n 0) 1 := ⟨by decide +kernel, rfl⟩
theorem dX8_text_6 : q_d cX8_text 6 7 (.iload_n 1) 1 := ⟨by decide +kernel, rfl⟩
theorem dX8_text_7 : q_d cX8_text 7 8 (.i2l) 1 := ⟨by decide +kernel, rfl⟩
theorem dX8_text_8 : q_d cX8_text 8 9 (.lconst 0) 1 := ⟨by decide +kernel, rfl⟩
theorem dX8_text_9 : q_d cX8_text 9 10 (.aload_n 0) 1 := ⟨by decide +kernel, rfl⟩
theorem dX8_text_10 : q_d cX8_text 10 13 (.getfield 55) 3 := ⟨by decide +kernel, rfl⟩
theorem dX8_text_13 : q_d cX8_text 13 14 (.i2l) 1 := ⟨by decide +kernel, rfl⟩
theorem dX8_text_14 : q_d cX8_text 14 17 (.invokestatic 123) 3 := ⟨by decide +kernel, rfl⟩
theorem dX8_text_17 : q_j cX8_text 17 20 24 (fun o => .ifCond .ne o) := ⟨7, by decide +kernel, rfl, rfl⟩
theorem dX8_text_20 : q_d cX8_text 20 21 (.iconst 1) 1 := ⟨by decide +kernel, rfl⟩
theorem dX8_text_21 : q_j cX8_text 21 24 25 (fun o => .goto o) := ⟨4, by decide +kernel, rfl, rfl⟩
theorem dX8_text_24 : q_d cX8_text 24 25 (.iconst 0) 1 := ⟨by decide +kernel, rfl⟩
theorem dX8_text_25 : q_d cX8_text 25 26 (.iconst 1) 1 := ⟨by decide +kernel, rfl⟩
theorem dX8_text_26 : q_d cX8_text 26 27 (.iconst 1) 1 := ⟨by decide +kernel, rfl⟩
theorem dX8_text_27 : q_d cX8_text 27 30 (.invokevirtual 251) 3 := ⟨by decide +kernel, rfl⟩
theorem dX8_text_30 : q_j cX8_text 30 33 35 (fun o => .ifCond .eq o) := ⟨5, by decide +kernel, rfl, rfl⟩
theorem dX8_text_33 : q_d cX8_text 33 34 (.iconst 0) 1 := ⟨by decide +kernel, rfl⟩
theorem dX8_text_34 : q_d cX8_text 34 35 (.ireturn) 1 := ⟨by decide +kernel, rfl⟩
theorem dX8_text_35 : q_d cX8_text 35 36 (.aload_n 0) 1 := ⟨by decide +kernel, rfl⟩
theorem dX8_text_36 : q_d cX8_text 36 37 (.iconst 0) 1 := ⟨by decide +kernel, rfl⟩
theorem dX8_text_37 : q_d cX8_text 37 40 (.putfield 55) 3 := ⟨by decide +kernel, rfl⟩
theorem dX8_text_40 : q_d cX8_text 40 41 (.aload_n 0) 1 := ⟨by decide +kernel, rfl⟩
theorem dX8_text_41 : q_d cX8_text 41 42 (.iload_n 1) 1 := ⟨by decide +kernel, rfl⟩
theorem dX8_text_42 : q_d cX8_text 42 45 (.putfield 62) 3 := ⟨by decide +kernel, rfl⟩
theorem dX8_text_45 : q_d cX8_text 45 46 (.aload_n 0) 1 := ⟨by decide +kernel, rfl⟩
theorem dX8_text_46 : q_d cX8_text 46 47 (.iconst 0) 1 := ⟨by decide +kernel, rfl⟩
theorem dX8_text_47 : q_d cX8_text 47 50 (.putfield 65) 3 := ⟨by decide +kernel, rfl⟩
theorem dX8_text_50 : q_d cX8_text 50 51 (.aload_n 0) 1 := ⟨by decide +kernel, rfl⟩
theorem dX8_text_51 : q_d cX8_text 51 52 (.iconst 0) 1 := ⟨by decide +kernel, rfl⟩
theorem dX8_text_52 : q_d cX8_text 52 55 (.putfield 72) 3 := ⟨by decide +kernel, rfl⟩
theorem dX8_text_55 : q_d cX8_text 55 56 (.aload_n 0) 1 := ⟨by decide +kernel, rfl⟩
theorem dX8_text_56 : q_d cX8_text 56 57 (.iconst (-1)) 1 := ⟨by decide +kernel, rfl⟩
theorem dX8_text_57 : q_d cX8_text 57 60 (.putfield 75) 3 := ⟨by decide +kernel, rfl⟩
theorem dX8_text_60 : q_d cX8_text 60 61 (.aload_n 0) 1 := ⟨by decide +kernel, rfl⟩
theorem dX8_text_61 : q_d cX8_text 61 62 (.iconst 0) 1 := ⟨by decide +kernel, rfl⟩
theorem dX8_text_62 : q_d cX8_text 62 65 (.putfield 232) 3 := ⟨by decide +kernel, rfl⟩
theorem dX8_text_65 : q_d cX8_text 65 66 (.aload_n 0) 1 := ⟨by decide +kernel, rfl⟩
theorem dX8_text_66 : q_d cX8_text 66 67 (.iconst 0) 1 := ⟨by decide +kernel, rfl⟩
theorem dX8_text_67 : q_d cX8_text 67 70 (.putfield 229) 3 := ⟨by decide +kernel, rfl⟩
theorem dX8_text_70 : q_d cX8_text 70 71 (.aload_n 0) 1 := ⟨by decide +kernel, rfl⟩
theorem dX8_text_71 : q_d cX8_text 71 72 (.iconst 0) 1 := ⟨by decide +kernel, rfl⟩
theorem dX8_text_72 : q_d cX8_text 72 75 (.putfield 190) 3 := ⟨by decide +kernel, rfl⟩
theorem dX8_text_75 : q_d cX8_text 75 76 (.aload_n 0) 1 := ⟨by decide +kernel, rfl⟩
theorem dX8_text_76 : q_d cX8_text 76 79 (.getfield 24) 3 := ⟨by decide +kernel, rfl⟩
theorem dX8_text_79 : q_d cX8_text 79 82 (.invokestatic 44) 3 := ⟨by decide +kernel, rfl⟩
theorem dX8_text_82 : q_d cX8_text 82 83 (.aload_n 0) 1 := ⟨by decide +kernel, rfl⟩
theorem dX8_text_83 : q_d cX8_text 83 86 (.invokevirtual 95) 3 := ⟨by decide +kernel, rfl⟩
theorem dX8_text_86 : q_j cX8_text 86 89 104 (fun o => .ifCond .eq o) := ⟨18, by decide +kernel, rfl, rfl⟩
theorem dX8_text_89 : q_d cX8_text 89 90 (.aload_n 0) 1 := ⟨by decide +kernel, rfl⟩
theorem dX8_text_90 : q_d cX8_text 90 93 (.invokevirtual 78) 3 := ⟨by decide +kernel, rfl⟩
theorem dX8_text_93 : q_d cX8_text 93 94 (.iconst (-1)) 1 := ⟨by decide +kernel, rfl⟩
theorem dX8_text_94 : q_j cX8_text 94 97 104 (fun o => .if_icmp .eq o) := ⟨10, by decide +kernel, rfl, rfl⟩
theorem dX8_text_97 : q_d cX8_text 97 98 (.aload_n 0) 1 := ⟨by decide +kernel, rfl⟩
theorem dX8_text_98 : q_d cX8_text 98 101 (.invokevirtual 255) 3 := ⟨by decide +kernel, rfl⟩
theorem dX8_text_101 : q_j cX8_text 101 104 82 (fun o => .goto o) := ⟨(-19), by decide +kernel, rfl, rfl⟩
theorem dX8_text_104 : q_d cX8_text 104 105 (.aload_n 0) 1 := ⟨by decide +kernel, rfl⟩
theorem dX8_text_105 : q_d cX8_text 105 108 (.invokevirtual 95) 3 := ⟨by decide +kernel, rfl⟩
theorem dX8_text_108 : q_j cX8_text 108 111 132 (fun o => .ifCond .eq o) := ⟨24, by decide +kernel, rfl, rfl⟩
theorem dX8_text_111 : q_d cX8_text 111 112 (.aload_n 0) 1 := ⟨by decide +kernel, rfl⟩
theorem dX8_text_112 : q_d cX8_text 112 115 (.getfield 24) 3 := ⟨by decide +kernel, rfl⟩
theorem dX8_text_115 : q_d cX8_text 115 116 (.iconst 0) 1 := ⟨by decide +kernel, rfl⟩
theorem dX8_text_116 : q_d cX8_text 116 117 (.laload) 1 := ⟨by decide +kernel, rfl⟩
theorem dX8_text_117 : q_d cX8_text 117 118 (.lconst 0) 1 := ⟨by decide +kernel, rfl⟩
theorem dX8_text_118 : q_d cX8_text 118 119 (.lcmp) 1 := ⟨by decide +kernel, rfl⟩
theorem dX8_text_119 : q_j cX8_text 119 122 132 (fun o => .ifCond .ne o) := ⟨13, by decide +kernel, rfl, rfl⟩
theorem dX8_text_122 : q_d cX8_text 122 123 (.aload_n 0) 1 := ⟨by decide +kernel, rfl⟩
theorem dX8_text_123 : q_d cX8_text 123 125 (.bipush 7) 2 := ⟨by decide +kernel, rfl⟩
theorem dX8_text_125 : q_d cX8_text 125 126 (.aload_n 0) 1 := ⟨by decide +kernel, rfl⟩
theorem dX8_text_126 : q_d cX8_text 126 129 (.getfield 62) 3 := ⟨by decide +kernel, rfl⟩
theorem dX8_text_129 : q_d cX8_text 129 132 (.invokevirtual 106) 3 := ⟨by decide +kernel, rfl⟩
theorem dX8_text_132 : q_d cX8_text 132 133 (.aload_n 0) 1 := ⟨by decide +kernel, rfl⟩
theorem dX8_text_133 : q_d cX8_text 133 134 (.aload_n 0) 1 := ⟨by decide +kernel, rfl⟩
theorem dX8_text_134 : q_d cX8_text 134 137 (.getfield 75) 3 := ⟨by decide +kernel, rfl⟩
theorem dX8_text_137 : q_d cX8_text 137 140 (.putfield 13) 3 := ⟨by decide +kernel, rfl⟩
theorem dX8_text_140 : q_d cX8_text 140 141 (.aload_n 0) 1 := ⟨by decide +kernel, rfl⟩
theorem dX8_text_141 : q_d cX8_text 141 144 (.invokevirtual 95) 3 := ⟨by decide +kernel, rfl⟩
theorem dX8_text_144 : q_j cX8_text 144 147 155 (fun o => .ifCond .ne o) := ⟨11, by decide +kernel, rfl, rfl⟩
theorem dX8_text_147 : q_d cX8_text 147 148 (.aload_n 0) 1 := ⟨by decide +kernel, rfl⟩
theorem dX8_text_148 : q_d cX8_text 148 151 (.getfield 72) 3 := ⟨by decide +kernel, rfl⟩
theorem dX8_text_151 : q_d cX8_text 151 153 (.bipush 10) 2 := ⟨by decide +kernel, rfl⟩
theorem dX8_text_153 : q_d cX8_text 153 154 (.isub) 1 := ⟨by decide +kernel, rfl⟩
theorem dX8_text_154 : q_d cX8_text 154 155 (.ireturn) 1 := ⟨by decide +kernel, rfl⟩
theorem dX8_text_155 : q_d cX8_text 155 156 (.aload_n 0) 1 := ⟨by decide +kernel, rfl⟩
theorem dX8_text_156 : q_d cX8_text 156 159 (.invokevirtual 258) 3 := ⟨by decide +kernel, rfl⟩
theorem dX8_text_159 : q_d cX8_text 159 160 (.aload_n 0) 1 := ⟨by decide +kernel, rfl⟩
theorem dX8_text_160 : q_d cX8_text 160 163 (.getfield 24) 3 := ⟨by decide +kernel, rfl⟩
theorem dX8_text_163 : q_d cX8_text 163 164 (.aload_n 0) 1 := ⟨by decide +kernel, rfl⟩
theorem dX8_text_164 : q_d cX8_text 164 167 (.getfield 20) 3 := ⟨by decide +kernel, rfl⟩
theorem dX8_text_167 : q_d cX8_text 167 170 (.invokestatic 261) 3 := ⟨by decide +kernel, rfl⟩
theorem dX8_text_170 : q_d cX8_text 170 171 (.aload_n 0) 1 := ⟨by decide +kernel, rfl⟩
theorem dX8_text_171 : q_d cX8_text 171 174 (.invokevirtual 265) 3 := ⟨by decide +kernel, rfl⟩
theorem dX8_text_174 : q_d cX8_text 174 175 (.ireturn) 1 := ⟨by decide +kernel, rfl⟩
theorem dX8_fault_0 : q_d cX8_fault 0 1 (.aload_n 0) 1 := ⟨by decide +kernel, rfl⟩
theorem dX8_fault_1 : q_d cX8_fault 1 2 (.iconst 0) 1 := ⟨by decide +kernel, rfl⟩
theorem dX8_fault_2 : q_d cX8_fault 2 5 (.putfield 52) 3 := ⟨by decide +kernel, rfl⟩
theorem dX8_fault_5 : q_d cX8_fault 5 6 (.aload_n 0) 1 := ⟨by decide +kernel, rfl⟩
theorem dX8_fault_6 : q_d cX8_fault 6 9 (.getfield 13) 3 := ⟨by decide +kernel, rfl⟩
theorem dX8_fault_9 : q_d cX8_fault 9 10 (.ireturn) 1 := ⟨by decide +kernel, rfl⟩
theorem dX8_takesKind_0 : q_d cX8_takesKind 0 1 (.aload_n 0) 1 := ⟨by decide +kernel, rfl⟩
theorem dX8_takesKind_1 : q_d cX8_takesKind 1 2 (.iload_n 2) 1 := ⟨by decide +kernel, rfl⟩
theorem dX8_takesKind_2 : q_d cX8_takesKind 2 3 (.iload_n 1) 1 := ⟨by decide +kernel, rfl⟩
theorem dX8_takesKind_3 : q_d cX8_takesKind 3 6 (.invokestatic 226) 3 := ⟨by decide +kernel, rfl⟩
theorem dX8_takesKind_6 : q_d cX8_takesKind 6 7 (.iconst 1) 1 := ⟨by decide +kernel, rfl⟩
theorem dX8_takesKind_7 : q_d cX8_takesKind 7 8 (.iadd) 1 := ⟨by decide +kernel, rfl⟩
theorem dX8_takesKind_8 : q_d cX8_takesKind 8 9 (.laload) 1 := ⟨by decide +kernel, rfl⟩
theorem dX8_takesKind_9 : q_d cX8_takesKind 9 10 (.lconst 0) 1 := ⟨by decide +kernel, rfl⟩
theorem dX8_takesKind_10 : q_d cX8_takesKind 10 11 (.lcmp) 1 := ⟨by decide +kernel, rfl⟩
theorem dX8_takesKind_11 : q_j cX8_takesKind 11 14 18 (fun o => .ifCond .le o) := ⟨7, by decide +kernel, rfl, rfl⟩
theorem dX8_takesKind_14 : q_d cX8_takesKind 14 15 (.iconst 1) 1 := ⟨by decide +kernel, rfl⟩
theorem dX8_takesKind_15 : q_j cX8_takesKind 15 18 19 (fun o => .goto o) := ⟨4, by decide +kernel, rfl, rfl⟩
theorem dX8_takesKind_18 : q_d cX8_takesKind 18 19 (.iconst 0) 1 := ⟨by decide +kernel, rfl⟩
theorem dX8_takesKind_19 : q_d cX8_takesKind 19 20 (.ireturn) 1 := ⟨by decide +kernel, rfl⟩
theorem dX8_belongs_0 : q_d cX8_belongs 0 1 (.iconst 0) 1 := ⟨by decide +kernel, rfl⟩
theorem dX8_belongs_1 : q_d cX8_belongs 1 2 (.istore_n 2) 1 := ⟨by decide +kernel, rfl⟩
theorem dX8_belongs_2 : q_d cX8_belongs 2 3 (.iload_n 2) 1 := ⟨by decide +kernel, rfl⟩
theorem dX8_belongs_3 : q_d cX8_belongs 3 4 (.i2l) 1 := ⟨by decide +kernel, rfl⟩
theorem dX8_belongs_4 : q_d cX8_belongs 4 5 (.aload_n 0) 1 := ⟨by decide +kernel, rfl⟩
theorem dX8_belongs_5 : q_d cX8_belongs 5 7 (.bipush 8) 2 := ⟨by decide +kernel, rfl⟩
theorem dX8_belongs_7 : q_d cX8_belongs 7 8 (.laload) 1 := ⟨by decide +kernel, rfl⟩
theorem dX8_belongs_8 : q_d cX8_belongs 8 9 (.lcmp) 1 := ⟨by decide +kernel, rfl⟩
theorem dX8_belongs_9 : q_j cX8_belongs 9 12 90 (fun o => .ifCond .ge o) := ⟨81, by decide +kernel, rfl, rfl⟩
theorem dX8_belongs_12 : q_d cX8_belongs 12 13 (.aload_n 0) 1 := ⟨by decide +kernel, rfl⟩
theorem dX8_belongs_13 : q_d cX8_belongs 13 15 (.bipush 9) 2 := ⟨by decide +kernel, rfl⟩
theorem dX8_belongs_15 : q_d cX8_belongs 15 16 (.iload_n 2) 1 := ⟨by decide +kernel, rfl⟩
theorem dX8_belongs_16 : q_d cX8_belongs 16 17 (.iadd) 1 := ⟨by decide +kernel, rfl⟩
theorem dX8_belongs_17 : q_d cX8_belongs 17 18 (.laload) 1 := ⟨by decide +kernel, rfl⟩
theorem dX8_belongs_18 : q_d cX8_belongs 18 19 (.lstore_n 3) 1 := ⟨by decide +kernel, rfl⟩
theorem dX8_belongs_19 : q_d cX8_belongs 19 20 (.lload_n 3) 1 := ⟨by decide +kernel, rfl⟩
theorem dX8_belongs_20 : q_d cX8_belongs 20 21 (.lconst 0) 1 := ⟨by decide +kernel, rfl⟩
theorem dX8_belongs_21 : q_d cX8_belongs 21 22 (.lcmp) 1 := ⟨by decide +kernel, rfl⟩
theorem dX8_belongs_22 : q_j cX8_belongs 22 25 34 (fun o => .ifCond .ne o) := ⟨12, by decide +kernel, rfl, rfl⟩
theorem dX8_belongs_25 : q_d cX8_belongs 25 26 (.aload_n 0) 1 := ⟨by decide +kernel, rfl⟩
theorem dX8_belongs_26 : q_d cX8_belongs 26 27 (.iload_n 1) 1 := ⟨by decide +kernel, rfl⟩
theorem dX8_belongs_27 : q_d cX8_belongs 27 28 (.iconst 1) 1 := ⟨by decide +kernel, rfl⟩
theorem dX8_belongs_28 : q_d cX8_belongs 28 31 (.invokestatic 268) 3 := ⟨by decide +kernel, rfl⟩
theorem dX8_belongs_31 : q_j cX8_belongs 31 34 52 (fun o => .goto o) := ⟨21, by decide +kernel, rfl, rfl⟩
theorem dX8_belongs_34 : q_d cX8_belongs 34 35 (.lload_n 3) 1 := ⟨by decide +kernel, rfl⟩
theorem dX8_belongs_35 : q_d cX8_belongs 35 36 (.lconst 1) 1 := ⟨by decide +kernel, rfl⟩
theorem dX8_belongs_36 : q_d cX8_belongs 36 37 (.lcmp) 1 := ⟨by decide +kernel, rfl⟩
theorem dX8_belongs_37 : q_j cX8_belongs 37 40 49 (fun o => .ifCond .ne o) := ⟨12, by decide +kernel, rfl, rfl⟩
theorem dX8_belongs_40 : q_d cX8_belongs 40 41 (.aload_n 0) 1 := ⟨by decide +kernel, rfl⟩
theorem dX8_belongs_41 : q_d cX8_belongs 41 42 (.iload_n 1) 1 := ⟨by decide +kernel, rfl⟩
theorem dX8_belongs_42 : q_d cX8_belongs 42 43 (.iconst 2) 1 := ⟨by decide +kernel, rfl⟩
theorem dX8_belongs_43 : q_d cX8_belongs 43 46 (.invokestatic 268) 3 := ⟨by decide +kernel, rfl⟩
theorem dX8_belongs_46 : q_j cX8_belongs 46 49 52 (fun o => .goto o) := ⟨6, by decide +kernel, rfl, rfl⟩
theorem dX8_belongs_49 : q_d cX8_belongs 49 50 (.aload_n 0) 1 := ⟨by decide +kernel, rfl⟩
theorem dX8_belongs_50 : q_d cX8_belongs 50 51 (.iconst 5) 1 := ⟨by decide +kernel, rfl⟩
theorem dX8_belongs_51 : q_d cX8_belongs 51 52 (.laload) 1 := ⟨by decide +kernel, rfl⟩
theorem dX8_belongs_52 : q_d cX8_belongs 52 54 (.lstore 5) 2 := ⟨by decide +kernel, rfl⟩
theorem dX8_belongs_54 : q_d cX8_belongs 54 56 (.lload 5) 2 := ⟨by decide +kernel, rfl⟩
theorem dX8_belongs_56 : q_d cX8_belongs 56 59 (.ldc2_w 48) 3 := ⟨by decide +kernel, rfl⟩
theorem dX8_belongs_59 : q_d cX8_belongs 59 60 (.lcmp) 1 := ⟨by decide +kernel, rfl⟩
theorem dX8_belongs_60 : q_j cX8_belongs 60 63 84 (fun o => .ifCond .eq o) := ⟨24, by decide +kernel, rfl, rfl⟩
theorem dX8_belongs_63 : q_d cX8_belongs 63 64 (.aload_n 0) 1 := ⟨by decide +kernel, rfl⟩
theorem dX8_belongs_64 : q_d cX8_belongs 64 66 (.lload 5) 2 := ⟨by decide +kernel, rfl⟩
theorem dX8_belongs_66 : q_d cX8_belongs 66 67 (.l2i) 1 := ⟨by decide +kernel, rfl⟩
theorem dX8_belongs_67 : q_d cX8_belongs 67 68 (.aload_n 0) 1 := ⟨by decide +kernel, rfl⟩
theorem dX8_belongs_68 : q_d cX8_belongs 68 69 (.iload_n 1) 1 := ⟨by decide +kernel, rfl⟩
theorem dX8_belongs_69 : q_d cX8_belongs 69 70 (.iconst 0) 1 := ⟨by decide +kernel, rfl⟩
theorem dX8_belongs_70 : q_d cX8_belongs 70 73 (.invokestatic 268) 3 := ⟨by decide +kernel, rfl⟩
theorem dX8_belongs_73 : q_d cX8_belongs 73 74 (.l2i) 1 := ⟨by decide +kernel, rfl⟩
theorem dX8_belongs_74 : q_d cX8_belongs 74 77 (.invokestatic 272) 3 := ⟨by decide +kernel, rfl⟩
theorem dX8_belongs_77 : q_j cX8_belongs 77 80 84 (fun o => .ifCond .eq o) := ⟨7, by decide +kernel, rfl, rfl⟩
theorem dX8_belongs_80 : q_d cX8_belongs 80 82 (.lload 5) 2 := ⟨by decide +kernel, rfl⟩
theorem dX8_belongs_82 : q_d cX8_belongs 82 83 (.l2i) 1 := ⟨by decide +kernel, rfl⟩
theorem dX8_belongs_83 : q_d cX8_belongs 83 84 (.ireturn) 1 := ⟨by decide +kernel, rfl⟩
theorem dX8_belongs_84 : q_d cX8_belongs 84 87 (.iinc 2 1) 3 := ⟨by decide +kernel, rfl⟩
theorem dX8_belongs_87 : q_j cX8_belongs 87 90 2 (fun o => .goto o) := ⟨(-85), by decide +kernel, rfl, rfl⟩
theorem dX8_belongs_90 : q_d cX8_belongs 90 91 (.iconst (-1)) 1 := ⟨by decide +kernel, rfl⟩
theorem dX8_belongs_91 : q_d cX8_belongs 91 92 (.ireturn) 1 := ⟨by decide +kernel, rfl⟩
theorem dX8_held_0 : q_d cX8_held 0 1 (.lload_n 0) 1 := ⟨by decide +kernel, rfl⟩
theorem dX8_held_1 : q_d cX8_held 1 4 (.ldc2_w 276) 3 := ⟨by decide +kernel, rfl⟩
theorem dX8_held_4 : q_d cX8_held 4 5 (.lcmp) 1 := ⟨by decide +kernel, rfl⟩
theorem dX8_held_5 : q_j cX8_held 5 8 14 (fun o => .ifCond .le o) := ⟨9, by decide +kernel, rfl, rfl⟩
theorem dX8_held_8 : q_d cX8_held 8 11 (.ldc2_w 276) 3 := ⟨by decide +kernel, rfl⟩
theorem dX8_held_11 : q_j cX8_held 11 14 29 (fun o => .goto o) := ⟨18, by decide +kernel, rfl, rfl⟩
theorem dX8_held_14 : q_d cX8_held 14 15 (.lload_n 0) 1 := ⟨by decide +kernel, rfl⟩
theorem dX8_held_15 : q_d cX8_held 15 18 (.ldc2_w 278) 3 := ⟨by decide +kernel, rfl⟩
theorem dX8_held_18 : q_d cX8_held 18 19 (.lcmp) 1 := ⟨by decide +kernel, rfl⟩
theorem dX8_held_19 : q_j cX8_held 19 22 28 (fun o => .ifCond .ge o) := ⟨9, by decide +kernel, rfl, rfl⟩
theorem dX8_held_22 : q_d cX8_held 22 25 (.ldc2_w 278) 3 := ⟨by decide +kernel, rfl⟩
theorem dX8_held_25 : q_j cX8_held 25 28 29 (fun o => .goto o) := ⟨4, by decide +kernel, rfl, rfl⟩
theorem dX8_held_28 : q_d cX8_held 28 29 (.lload_n 0) 1 := ⟨by decide +kernel, rfl⟩
theorem dX8_held_29 : q_d cX8_held 29 30 (.lreturn) 1 := ⟨by decide +kernel, rfl⟩
theorem dX8_floor_0 : q_d cX8_floor 0 1 (.lload_n 2) 1 := ⟨by decide +kernel, rfl⟩
theorem dX8_floor_1 : q_d cX8_floor 1 2 (.lconst 0) 1 := ⟨by decide +kernel, rfl⟩
theorem dX8_floor_2 : q_d cX8_floor 2 3 (.lcmp) 1 := ⟨by decide +kernel, rfl⟩
theorem dX8_floor_3 : q_j cX8_floor 3 6 8 (fun o => .ifCond .ne o) := ⟨5, by decide +kernel, rfl, rfl⟩
theorem dX8_floor_6 : q_d cX8_floor 6 7 (.lconst 0) 1 := ⟨by decide +kernel, rfl⟩
theorem dX8_floor_7 : q_d cX8_floor 7 8 (.lreturn) 1 := ⟨by decide +kernel, rfl⟩
theorem dX8_floor_8 : q_d cX8_floor 8 9 (.lload_n 0) 1 := ⟨by decide +kernel, rfl⟩
theorem dX8_floor_9 : q_d cX8_floor 9 10 (.lload_n 2) 1 := ⟨by decide +kernel, rfl⟩
theorem dX8_floor_10 : q_d cX8_floor 10 11 (.ldiv) 1 := ⟨by decide +kernel, rfl⟩
theorem dX8_floor_11 : q_d cX8_floor 11 13 (.lstore 4) 2 := ⟨by decide +kernel, rfl⟩
theorem dX8_floor_13 : q_d cX8_floor 13 14 (.lload_n 0) 1 := ⟨by decide +kernel, rfl⟩
theorem dX8_floor_14 : q_d cX8_floor 14 15 (.lload_n 2) 1 := ⟨by decide +kernel, rfl⟩
theorem dX8_floor_15 : q_d cX8_floor 15 16 (.lrem) 1 := ⟨by decide +kernel, rfl⟩
theorem dX8_floor_16 : q_d cX8_floor 16 17 (.lconst 0) 1 := ⟨by decide +kernel, rfl⟩
theorem dX8_floor_17 : q_d cX8_floor 17 18 (.lcmp) 1 := ⟨by decide +kernel, rfl⟩
theorem dX8_floor_18 : q_j cX8_floor 18 21 53 (fun o => .ifCond .eq o) := ⟨35, by decide +kernel, rfl, rfl⟩
theorem dX8_floor_21 : q_d cX8_floor 21 22 (.lload_n 0) 1 := ⟨by decide +kernel, rfl⟩
theorem dX8_floor_22 : q_d cX8_floor 22 23 (.lconst 0) 1 := ⟨by decide +kernel, rfl⟩
theorem dX8_floor_23 : q_d cX8_floor 23 24 (.lcmp) 1 := ⟨by decide +kernel, rfl⟩
theorem dX8_floor_24 : q_j cX8_floor 24 27 31 (fun o => .ifCond .ge o) := ⟨7, by decide +kernel, rfl, rfl⟩
theorem dX8_floor_27 : q_d cX8_floor 27 28 (.iconst 1) 1 := ⟨by decide +kernel, rfl⟩
theorem dX8_floor_28 : q_j cX8_floor 28 31 32 (fun o => .goto o) := ⟨4, by decide +kernel, rfl, rfl⟩
theorem dX8_floor_31 : q_d cX8_floor 31 32 (.iconst 0) 1 := ⟨by decide +kernel, rfl⟩
theorem dX8_floor_32 : q_d cX8_floor 32 33 (.lload_n 2) 1 := ⟨by decide +kernel, rfl⟩
theorem dX8_floor_33 : q_d cX8_floor 33 34 (.lconst 0) 1 := ⟨by decide +kernel, rfl⟩
theorem dX8_floor_34 : q_d cX8_floor 34 35 (.lcmp) 1 := ⟨by decide +kernel, rfl⟩
theorem dX8_floor_35 : q_j cX8_floor 35 38 42 (fun o => .ifCond .ge o) := ⟨7, by decide +kernel, rfl, rfl⟩
theorem dX8_floor_38 : q_d cX8_floor 38 39 (.iconst 1) 1 := ⟨by decide +kernel, rfl⟩
theorem dX8_floor_39 : q_j cX8_floor 39 42 43 (fun o => .goto o) := ⟨4, by decide +kernel, rfl, rfl⟩
theorem dX8_floor_42 : q_d cX8_floor 42 43 (.iconst 0) 1 := ⟨by decide +kernel, rfl⟩
theorem dX8_floor_43 : q_j cX8_floor 43 46 53 (fun o => .if_icmp .eq o) := ⟨10, by decide +kernel, rfl, rfl⟩
theorem dX8_floor_46 : q_d cX8_floor 46 48 (.lload 4) 2 := ⟨by decide +kernel, rfl⟩
theorem dX8_floor_48 : q_d cX8_floor 48 49 (.lconst 1) 1 := ⟨by decide +kernel, rfl⟩
theorem dX8_floor_49 : q_d cX8_floor 49 50 (.lsub) 1 := ⟨by decide +kernel, rfl⟩
theorem dX8_floor_50 : q_j cX8_floor 50 53 55 (fun o => .goto o) := ⟨5, by decide +kernel, rfl, rfl⟩
theorem dX8_floor_53 : q_d cX8_floor 53 55 (.lload 4) 2 := ⟨by decide +kernel, rfl⟩
theorem dX8_floor_55 : q_d cX8_floor 55 56 (.lreturn) 1 := ⟨by decide +kernel, rfl⟩
theorem dX8_times_0 : q_d cX8_times 0 1 (.lload_n 0) 1 := ⟨by decide +kernel, rfl⟩
theorem dX8_times_1 : q_d cX8_times 1 2 (.lconst 0) 1 := ⟨by decide +kernel, rfl⟩
theorem dX8_times_2 : q_d cX8_times 2 3 (.lcmp) 1 := ⟨by decide +kernel, rfl⟩
theorem dX8_times_3 : q_j cX8_times 3 6 12 (fun o => .ifCond .eq o) := ⟨9, by decide +kernel, rfl, rfl⟩
theorem dX8_times_6 : q_d cX8_times 6 7 (.lload_n 2) 1 := ⟨by decide +kernel, rfl⟩
theorem dX8_times_7 : q_d cX8_times 7 8 (.lconst 0) 1 := ⟨by decide +kernel, rfl⟩
theorem dX8_times_8 : q_d cX8_times 8 9 (.lcmp) 1 := ⟨by decide +kernel, rfl⟩
theorem dX8_times_9 : q_j cX8_times 9 12 14 (fun o => .ifCond .ne o) := ⟨5, by decide +kernel, rfl, rfl⟩
theorem dX8_times_12 : q_d cX8_times 12 13 (.lconst 0) 1 := ⟨by decide +kernel, rfl⟩
theorem dX8_times_13 : q_d cX8_times 13 14 (.lreturn) 1 := ⟨by decide +kernel, rfl⟩
theorem dX8_times_14 : q_d cX8_times 14 15 (.lload_n 0) 1 := ⟨by decide +kernel, rfl⟩
theorem dX8_times_15 : q_d cX8_times 15 16 (.lconst 0) 1 := ⟨by decide +kernel, rfl⟩
theorem dX8_times_16 : q_d cX8_times 16 17 (.lcmp) 1 := ⟨by decide +kernel, rfl⟩
theorem dX8_times_17 : q_j cX8_times 17 20 25 (fun o => .ifCond .ge o) := ⟨8, by decide +kernel, rfl, rfl⟩
theorem dX8_times_20 : q_d cX8_times 20 21 (.lload_n 0) 1 := ⟨by decide +kernel, rfl⟩
theorem dX8_times_21 : q_d cX8_times 21 22 (.lneg) 1 := ⟨by decide +kernel, rfl⟩
theorem dX8_times_22 : q_j cX8_times 22 25 26 (fun o => .goto o) := ⟨4, by decide +kernel, rfl, rfl⟩
theorem dX8_times_25 : q_d cX8_times 25 26 (.lload_n 0) 1 := ⟨by decide +kernel, rfl⟩
theorem dX8_times_26 : q_d cX8_times 26 28 (.lstore 4) 2 := ⟨by decide +kernel, rfl⟩
theorem dX8_times_28 : q_d cX8_times 28 29 (.lload_n 2) 1 := ⟨by decide +kernel, rfl⟩
theorem dX8_times_29 : q_d cX8_times 29 30 (.lconst 0) 1 := ⟨by decide +kernel, rfl⟩
theorem dX8_times_30 : q_d cX8_times 30 31 (.lcmp) 1 := ⟨by decide +kernel, rfl⟩
theorem dX8_times_31 : q_j cX8_times 31 34 39 (fun o => .ifCond .ge o) := ⟨8, by decide +kernel, rfl, rfl⟩
theorem dX8_times_34 : q_d cX8_times 34 35 (.lload_n 2) 1 := ⟨by decide +kernel, rfl⟩
theorem dX8_times_35 : q_d cX8_times 35 36 (.lneg) 1 := ⟨by decide +kernel, rfl⟩
theorem dX8_times_36 : q_j cX8_times 36 39 40 (fun o => .goto o) := ⟨4, by decide +kernel, rfl, rfl⟩
theorem dX8_times_39 : q_d cX8_times 39 40 (.lload_n 2) 1 := ⟨by decide +kernel, rfl⟩
theorem dX8_times_40 : q_d cX8_times 40 42 (.lstore 6) 2 := ⟨by decide +kernel, rfl⟩
theorem dX8_times_42 : q_d cX8_times 42 43 (.lload_n 0) 1 := ⟨by decide +kernel, rfl⟩
theorem dX8_times_43 : q_d cX8_times 43 44 (.lconst 0) 1 := ⟨by decide +kernel, rfl⟩
theorem dX8_times_44 : q_d cX8_times 44 45 (.lcmp) 1 := ⟨by decide +kernel, rfl⟩
theorem dX8_times_45 : q_j cX8_times 45 48 52 (fun o => .ifCond .ge o) := ⟨7, by decide +kernel, rfl, rfl⟩
theorem dX8_times_48 : q_d cX8_times 48 49 (.iconst 1) 1 := ⟨by decide +kernel, rfl⟩
theorem dX8_times_49 : q_j cX8_times 49 52 53 (fun o => .goto o) := ⟨4, by decide +kernel, rfl, rfl⟩
theorem dX8_times_52 : q_d cX8_times 52 53 (.iconst 0) 1 := ⟨by decide +kernel, rfl⟩
theorem dX8_times_53 : q_d cX8_times 53 54 (.lload_n 2) 1 := ⟨by decide +kernel, rfl⟩
theorem dX8_times_54 : q_d cX8_times 54 55 (.lconst 0) 1 := ⟨by decide +kernel, rfl⟩
theorem dX8_times_55 : q_d cX8_times 55 56 (.lcmp) 1 := ⟨by decide +kernel, rfl⟩
theorem dX8_times_56 : q_j cX8_times 56 59 63 (fun o => .ifCond .ge o) := ⟨7, by decide +kernel, rfl, rfl⟩
theorem dX8_times_59 : q_d cX8_times 59 60 (.iconst 1) 1 := ⟨by decide +kernel, rfl⟩
theorem dX8_times_60 : q_j cX8_times 60 63 64 (fun o => .goto o) := ⟨4, by decide +kernel, rfl, rfl⟩
theorem dX8_times_63 : q_d cX8_times 63 64 (.iconst 0) 1 := ⟨by decide +kernel, rfl⟩
theorem dX8_times_64 : q_j cX8_times 64 67 71 (fun o => .if_icmp .eq o) := ⟨7, by decide +kernel, rfl, rfl⟩
theorem dX8_times_67 : q_d cX8_times 67 68 (.iconst 1) 1 := ⟨by decide +kernel, rfl⟩
theorem dX8_times_68 : q_j cX8_times 68 71 72 (fun o => .goto o) := ⟨4, by decide +kernel, rfl, rfl⟩
theorem dX8_times_71 : q_d cX8_times 71 72 (.iconst 0) 1 := ⟨by decide +kernel, rfl⟩
theorem dX8_times_72 : q_d cX8_times 72 74 (.istore 8) 2 := ⟨by decide +kernel, rfl⟩
theorem dX8_times_74 : q_d cX8_times 74 76 (.lload 4) 2 := ⟨by decide +kernel, rfl⟩
theorem dX8_times_76 : q_d cX8_times 76 79 (.ldc2_w 276) 3 := ⟨by decide +kernel, rfl⟩
theorem dX8_times_79 : q_d cX8_times 79 81 (.lload 6) 2 := ⟨by decide +kernel, rfl⟩
theorem dX8_times_81 : q_d cX8_times 81 82 (.ldiv) 1 := ⟨by decide +kernel, rfl⟩
theorem dX8_times_82 : q_d cX8_times 82 83 (.lcmp) 1 := ⟨by decide +kernel, rfl⟩
theorem dX8_times_83 : q_j cX8_times 83 86 101 (fun o => .ifCond .le o) := ⟨18, by decide +kernel, rfl, rfl⟩
theorem dX8_times_86 : q_d cX8_times 86 88 (.iload 8) 2 := ⟨by decide +kernel, rfl⟩
theorem dX8_times_88 : q_j cX8_times 88 91 97 (fun o => .ifCond .eq o) := ⟨9, by decide +kernel, rfl, rfl⟩
theorem dX8_times_91 : q_d cX8_times 91 94 (.ldc2_w 278) 3 := ⟨by decide +kernel, rfl⟩
theorem dX8_times_94 : q_j cX8_times 94 97 100 (fun o => .goto o) := ⟨6, by decide +kernel, rfl, rfl⟩
theorem dX8_times_97 : q_d cX8_times 97 100 (.ldc2_w 276) 3 := ⟨by decide +kernel, rfl⟩
theorem dX8_times_100 : q_d cX8_times 100 101 (.lreturn) 1 := ⟨by decide +kernel, rfl⟩
theorem dX8_times_101 : q_d cX8_times 101 102 (.lload_n 0) 1 := ⟨by decide +kernel, rfl⟩
theorem dX8_times_102 : q_d cX8_times 102 103 (.lload_n 2) 1 := ⟨by decide +kernel, rfl⟩
theorem dX8_times_103 : q_d cX8_times 103 104 (.lmul) 1 := ⟨by decide +kernel, rfl⟩
theorem dX8_times_104 : q_d cX8_times 104 107 (.invokestatic 280) 3 := ⟨by decide +kernel, rfl⟩
theorem dX8_times_107 : q_d cX8_times 107 108 (.lreturn) 1 := ⟨by decide +kernel, rfl⟩
theorem dX8_isOpen_0 : q_d cX8_isOpen 0 1 (.aload_n 0) 1 := ⟨by decide +kernel, rfl⟩
theorem dX8_isOpen_1 : q_d cX8_isOpen 1 2 (.iload_n 1) 1 := ⟨by decide +kernel, rfl⟩
theorem dX8_isOpen_2 : q_d cX8_isOpen 2 3 (.iconst 4) 1 := ⟨by decide +kernel, rfl⟩
theorem dX8_isOpen_3 : q_d cX8_isOpen 3 6 (.invokestatic 268) 3 := ⟨by decide +kernel, rfl⟩
theorem dX8_isOpen_6 : q_d cX8_isOpen 6 7 (.lconst 0) 1 := ⟨by decide +kernel, rfl⟩
theorem dX8_isOpen_7 : q_d cX8_isOpen 7 8 (.lcmp) 1 := ⟨by decide +kernel, rfl⟩
theorem dX8_isOpen_8 : q_j cX8_isOpen 8 11 22 (fun o => .ifCond .eq o) := ⟨14, by decide +kernel, rfl, rfl⟩
theorem dX8_isOpen_11 : q_d cX8_isOpen 11 12 (.aload_n 0) 1 := ⟨by decide +kernel, rfl⟩
theorem dX8_isOpen_12 : q_d cX8_isOpen 12 13 (.iload_n 1) 1 := ⟨by decide +kernel, rfl⟩
theorem dX8_isOpen_13 : q_d cX8_isOpen 13 14 (.iconst 4) 1 := ⟨by decide +kernel, rfl⟩
theorem dX8_isOpen_14 : q_d cX8_isOpen 14 17 (.invokestatic 268) 3 := ⟨by decide +kernel, rfl⟩
theorem dX8_isOpen_17 : q_d cX8_isOpen 17 18 (.lconst 1) 1 := ⟨by decide +kernel, rfl⟩
theorem dX8_isOpen_18 : q_d cX8_isOpen 18 19 (.lcmp) 1 := ⟨by decide +kernel, rfl⟩
theorem dX8_isOpen_19 : q_j cX8_isOpen 19 22 26 (fun o => .ifCond .ne o) := ⟨7, by decide +kernel, rfl, rfl⟩
theorem dX8_isOpen_22 : q_d cX8_isOpen 22 23 (.iconst 1) 1 := ⟨by decide +kernel, rfl⟩
theorem dX8_isOpen_23 : q_j cX8_isOpen 23 26 27 (fun o => .goto o) := ⟨4, by decide +kernel, rfl, rfl⟩
theorem dX8_isOpen_26 : q_d cX8_isOpen 26 27 (.iconst 0) 1 := ⟨by decide +kernel, rfl⟩
theorem dX8_isOpen_27 : q_d cX8_isOpen 27 28 (.ireturn) 1 := ⟨by decide +kernel, rfl⟩
theorem dX8_sleepOf_0 : q_d cX8_sleepOf 0 1 (.aload_n 1) 1 := ⟨by decide +kernel, rfl⟩
theorem dX8_sleepOf_1 : q_d cX8_sleepOf 1 2 (.iload_n 2) 1 := ⟨by decide +kernel, rfl⟩
theorem dX8_sleepOf_2 : q_d cX8_sleepOf 2 3 (.iconst 0) 1 := ⟨by decide +kernel, rfl⟩
theorem dX8_sleepOf_3 : q_d cX8_sleepOf 3 6 (.invokestatic 268) 3 := ⟨by decide +kernel, rfl⟩
theorem dX8_sleepOf_6 : q_d cX8_sleepOf 6 7 (.l2i) 1 := ⟨by decide +kernel, rfl⟩
theorem dX8_sleepOf_7 : q_d cX8_sleepOf 7 8 (.iload_n 3) 1 := ⟨by decide +kernel, rfl⟩
theorem dX8_sleepOf_8 : q_d cX8_sleepOf 8 11 (.invokestatic 226) 3 := ⟨by decide +kernel, rfl⟩
theorem dX8_sleepOf_11 : q_d cX8_sleepOf 11 13 (.istore 4) 2 := ⟨by decide +kernel, rfl⟩
theorem dX8_sleepOf_13 : q_d cX8_sleepOf 13 14 (.iconst 0) 1 := ⟨by decide +kernel, rfl⟩
theorem dX8_sleepOf_14 : q_d cX8_sleepOf 14 16 (.istore 5) 2 := ⟨by decide +kernel, rfl⟩
theorem dX8_sleepOf_16 : q_d cX8_sleepOf 16 17 (.aload_n 1) 1 := ⟨by decide +kernel, rfl⟩
theorem dX8_sleepOf_17 : q_d cX8_sleepOf 17 19 (.iload 4) 2 := ⟨by decide +kernel, rfl⟩
theorem dX8_sleepOf_19 : q_d cX8_sleepOf 19 20 (.laload) 1 := ⟨by decide +kernel, rfl⟩
theorem dX8_sleepOf_20 : q_d cX8_sleepOf 20 21 (.l2i) 1 := ⟨by decide +kernel, rfl⟩
theorem dX8_sleepOf_21 : q_d cX8_sleepOf 21 23 (.istore 6) 2 := ⟨by decide +kernel, rfl⟩
theorem dX8_sleepOf_23 : q_d cX8_sleepOf 23 25 (.iload 6) 2 := ⟨by decide +kernel, rfl⟩
theorem dX8_sleepOf_25 : q_d cX8_sleepOf 25 26 (.i2l) 1 := ⟨by decide +kernel, rfl⟩
theorem dX8_sleepOf_26 : q_d cX8_sleepOf 26 27 (.aload_n 1) 1 := ⟨by decide +kernel, rfl⟩
theorem dX8_sleepOf_27 : q_d cX8_sleepOf 27 29 (.iload 4) 2 := ⟨by decide +kernel, rfl⟩
theorem dX8_sleepOf_29 : q_d cX8_sleepOf 29 30 (.iconst 1) 1 := ⟨by decide +kernel, rfl⟩
theorem dX8_sleepOf_30 : q_d cX8_sleepOf 30 31 (.iadd) 1 := ⟨by decide +kernel, rfl⟩
theorem dX8_sleepOf_31 : q_d cX8_sleepOf 31 32 (.laload) 1 := ⟨by decide +kernel, rfl⟩
theorem dX8_sleepOf_32 : q_d cX8_sleepOf 32 33 (.lcmp) 1 := ⟨by decide +kernel, rfl⟩
theorem dX8_sleepOf_33 : q_j cX8_sleepOf 33 36 316 (fun o => .ifCond .ge o) := ⟨283, by decide +kernel, rfl, rfl⟩
theorem dX8_sleepOf_36 : q_d cX8_sleepOf 36 37 (.aload_n 1) 1 := ⟨by decide +kernel, rfl⟩
theorem dX8_sleepOf_37 : q_d cX8_sleepOf 37 40 (.sipush 139) 3 := ⟨by decide +kernel, rfl⟩
theorem dX8_sleepOf_40 : q_d cX8_sleepOf 40 42 (.iload 6) 2 := ⟨by decide +kernel, rfl⟩
theorem dX8_sleepOf_42 : q_d cX8_sleepOf 42 43 (.iadd) 1 := ⟨by decide +kernel, rfl⟩
theorem dX8_sleepOf_43 : q_d cX8_sleepOf 43 44 (.laload) 1 := ⟨by decide +kernel, rfl⟩
theorem dX8_sleepOf_44 : q_d cX8_sleepOf 44 45 (.l2i) 1 := ⟨by decide +kernel, rfl⟩
theorem dX8_sleepOf_45 : q_d cX8_sleepOf 45 47 (.istore 7) 2 := ⟨by decide +kernel, rfl⟩
theorem dX8_sleepOf_47 : q_d cX8_sleepOf 47 49 (.iload 7) 2 := ⟨by decide +kernel, rfl⟩
theorem dX8_sleepOf_49 : q_d cX8_sleepOf 49 50 (.iconst 1) 1 := ⟨by decide +kernel, rfl⟩
theorem dX8_sleepOf_50 : q_j cX8_sleepOf 50 53 77 (fun o => .if_icmp .ne o) := ⟨27, by decide +kernel, rfl, rfl⟩
theorem dX8_sleepOf_53 : q_d cX8_sleepOf 53 56 (.iinc 6 1) 3 := ⟨by decide +kernel, rfl⟩
theorem dX8_sleepOf_56 : q_d cX8_sleepOf 56 57 (.aload_n 0) 1 := ⟨by decide +kernel, rfl⟩
theorem dX8_sleepOf_57 : q_d cX8_sleepOf 57 60 (.getfield 35) 3 := ⟨by decide +kernel, rfl⟩
theorem dX8_sleepOf_60 : q_d cX8_sleepOf 60 62 (.iload 5) 2 := ⟨by decide +kernel, rfl⟩
theorem dX8_sleepOf_62 : q_d cX8_sleepOf 62 63 (.aload_n 1) 1 := ⟨by decide +kernel, rfl⟩
theorem dX8_sleepOf_63 : q_d cX8_sleepOf 63 66 (.sipush 139) 3 := ⟨by decide +kernel, rfl⟩
theorem dX8_sleepOf_66 : q_d cX8_sleepOf 66 68 (.iload 6) 2 := ⟨by decide +kernel, rfl⟩
theorem dX8_sleepOf_68 : q_d cX8_sleepOf 68 69 (.iadd) 1 := ⟨by decide +kernel, rfl⟩
theorem dX8_sleepOf_69 : q_d cX8_sleepOf 69 70 (.laload) 1 := ⟨by decide +kernel, rfl⟩
theorem dX8_sleepOf_70 : q_d cX8_sleepOf 70 71 (.lastore) 1 := ⟨by decide +kernel, rfl⟩
theorem dX8_sleepOf_71 : q_d cX8_sleepOf 71 74 (.iinc 5 1) 3 := ⟨by decide +kernel, rfl⟩
theorem dX8_sleepOf_74 : q_j cX8_sleepOf 74 77 310 (fun o => .goto o) := ⟨236, by decide +kernel, rfl, rfl⟩
theorem dX8_sleepOf_77 : q_d cX8_sleepOf 77 79 (.iload 7) 2 := ⟨by decide +kernel, rfl⟩
theorem dX8_sleepOf_79 : q_d cX8_sleepOf 79 81 (.bipush 6) 2 := ⟨by decide +kernel, rfl⟩
theorem dX8_sleepOf_81 : q_j cX8_sleepOf 81 84 135 (fun o => .if_icmp .ge o) := ⟨54, by decide +kernel, rfl, rfl⟩
theorem dX8_sleepOf_84 : q_d cX8_sleepOf 84 85 (.aload_n 0) 1 := ⟨by decide +kernel, rfl⟩
theorem dX8_sleepOf_85 : q_d cX8_sleepOf 85 88 (.getfield 35) 3 := ⟨by decide +kernel, rfl⟩
theorem dX8_sleepOf_88 : q_d cX8_sleepOf 88 90 (.iload 5) 2 := ⟨by decide +kernel, rfl⟩
theorem dX8_sleepOf_90 : q_d cX8_sleepOf 90 91 (.aload_n 1) 1 := ⟨by decide +kernel, rfl⟩
theorem dX8_sleepOf_91 : q_d cX8_sleepOf 91 92 (.iload_n 2) 1 := ⟨by decide +kernel, rfl⟩
theorem dX8_sleepOf_92 : q_d cX8_sleepOf 92 94 (.iload 7) 2 := ⟨by decide +kernel, rfl⟩
theorem dX8_sleepOf_94 : q_d cX8_sleepOf 94 95 (.iconst 2) 1 := ⟨by decide +kernel, rfl⟩
theorem dX8_sleepOf_95 : q_j cX8_sleepOf 95 98 102 (fun o => .if_icmp .ne o) := ⟨7, by decide +kernel, rfl, rfl⟩
theorem dX8_sleepOf_98 : q_d cX8_sleepOf 98 99 (.iconst 3) 1 := ⟨by decide +kernel, rfl⟩
theorem dX8_sleepOf_99 : q_j cX8_sleepOf 99 102 125 (fun o => .goto o) := ⟨26, by decide +kernel, rfl, rfl⟩
theorem dX8_sleepOf_102 : q_d cX8_sleepOf 102 104 (.iload 7) 2 := ⟨by decide +kernel, rfl⟩
theorem dX8_sleepOf_104 : q_d cX8_sleepOf 104 105 (.iconst 3) 1 := ⟨by decide +kernel, rfl⟩
theorem dX8_sleepOf_105 : q_j cX8_sleepOf 105 108 112 (fun o => .if_icmp .ne o) := ⟨7, by decide +kernel, rfl, rfl⟩
theorem dX8_sleepOf_108 : q_d cX8_sleepOf 108 109 (.iconst 5) 1 := ⟨by decide +kernel, rfl⟩
theorem dX8_sleepOf_109 : q_j cX8_sleepOf 109 112 125 (fun o => .goto o) := ⟨16, by decide +kernel, rfl, rfl⟩
theorem dX8_sleepOf_112 : q_d cX8_sleepOf 112 114 (.iload 7) 2 := ⟨by decide +kernel, rfl⟩
theorem dX8_sleepOf_114 : q_d cX8_sleepOf 114 115 (.iconst 4) 1 := ⟨by decide +kernel, rfl⟩
theorem dX8_sleepOf_115 : q_j cX8_sleepOf 115 118 123 (fun o => .if_icmp .ne o) := ⟨8, by decide +kernel, rfl, rfl⟩
theorem dX8_sleepOf_118 : q_d cX8_sleepOf 118 120 (.bipush 6) 2 := ⟨by decide +kernel, rfl⟩
theorem dX8_sleepOf_120 : q_j cX8_sleepOf 120 123 125 (fun o => .goto o) := ⟨5, by decide +kernel, rfl, rfl⟩
theorem dX8_sleepOf_123 : q_d cX8_sleepOf 123 125 (.bipush 7) 2 := ⟨by decide +kernel, rfl⟩
theorem dX8_sleepOf_125 : q_d cX8_sleepOf 125 128 (.invokestatic 268) 3 := ⟨by decide +kernel, rfl⟩
theorem dX8_sleepOf_128 : q_d cX8_sleepOf 128 129 (.lastore) 1 := ⟨by decide +kernel, rfl⟩
theorem dX8_sleepOf_129 : q_d cX8_sleepOf 129 132 (.iinc 5 1) 3 := ⟨by decide +kernel, rfl⟩
theorem dX8_sleepOf_132 : q_j cX8_sleepOf 132 135 310 (fun o => .goto o) := ⟨178, by decide +kernel, rfl, rfl⟩
theorem dX8_sleepOf_135 : q_d cX8_sleepOf 135 137 (.iload 7) 2 := ⟨by decide +kernel, rfl⟩
theorem dX8_sleepOf_137 : q_d cX8_sleepOf 137 139 (.bipush 11) 2 := ⟨by decide +kernel, rfl⟩
theorem dX8_sleepOf_139 : q_j cX8_sleepOf 139 142 198 (fun o => .if_icmp .ne o) := ⟨59, by decide +kernel, rfl, rfl⟩
theorem dX8_sleepOf_142 : q_d cX8_sleepOf 142 145 (.iinc 5 (-3)) 3 := ⟨by decide +kernel, rfl⟩
theorem dX8_sleepOf_145 : q_d cX8_sleepOf 145 146 (.aload_n 0) 1 := ⟨by decide +kernel, rfl⟩
theorem dX8_sleepOf_146 : q_d cX8_sleepOf 146 149 (.getfield 35) 3 := ⟨by decide +kernel, rfl⟩
theorem dX8_sleepOf_149 : q_d cX8_sleepOf 149 151 (.iload 5) 2 := ⟨by decide +kernel, rfl⟩
theorem dX8_sleepOf_151 : q_d cX8_sleepOf 151 152 (.iconst 1) 1 := ⟨by decide +kernel, rfl⟩
theorem dX8_sleepOf_152 : q_d cX8_sleepOf 152 153 (.isub) 1 := ⟨by decide +kernel, rfl⟩
theorem dX8_sleepOf_153 : q_d cX8_sleepOf 153 154 (.aload_n 0) 1 := ⟨by decide +kernel, rfl⟩
theorem dX8_sleepOf_154 : q_d cX8_sleepOf 154 157 (.getfield 35) 3 := ⟨by decide +kernel, rfl⟩
theorem dX8_sleepOf_157 : q_d cX8_sleepOf 157 159 (.iload 5) 2 := ⟨by decide +kernel, rfl⟩
theorem dX8_sleepOf_159 : q_d cX8_sleepOf 159 160 (.iconst 1) 1 := ⟨by decide +kernel, rfl⟩
theorem dX8_sleepOf_160 : q_d cX8_sleepOf 160 161 (.isub) 1 := ⟨by decide +kernel, rfl⟩
theorem dX8_sleepOf_161 : q_d cX8_sleepOf 161 162 (.laload) 1 := ⟨by decide +kernel, rfl⟩
theorem dX8_sleepOf_162 : q_d cX8_sleepOf 162 163 (.aload_n 0) 1 := ⟨by decide +kernel, rfl⟩
theorem dX8_sleepOf_163 : q_d cX8_sleepOf 163 166 (.getfield 35) 3 := ⟨by decide +kernel, rfl⟩
theorem dX8_sleepOf_166 : q_d cX8_sleepOf 166 168 (.iload 5) 2 := ⟨by decide +kernel, rfl⟩
theorem dX8_sleepOf_168 : q_d cX8_sleepOf 168 169 (.laload) 1 := ⟨by decide +kernel, rfl⟩
theorem dX8_sleepOf_169 : q_d cX8_sleepOf 169 170 (.lcmp) 1 := ⟨by decide +kernel, rfl⟩
theorem dX8_sleepOf_170 : q_j cX8_sleepOf 170 173 185 (fun o => .ifCond .ge o) := ⟨15, by decide +kernel, rfl, rfl⟩
theorem dX8_sleepOf_173 : q_d cX8_sleepOf 173 174 (.aload_n 0) 1 := ⟨by decide +kernel, rfl⟩
theorem dX8_sleepOf_174 : q_d cX8_sleepOf 174 177 (.getfield 35) 3 := ⟨by decide +kernel, rfl⟩
theorem dX8_sleepOf_177 : q_d cX8_sleepOf 177 179 (.iload 5) 2 := ⟨by decide +kernel, rfl⟩
theorem dX8_sleepOf_179 : q_d cX8_sleepOf 179 180 (.iconst 1) 1 := ⟨by decide +kernel, rfl⟩
theorem dX8_sleepOf_180 : q_d cX8_sleepOf 180 181 (.iadd) 1 := ⟨by decide +kernel, rfl⟩
theorem dX8_sleepOf_181 : q_d cX8_sleepOf 181 182 (.laload) 1 := ⟨by decide +kernel, rfl⟩
theorem dX8_sleepOf_182 : q_j cX8_sleepOf 182 185 194 (fun o => .goto o) := ⟨12, by decide +kernel, rfl, rfl⟩
theorem dX8_sleepOf_185 : q_d cX8_sleepOf 185 186 (.aload_n 0) 1 := ⟨by decide +kernel, rfl⟩
theorem dX8_sleepOf_186 : q_d cX8_sleepOf 186 189 (.getfield 35) 3 := ⟨by decide +kernel, rfl⟩
theorem dX8_sleepOf_189 : q_d cX8_sleepOf 189 191 (.iload 5) 2 := ⟨by decide +kernel, rfl⟩
theorem dX8_sleepOf_191 : q_d cX8_sleepOf 191 192 (.iconst 2) 1 := ⟨by decide +kernel, rfl⟩
theorem dX8_sleepOf_192 : q_d cX8_sleepOf 192 193 (.iadd) 1 := ⟨by decide +kernel, rfl⟩
theorem dX8_sleepOf_193 : q_d cX8_sleepOf 193 194 (.laload) 1 := ⟨by decide +kernel, rfl⟩
theorem dX8_sleepOf_194 : q_d cX8_sleepOf 194 195 (.lastore) 1 := ⟨by decide +kernel, rfl⟩
theorem dX8_sleepOf_195 : q_j cX8_sleepOf 195 198 310 (fun o => .goto o) := ⟨115, by decide +kernel, rfl, rfl⟩
theorem dX8_sleepOf_198 : q_d cX8_sleepOf 198 201 (.iinc 5 (-1)) 3 := ⟨by decide +kernel, rfl⟩
theorem dX8_sleepOf_201 : q_d cX8_sleepOf 201 202 (.aload_n 0) 1 := ⟨by decide +kernel, rfl⟩
theorem dX8_sleepOf_202 : q_d cX8_sleepOf 202 205 (.getfield 35) 3 := ⟨by decide +kernel, rfl⟩
theorem dX8_sleepOf_205 : q_d cX8_sleepOf 205 207 (.iload 5) 2 := ⟨by decide +kernel, rfl⟩
theorem dX8_sleepOf_207 : q_d cX8_sleepOf 207 208 (.iconst 1) 1 := ⟨by decide +kernel, rfl⟩
theorem dX8_sleepOf_208 : q_d cX8_sleepOf 208 209 (.isub) 1 := ⟨by decide +kernel, rfl⟩
theorem dX8_sleepOf_209 : q_d cX8_sleepOf 209 210 (.laload) 1 := ⟨by decide +kernel, rfl⟩
theorem dX8_sleepOf_210 : q_d cX8_sleepOf 210 212 (.lstore 8) 2 := ⟨by decide +kernel, rfl⟩
theorem dX8_sleepOf_212 : q_d cX8_sleepOf 212 213 (.aload_n 0) 1 := ⟨by decide +kernel, rfl⟩
theorem dX8_sleepOf_213 : q_d cX8_sleepOf 213 216 (.getfield 35) 3 := ⟨by decide +kernel, rfl⟩
theorem dX8_sleepOf_216 : q_d cX8_sleepOf 216 218 (.iload 5) 2 := ⟨by decide +kernel, rfl⟩
theorem dX8_sleepOf_218 : q_d cX8_sleepOf 218 219 (.laload) 1 := ⟨by decide +kernel, rfl⟩
theorem dX8_sleepOf_219 : q_d cX8_sleepOf 219 221 (.lstore 10) 2 := ⟨by decide +kernel, rfl⟩
theorem dX8_sleepOf_221 : q_d cX8_sleepOf 221 222 (.aload_n 0) 1 := ⟨by decide +kernel, rfl⟩
theorem dX8_sleepOf_222 : q_d cX8_sleepOf 222 225 (.getfield 35) 3 := ⟨by decide +kernel, rfl⟩
theorem dX8_sleepOf_225 : q_d cX8_sleepOf 225 227 (.iload 5) 2 := ⟨by decide +kernel, rfl⟩
theorem dX8_sleepOf_227 : q_d cX8_sleepOf 227 228 (.iconst 1) 1 := ⟨by decide +kernel, rfl⟩
theorem dX8_sleepOf_228 : q_d cX8_sleepOf 228 229 (.isub) 1 := ⟨by decide +kernel, rfl⟩
theorem dX8_sleepOf_229 : q_d cX8_sleepOf 229 231 (.iload 7) 2 := ⟨by decide +kernel, rfl⟩
theorem dX8_sleepOf_231 : q_d cX8_sleepOf 231 233 (.bipush 6) 2 := ⟨by decide +kernel, rfl⟩
theorem dX8_sleepOf_233 : q_j cX8_sleepOf 233 236 247 (fun o => .if_icmp .ne o) := ⟨14, by decide +kernel, rfl, rfl⟩
theorem dX8_sleepOf_236 : q_d cX8_sleepOf 236 238 (.lload 8) 2 := ⟨by decide +kernel, rfl⟩
theorem dX8_sleepOf_238 : q_d cX8_sleepOf 238 240 (.lload 10) 2 := ⟨by decide +kernel, rfl⟩
theorem dX8_sleepOf_240 : q_d cX8_sleepOf 240 241 (.ladd) 1 := ⟨by decide +kernel, rfl⟩
theorem dX8_sleepOf_241 : q_d cX8_sleepOf 241 244 (.invokestatic 280) 3 := ⟨by decide +kernel, rfl⟩
theorem dX8_sleepOf_244 : q_j cX8_sleepOf 244 247 309 (fun o => .goto o) := ⟨65, by decide +kernel, rfl, rfl⟩
theorem dX8_sleepOf_247 : q_d cX8_sleepOf 247 249 (.iload 7) 2 := ⟨by decide +kernel, rfl⟩
theorem dX8_sleepOf_249 : q_d cX8_sleepOf 249 251 (.bipush 7) 2 := ⟨by decide +kernel, rfl⟩
theorem dX8_sleepOf_251 : q_j cX8_sleepOf 251 254 265 (fun o => .if_icmp .ne o) := ⟨14, by decide +kernel, rfl, rfl⟩
theorem dX8_sleepOf_254 : q_d cX8_sleepOf 254 256 (.lload 8) 2 := ⟨by decide +kernel, rfl⟩
theorem dX8_sleepOf_256 : q_d cX8_sleepOf 256 258 (.lload 10) 2 := ⟨by decide +kernel, rfl⟩
theorem dX8_sleepOf_258 : q_d cX8_sleepOf 258 259 (.lsub) 1 := ⟨by decide +kernel, rfl⟩
theorem dX8_sleepOf_259 : q_d cX8_sleepOf 259 262 (.invokestatic 280) 3 := ⟨by decide +kernel, rfl⟩
theorem dX8_sleepOf_262 : q_j cX8_sleepOf 262 265 309 (fun o => .goto o) := ⟨47, by decide +kernel, rfl, rfl⟩
theorem dX8_sleepOf_265 : q_d cX8_sleepOf 265 267 (.iload 7) 2 := ⟨by decide +kernel, rfl⟩
theorem dX8_sleepOf_267 : q_d cX8_sleepOf 267 269 (.bipush 8) 2 := ⟨by decide +kernel, rfl⟩
theorem dX8_sleepOf_269 : q_j cX8_sleepOf 269 272 282 (fun o => .if_icmp .ne o) := ⟨13, by decide +kernel, rfl, rfl⟩
theorem dX8_sleepOf_272 : q_d cX8_sleepOf 272 274 (.lload 8) 2 := ⟨by decide +kernel, rfl⟩
theorem dX8_sleepOf_274 : q_d cX8_sleepOf 274 276 (.lload 10) 2 := ⟨by decide +kernel, rfl⟩
theorem dX8_sleepOf_276 : q_d cX8_sleepOf 276 279 (.invokestatic 284) 3 := ⟨by decide +kernel, rfl⟩
theorem dX8_sleepOf_279 : q_j cX8_sleepOf 279 282 309 (fun o => .goto o) := ⟨30, by decide +kernel, rfl, rfl⟩
theorem dX8_sleepOf_282 : q_d cX8_sleepOf 282 284 (.iload 7) 2 := ⟨by decide +kernel, rfl⟩
theorem dX8_sleepOf_284 : q_d cX8_sleepOf 284 286 (.bipush 9) 2 := ⟨by decide +kernel, rfl⟩
theorem dX8_sleepOf_286 : q_j cX8_sleepOf 286 289 302 (fun o => .if_icmp .ne o) := ⟨16, by decide +kernel, rfl, rfl⟩
theorem dX8_sleepOf_289 : q_d cX8_sleepOf 289 291 (.lload 8) 2 := ⟨by decide +kernel, rfl⟩
theorem dX8_sleepOf_291 : q_d cX8_sleepOf 291 293 (.lload 10) 2 := ⟨by decide +kernel, rfl⟩
theorem dX8_sleepOf_293 : q_d cX8_sleepOf 293 296 (.invokestatic 287) 3 := ⟨by decide +kernel, rfl⟩
theorem dX8_sleepOf_296 : q_d cX8_sleepOf 296 299 (.invokestatic 280) 3 := ⟨by decide +kernel, rfl⟩
theorem dX8_sleepOf_299 : q_j cX8_sleepOf 299 302 309 (fun o => .goto o) := ⟨10, by decide +kernel, rfl, rfl⟩
theorem dX8_sleepOf_302 : q_d cX8_sleepOf 302 304 (.lload 8) 2 := ⟨by decide +kernel, rfl⟩
theorem dX8_sleepOf_304 : q_d cX8_sleepOf 304 306 (.lload 10) 2 := ⟨by decide +kernel, rfl⟩
theorem dX8_sleepOf_306 : q_d cX8_sleepOf 306 309 (.invokestatic 119) 3 := ⟨by decide +kernel, rfl⟩
theorem dX8_sleepOf_309 : q_d cX8_sleepOf 309 310 (.lastore) 1 := ⟨by decide +kernel, rfl⟩
theorem dX8_sleepOf_310 : q_d cX8_sleepOf 310 313 (.iinc 6 1) 3 := ⟨by decide +kernel, rfl⟩
theorem dX8_sleepOf_313 : q_j cX8_sleepOf 313 316 23 (fun o => .goto o) := ⟨(-290), by decide +kernel, rfl, rfl⟩
theorem dX8_sleepOf_316 : q_d cX8_sleepOf 316 317 (.lconst 0) 1 := ⟨by decide +kernel, rfl⟩
theorem dX8_sleepOf_317 : q_d cX8_sleepOf 317 320 (.ldc2_w 290) 3 := ⟨by decide +kernel, rfl⟩
theorem dX8_sleepOf_320 : q_d cX8_sleepOf 320 321 (.aload_n 0) 1 := ⟨by decide +kernel, rfl⟩
theorem dX8_sleepOf_321 : q_d cX8_sleepOf 321 324 (.getfield 35) 3 := ⟨by decide +kernel, rfl⟩
theorem dX8_sleepOf_324 : q_d cX8_sleepOf 324 325 (.iconst 0) 1 := ⟨by decide +kernel, rfl⟩
theorem dX8_sleepOf_325 : q_d cX8_sleepOf 325 326 (.laload) 1 := ⟨by decide +kernel, rfl⟩
theorem dX8_sleepOf_326 : q_d cX8_sleepOf 326 329 (.invokestatic 119) 3 := ⟨by decide +kernel, rfl⟩
theorem dX8_sleepOf_329 : q_d cX8_sleepOf 329 332 (.invokestatic 292) 3 := ⟨by decide +kernel, rfl⟩
theorem dX8_sleepOf_332 : q_d cX8_sleepOf 332 333 (.lreturn) 1 := ⟨by decide +kernel, rfl⟩
theorem dX8_sets_0 : q_d cX8_sets 0 1 (.aload_n 0) 1 := ⟨by decide +kernel, rfl⟩
theorem dX8_sets_1 : q_d cX8_sets 1 2 (.iload_n 1) 1 := ⟨by decide +kernel, rfl⟩
theorem dX8_sets_2 : q_d cX8_sets 2 3 (.iload_n 2) 1 := ⟨by decide +kernel, rfl⟩
theorem dX8_sets_3 : q_d cX8_sets 3 6 (.invokestatic 58) 3 := ⟨by decide +kernel, rfl⟩
theorem dX8_sets_6 : q_d cX8_sets 6 7 (.lload_n 3) 1 := ⟨by decide +kernel, rfl⟩
theorem dX8_sets_7 : q_d cX8_sets 7 8 (.lastore) 1 := ⟨by decide +kernel, rfl⟩
theorem dX8_sets_8 : q_d cX8_sets 8 9 (.return_) 1 := ⟨by decide +kernel, rfl⟩
theorem dX8_adds_0 : q_d cX8_adds 0 1 (.aload_n 0) 1 := ⟨by decide +kernel, rfl⟩
theorem dX8_adds_1 : q_d cX8_adds 1 2 (.iload_n 1) 1 := ⟨by decide +kernel, rfl⟩
theorem dX8_adds_2 : q_d cX8_adds 2 3 (.iload_n 2) 1 := ⟨by decide +kernel, rfl⟩
theorem dX8_adds_3 : q_d cX8_adds 3 6 (.invokestatic 58) 3 := ⟨by decide +kernel, rfl⟩
theorem dX8_adds_6 : q_d cX8_adds 6 7 (.dup2) 1 := ⟨by decide +kernel, rfl⟩
theorem dX8_adds_7 : q_d cX8_adds 7 8 (.laload) 1 := ⟨by decide +kernel, rfl⟩
theorem dX8_adds_8 : q_d cX8_adds 8 9 (.lload_n 3) 1 := ⟨by decide +kernel, rfl⟩
theorem dX8_adds_9 : q_d cX8_adds 9 10 (.ladd) 1 := ⟨by decide +kernel, rfl⟩
theorem dX8_adds_10 : q_d cX8_adds 10 11 (.lastore) 1 := ⟨by decide +kernel, rfl⟩
theorem dX8_adds_11 : q_d cX8_adds 11 12 (.return_) 1 := ⟨by decide +kernel, rfl⟩
theorem dX8_writesTo_0 : q_d cX8_writesTo 0 1 (.aload_n 1) 1 := ⟨by decide +kernel, rfl⟩
theorem dX8_writesTo_1 : q_d cX8_writesTo 1 2 (.iconst 4) 1 := ⟨by decide +kernel, rfl⟩
theorem dX8_writesTo_2 : q_d cX8_writesTo 2 3 (.laload) 1 := ⟨by decide +kernel, rfl⟩
theorem dX8_writesTo_3 : q_d cX8_writesTo 3 4 (.aload_n 1) 1 := ⟨by decide +kernel, rfl⟩
theorem dX8_writesTo_4 : q_d cX8_writesTo 4 5 (.iload_n 2) 1 := ⟨by decide +kernel, rfl⟩
theorem dX8_writesTo_5 : q_d cX8_writesTo 5 6 (.iconst 3) 1 := ⟨by decide +kernel, rfl⟩
theorem dX8_writesTo_6 : q_d cX8_writesTo 6 9 (.invokestatic 268) 3 := ⟨by decide +kernel, rfl⟩
theorem dX8_writesTo_9 : q_d cX8_writesTo 9 12 (.invokestatic 119) 3 := ⟨by decide +kernel, rfl⟩
theorem dX8_writesTo_12 : q_d cX8_writesTo 12 14 (.lstore 5) 2 := ⟨by decide +kernel, rfl⟩
theorem dX8_writesTo_14 : q_d cX8_writesTo 14 15 (.aload_n 1) 1 := ⟨by decide +kernel, rfl⟩
theorem dX8_writesTo_15 : q_d cX8_writesTo 15 16 (.iload_n 2) 1 := ⟨by decide +kernel, rfl⟩
theorem dX8_writesTo_16 : q_d cX8_writesTo 16 17 (.iconst 3) 1 := ⟨by decide +kernel, rfl⟩
theorem dX8_writesTo_17 : q_d cX8_writesTo 17 19 (.lload 5) 2 := ⟨by decide +kernel, rfl⟩
theorem dX8_writesTo_19 : q_d cX8_writesTo 19 20 (.lneg) 1 := ⟨by decide +kernel, rfl⟩
theorem dX8_writesTo_20 : q_d cX8_writesTo 20 23 (.invokestatic 295) 3 := ⟨by decide +kernel, rfl⟩
theorem dX8_writesTo_23 : q_d cX8_writesTo 23 24 (.aload_n 1) 1 := ⟨by decide +kernel, rfl⟩
theorem dX8_writesTo_24 : q_d cX8_writesTo 24 26 (.bipush 20) 2 := ⟨by decide +kernel, rfl⟩
theorem dX8_writesTo_26 : q_d cX8_writesTo 26 27 (.dup2) 1 := ⟨by decide +kernel, rfl⟩
theorem dX8_writesTo_27 : q_d cX8_writesTo 27 28 (.laload) 1 := ⟨by decide +kernel, rfl⟩
theorem dX8_writesTo_28 : q_d cX8_writesTo 28 30 (.lload 5) 2 := ⟨by decide +kernel, rfl⟩
theorem dX8_writesTo_30 : q_d cX8_writesTo 30 31 (.ladd) 1 := ⟨by decide +kernel, rfl⟩
theorem dX8_writesTo_31 : q_d cX8_writesTo 31 32 (.lastore) 1 := ⟨by decide +kernel, rfl⟩
theorem dX8_writesTo_32 : q_d cX8_writesTo 32 33 (.aload_n 1) 1 := ⟨by decide +kernel, rfl⟩
theorem dX8_writesTo_33 : q_d cX8_writesTo 33 34 (.iload_n 2) 1 := ⟨by decide +kernel, rfl⟩
theorem dX8_writesTo_34 : q_d cX8_writesTo 34 36 (.bipush 7) 2 := ⟨by decide +kernel, rfl⟩
theorem dX8_writesTo_36 : q_d cX8_writesTo 36 37 (.lconst 1) 1 := ⟨by decide +kernel, rfl⟩
theorem dX8_writesTo_37 : q_d cX8_writesTo 37 40 (.invokestatic 295) 3 := ⟨by decide +kernel, rfl⟩
theorem dX8_writesTo_40 : q_d cX8_writesTo 40 41 (.aload_n 1) 1 := ⟨by decide +kernel, rfl⟩
theorem dX8_writesTo_41 : q_d cX8_writesTo 41 42 (.iload_n 2) 1 := ⟨by decide +kernel, rfl⟩
theorem dX8_writesTo_42 : q_d cX8_writesTo 42 43 (.iconst 4) 1 := ⟨by decide +kernel, rfl⟩
theorem dX8_writesTo_43 : q_d cX8_writesTo 43 44 (.lconst 1) 1 := ⟨by decide +kernel, rfl⟩
theorem dX8_writesTo_44 : q_d cX8_writesTo 44 47 (.invokestatic 299) 3 := ⟨by decide +kernel, rfl⟩
theorem dX8_writesTo_47 : q_d cX8_writesTo 47 48 (.aload_n 1) 1 := ⟨by decide +kernel, rfl⟩
theorem dX8_writesTo_48 : q_d cX8_writesTo 48 49 (.iload_n 2) 1 := ⟨by decide +kernel, rfl⟩
theorem dX8_writesTo_49 : q_d cX8_writesTo 49 51 (.bipush 9) 2 := ⟨by decide +kernel, rfl⟩
theorem dX8_writesTo_51 : q_d cX8_writesTo 51 52 (.lload_n 3) 1 := ⟨by decide +kernel, rfl⟩
theorem dX8_writesTo_52 : q_d cX8_writesTo 52 55 (.invokestatic 299) 3 := ⟨by decide +kernel, rfl⟩
theorem dX8_writesTo_55 : q_d cX8_writesTo 55 56 (.aload_n 1) 1 := ⟨by decide +kernel, rfl⟩
theorem dX8_writesTo_56 : q_d cX8_writesTo 56 58 (.bipush 7) 2 := ⟨by decide +kernel, rfl⟩
theorem dX8_writesTo_58 : q_d cX8_writesTo 58 59 (.dup2) 1 := ⟨by decide +kernel, rfl⟩
theorem dX8_writesTo_59 : q_d cX8_writesTo 59 60 (.laload) 1 := ⟨by decide +kernel, rfl⟩
theorem dX8_writesTo_60 : q_d cX8_writesTo 60 61 (.lconst 1) 1 := ⟨by decide +kernel, rfl⟩
theorem dX8_writesTo_61 : q_d cX8_writesTo 61 62 (.ladd) 1 := ⟨by decide +kernel, rfl⟩
theorem dX8_writesTo_62 : q_d cX8_writesTo 62 63 (.lastore) 1 := ⟨by decide +kernel, rfl⟩
theorem dX8_writesTo_63 : q_d cX8_writesTo 63 64 (.return_) 1 := ⟨by decide +kernel, rfl⟩
theorem dX8_hands_0 : q_d cX8_hands 0 1 (.aload_n 1) 1 := ⟨by decide +kernel, rfl⟩
theorem dX8_hands_1 : q_d cX8_hands 1 2 (.iload_n 2) 1 := ⟨by decide +kernel, rfl⟩
theorem dX8_hands_2 : q_d cX8_hands 2 3 (.iconst 3) 1 := ⟨by decide +kernel, rfl⟩
theorem dX8_hands_3 : q_d cX8_hands 3 6 (.invokestatic 268) 3 := ⟨by decide +kernel, rfl⟩
theorem dX8_hands_6 : q_d cX8_hands 6 8 (.lstore 6) 2 := ⟨by decide +kernel, rfl⟩
theorem dX8_hands_8 : q_d cX8_hands 8 11 (.sipush 1183) 3 := ⟨by decide +kernel, rfl⟩
theorem dX8_hands_11 : q_d cX8_hands 11 12 (.iconst 5) 1 := ⟨by decide +kernel, rfl⟩
theorem dX8_hands_12 : q_d cX8_hands 12 13 (.aload_n 1) 1 := ⟨by decide +kernel, rfl⟩
theorem dX8_hands_13 : q_d cX8_hands 13 15 (.bipush 6) 2 := ⟨by decide +kernel, rfl⟩
theorem dX8_hands_15 : q_d cX8_hands 15 16 (.laload) 1 := ⟨by decide +kernel, rfl⟩
theorem dX8_hands_16 : q_d cX8_hands 16 17 (.l2i) 1 := ⟨by decide +kernel, rfl⟩
theorem dX8_hands_17 : q_d cX8_hands 17 18 (.imul) 1 := ⟨by decide +kernel, rfl⟩
theorem dX8_hands_18 : q_d cX8_hands 18 19 (.iadd) 1 := ⟨by decide +kernel, rfl⟩
theorem dX8_hands_19 : q_d cX8_hands 19 21 (.istore 8) 2 := ⟨by decide +kernel, rfl⟩
theorem dX8_hands_21 : q_d cX8_hands 21 23 (.lload 6) 2 := ⟨by decide +kernel, rfl⟩
theorem dX8_hands_23 : q_d cX8_hands 23 24 (.aload_n 1) 1 := ⟨by decide +kernel, rfl⟩
theorem dX8_hands_24 : q_d cX8_hands 24 25 (.iload_n 3) 1 := ⟨by decide +kernel, rfl⟩
theorem dX8_hands_25 : q_d cX8_hands 25 27 (.bipush 8) 2 := ⟨by decide +kernel, rfl⟩
theorem dX8_hands_27 : q_d cX8_hands 27 30 (.invokestatic 176) 3 := ⟨by decide +kernel, rfl⟩
theorem dX8_hands_30 : q_d cX8_hands 30 31 (.laload) 1 := ⟨by decide +kernel, rfl⟩
theorem dX8_hands_31 : q_d cX8_hands 31 32 (.lcmp) 1 := ⟨by decide +kernel, rfl⟩
theorem dX8_hands_32 : q_j cX8_hands 32 35 39 (fun o => .ifCond .ge o) := ⟨7, by decide +kernel, rfl, rfl⟩
theorem dX8_hands_35 : q_d cX8_hands 35 36 (.iconst 1) 1 := ⟨by decide +kernel, rfl⟩
theorem dX8_hands_36 : q_j cX8_hands 36 39 40 (fun o => .goto o) := ⟨4, by decide +kernel, rfl, rfl⟩
theorem dX8_hands_39 : q_d cX8_hands 39 40 (.iconst 0) 1 := ⟨by decide +kernel, rfl⟩
theorem dX8_hands_40 : q_d cX8_hands 40 42 (.istore 9) 2 := ⟨by decide +kernel, rfl⟩
theorem dX8_hands_42 : q_d cX8_hands 42 43 (.aload_n 1) 1 := ⟨by decide +kernel, rfl⟩
theorem dX8_hands_43 : q_d cX8_hands 43 45 (.iload 8) 2 := ⟨by decide +kernel, rfl⟩
theorem dX8_hands_45 : q_d cX8_hands 45 47 (.lload 4) 2 := ⟨by decide +kernel, rfl⟩
theorem dX8_hands_47 : q_d cX8_hands 47 48 (.lastore) 1 := ⟨by decide +kernel, rfl⟩
theorem dX8_hands_48 : q_d cX8_hands 48 49 (.aload_n 1) 1 := ⟨by decide +kernel, rfl⟩
theorem dX8_hands_49 : q_d cX8_hands 49 51 (.iload 8) 2 := ⟨by decide +kernel, rfl⟩
theorem dX8_hands_51 : q_d cX8_hands 51 52 (.iconst 1) 1 := ⟨by decide +kernel, rfl⟩
theorem dX8_hands_52 : q_d cX8_hands 52 53 (.iadd) 1 := ⟨by decide +kernel, rfl⟩
theorem dX8_hands_53 : q_d cX8_hands 53 54 (.iload_n 2) 1 := ⟨by decide +kernel, rfl⟩
theorem dX8_hands_54 : q_d cX8_hands 54 55 (.i2l) 1 := ⟨by decide +kernel, rfl⟩
theorem dX8_hands_55 : q_d cX8_hands 55 56 (.lastore) 1 := ⟨by decide +kernel, rfl⟩
theorem dX8_hands_56 : q_d cX8_hands 56 57 (.aload_n 1) 1 := ⟨by decide +kernel, rfl⟩
theorem dX8_hands_57 : q_d cX8_hands 57 59 (.iload 8) 2 := ⟨by decide +kernel, rfl⟩
theorem dX8_hands_59 : q_d cX8_hands 59 60 (.iconst 2) 1 := ⟨by decide +kernel, rfl⟩
theorem dX8_hands_60 : q_d cX8_hands 60 61 (.iadd) 1 := ⟨by decide +kernel, rfl⟩
theorem dX8_hands_61 : q_d cX8_hands 61 62 (.iload_n 3) 1 := ⟨by decide +kernel, rfl⟩
theorem dX8_hands_62 : q_d cX8_hands 62 63 (.i2l) 1 := ⟨by decide +kernel, rfl⟩
theorem dX8_hands_63 : q_d cX8_hands 63 64 (.lastore) 1 := ⟨by decide +kernel, rfl⟩
theorem dX8_hands_64 : q_d cX8_hands 64 65 (.aload_n 1) 1 := ⟨by decide +kernel, rfl⟩
theorem dX8_hands_65 : q_d cX8_hands 65 67 (.iload 8) 2 := ⟨by decide +kernel, rfl⟩
theorem dX8_hands_67 : q_d cX8_hands 67 68 (.iconst 3) 1 := ⟨by decide +kernel, rfl⟩
theorem dX8_hands_68 : q_d cX8_hands 68 69 (.iadd) 1 := ⟨by decide +kernel, rfl⟩
theorem dX8_hands_69 : q_d cX8_hands 69 71 (.lload 6) 2 := ⟨by decide +kernel, rfl⟩
theorem dX8_hands_71 : q_d cX8_hands 71 72 (.lastore) 1 := ⟨by decide +kernel, rfl⟩
theorem dX8_hands_72 : q_d cX8_hands 72 73 (.aload_n 1) 1 := ⟨by decide +kernel, rfl⟩
theorem dX8_hands_73 : q_d cX8_hands 73 75 (.iload 8) 2 := ⟨by decide +kernel, rfl⟩
theorem dX8_hands_75 : q_d cX8_hands 75 76 (.iconst 4) 1 := ⟨by decide +kernel, rfl⟩
theorem dX8_hands_76 : q_d cX8_hands 76 77 (.iadd) 1 := ⟨by decide +kernel, rfl⟩
theorem dX8_hands_77 : q_d cX8_hands 77 79 (.iload 9) 2 := ⟨by decide +kernel, rfl⟩
theorem dX8_hands_79 : q_j cX8_hands 79 82 86 (fun o => .ifCond .eq o) := ⟨7, by decide +kernel, rfl, rfl⟩
theorem dX8_hands_82 : q_d cX8_hands 82 83 (.lconst 1) 1 := ⟨by decide +kernel, rfl⟩
theorem dX8_hands_83 : q_j cX8_hands 83 86 87 (fun o => .goto o) := ⟨4, by decide +kernel, rfl, rfl⟩
theorem dX8_hands_86 : q_d cX8_hands 86 87 (.lconst 0) 1 := ⟨by decide +kernel, rfl⟩
theorem dX8_hands_87 : q_d cX8_hands 87 88 (.lastore) 1 := ⟨by decide +kernel, rfl⟩
theorem dX8_hands_88 : q_d cX8_hands 88 89 (.aload_n 1) 1 := ⟨by decide +kernel, rfl⟩
theorem dX8_hands_89 : q_d cX8_hands 89 91 (.bipush 6) 2 := ⟨by decide +kernel, rfl⟩
theorem dX8_hands_91 : q_d cX8_hands 91 92 (.dup2) 1 := ⟨by decide +kernel, rfl⟩
theorem dX8_hands_92 : q_d cX8_hands 92 93 (.laload) 1 := ⟨by decide +kernel, rfl⟩
theorem dX8_hands_93 : q_d cX8_hands 93 94 (.lconst 1) 1 := ⟨by decide +kernel, rfl⟩
theorem dX8_hands_94 : q_d cX8_hands 94 95 (.ladd) 1 := ⟨by decide +kernel, rfl⟩
theorem dX8_hands_95 : q_d cX8_hands 95 96 (.lastore) 1 := ⟨by decide +kernel, rfl⟩
theorem dX8_hands_96 : q_d cX8_hands 96 97 (.aload_n 1) 1 := ⟨by decide +kernel, rfl⟩
theorem dX8_hands_97 : q_d cX8_hands 97 98 (.iload_n 2) 1 := ⟨by decide +kernel, rfl⟩
theorem dX8_hands_98 : q_d cX8_hands 98 99 (.iconst 4) 1 := ⟨by decide +kernel, rfl⟩
theorem dX8_hands_99 : q_d cX8_hands 99 102 (.ldc2_w 302) 3 := ⟨by decide +kernel, rfl⟩
theorem dX8_hands_102 : q_d cX8_hands 102 105 (.invokestatic 299) 3 := ⟨by decide +kernel, rfl⟩
theorem dX8_hands_105 : q_d cX8_hands 105 106 (.aload_n 1) 1 := ⟨by decide +kernel, rfl⟩
theorem dX8_hands_106 : q_d cX8_hands 106 107 (.iload_n 2) 1 := ⟨by decide +kernel, rfl⟩
theorem dX8_hands_107 : q_d cX8_hands 107 109 (.bipush 8) 2 := ⟨by decide +kernel, rfl⟩
theorem dX8_hands_109 : q_d cX8_hands 109 110 (.iload_n 3) 1 := ⟨by decide +kernel, rfl⟩
theorem dX8_hands_110 : q_d cX8_hands 110 111 (.i2l) 1 := ⟨by decide +kernel, rfl⟩
theorem dX8_hands_111 : q_d cX8_hands 111 114 (.invokestatic 299) 3 := ⟨by decide +kernel, rfl⟩
theorem dX8_hands_114 : q_d cX8_hands 114 115 (.aload_n 1) 1 := ⟨by decide +kernel, rfl⟩
theorem dX8_hands_115 : q_d cX8_hands 115 116 (.iload_n 2) 1 := ⟨by decide +kernel, rfl⟩
theorem dX8_hands_116 : q_d cX8_hands 116 118 (.bipush 10) 2 := ⟨by decide +kernel, rfl⟩
theorem dX8_hands_118 : q_d cX8_hands 118 120 (.iload 9) 2 := ⟨by decide +kernel, rfl⟩
theorem dX8_hands_120 : q_j cX8_hands 120 123 127 (fun o => .ifCond .eq o) := ⟨7, by decide +kernel, rfl, rfl⟩
theorem dX8_hands_123 : q_d cX8_hands 123 124 (.lconst 1) 1 := ⟨by decide +kernel, rfl⟩
theorem dX8_hands_124 : q_j cX8_hands 124 127 128 (fun o => .goto o) := ⟨4, by decide +kernel, rfl, rfl⟩
theorem dX8_hands_127 : q_d cX8_hands 127 128 (.lconst 0) 1 := ⟨by decide +kernel, rfl⟩
theorem dX8_hands_128 : q_d cX8_hands 128 131 (.invokestatic 299) 3 := ⟨by decide +kernel, rfl⟩
theorem dX8_hands_131 : q_d cX8_hands 131 132 (.aload_n 1) 1 := ⟨by decide +kernel, rfl⟩
theorem dX8_hands_132 : q_d cX8_hands 132 133 (.iload_n 2) 1 := ⟨by decide +kernel, rfl⟩
theorem dX8_hands_133 : q_d cX8_hands 133 135 (.bipush 11) 2 := ⟨by decide +kernel, rfl⟩
theorem dX8_hands_135 : q_d cX8_hands 135 137 (.lload 4) 2 := ⟨by decide +kernel, rfl⟩
theorem dX8_hands_137 : q_d cX8_hands 137 140 (.invokestatic 299) 3 := ⟨by decide +kernel, rfl⟩
theorem dX8_hands_140 : q_d cX8_hands 140 141 (.return_) 1 := ⟨by decide +kernel, rfl⟩
theorem dX8_goes_0 : q_d cX8_goes 0 1 (.aload_n 1) 1 := ⟨by decide +kernel, rfl⟩
theorem dX8_goes_1 : q_d cX8_goes 1 2 (.iload_n 2) 1 := ⟨by decide +kernel, rfl⟩
theorem dX8_goes_2 : q_d cX8_goes 2 5 (.invokestatic 304) 3 := ⟨by decide +kernel, rfl⟩
theorem dX8_goes_5 : q_j cX8_goes 5 8 10 (fun o => .ifCond .ne o) := ⟨5, by decide +kernel, rfl, rfl⟩
theorem dX8_goes_8 : q_d cX8_goes 8 9 (.iconst 0) 1 := ⟨by decide +kernel, rfl⟩
theorem dX8_goes_9 : q_d cX8_goes 9 10 (.ireturn) 1 := ⟨by decide +kernel, rfl⟩
theorem dX8_goes_10 : q_d cX8_goes 10 11 (.aload_n 1) 1 := ⟨by decide +kernel, rfl⟩
theorem dX8_goes_11 : q_d cX8_goes 11 12 (.iload_n 2) 1 := ⟨by decide +kernel, rfl⟩
theorem dX8_goes_12 : q_d cX8_goes 12 13 (.iconst 3) 1 := ⟨by decide +kernel, rfl⟩
theorem dX8_goes_13 : q_d cX8_goes 13 16 (.invokestatic 268) 3 := ⟨by decide +kernel, rfl⟩
theorem dX8_goes_16 : q_d cX8_goes 16 18 (.lstore 5) 2 := ⟨by decide +kernel, rfl⟩
theorem dX8_goes_18 : q_d cX8_goes 18 21 (.ldc2_w 308) 3 := ⟨by decide +kernel, rfl⟩
theorem dX8_goes_21 : q_d cX8_goes 21 23 (.lload 5) 2 := ⟨by decide +kernel, rfl⟩
theorem dX8_goes_23 : q_d cX8_goes 23 24 (.lsub) 1 := ⟨by decide +kernel, rfl⟩
theorem dX8_goes_24 : q_d cX8_goes 24 26 (.lload 5) 2 := ⟨by decide +kernel, rfl⟩
theorem dX8_goes_26 : q_d cX8_goes 26 27 (.aload_n 1) 1 := ⟨by decide +kernel, rfl⟩
theorem dX8_goes_27 : q_d cX8_goes 27 29 (.bipush 12) 2 := ⟨by decide +kernel, rfl⟩
theorem dX8_goes_29 : q_d cX8_goes 29 30 (.aload_n 1) 1 := ⟨by decide +kernel, rfl⟩
theorem dX8_goes_30 : q_d cX8_goes 30 31 (.iload_n 2) 1 := ⟨by decide +kernel, rfl⟩
theorem dX8_goes_31 : q_d cX8_goes 31 32 (.iconst 0) 1 := ⟨by decide +kernel, rfl⟩
theorem dX8_goes_32 : q_d cX8_goes 32 35 (.invokestatic 268) 3 := ⟨by decide +kernel, rfl⟩
theorem dX8_goes_35 : q_d cX8_goes 35 36 (.l2i) 1 := ⟨by decide +kernel, rfl⟩
theorem dX8_goes_36 : q_d cX8_goes 36 37 (.iadd) 1 := ⟨by decide +kernel, rfl⟩
theorem dX8_goes_37 : q_d cX8_goes 37 38 (.laload) 1 := ⟨by decide +kernel, rfl⟩
theorem dX8_goes_38 : q_d cX8_goes 38 39 (.lmul) 1 := ⟨by decide +kernel, rfl⟩
theorem dX8_goes_39 : q_d cX8_goes 39 42 (.ldc2_w 310) 3 := ⟨by decide +kernel, rfl⟩
theorem dX8_goes_42 : q_d cX8_goes 42 43 (.ldiv) 1 := ⟨by decide +kernel, rfl⟩
theorem dX8_goes_43 : q_d cX8_goes 43 46 (.invokestatic 119) 3 := ⟨by decide +kernel, rfl⟩
theorem dX8_goes_46 : q_d cX8_goes 46 48 (.lstore 7) 2 := ⟨by decide +kernel, rfl⟩
theorem dX8_goes_48 : q_d cX8_goes 48 49 (.aload_n 1) 1 := ⟨by decide +kernel, rfl⟩
theorem dX8_goes_49 : q_d cX8_goes 49 50 (.iload_n 2) 1 := ⟨by decide +kernel, rfl⟩
theorem dX8_goes_50 : q_d cX8_goes 50 51 (.iconst 3) 1 := ⟨by decide +kernel, rfl⟩
theorem dX8_goes_51 : q_d cX8_goes 51 53 (.lload 7) 2 := ⟨by decide +kernel, rfl⟩
theorem dX8_goes_53 : q_d cX8_goes 53 56 (.invokestatic 295) 3 := ⟨by decide +kernel, rfl⟩
theorem dX8_goes_56 : q_d cX8_goes 56 57 (.aload_n 1) 1 := ⟨by decide +kernel, rfl⟩
theorem dX8_goes_57 : q_d cX8_goes 57 59 (.bipush 18) 2 := ⟨by decide +kernel, rfl⟩
theorem dX8_goes_59 : q_d cX8_goes 59 60 (.dup2) 1 := ⟨by decide +kernel, rfl⟩
theorem dX8_goes_60 : q_d cX8_goes 60 61 (.laload) 1 := ⟨by decide +kernel, rfl⟩
theorem dX8_goes_61 : q_d cX8_goes 61 63 (.lload 7) 2 := ⟨by decide +kernel, rfl⟩
theorem dX8_goes_63 : q_d cX8_goes 63 64 (.ladd) 1 := ⟨by decide +kernel, rfl⟩
theorem dX8_goes_64 : q_d cX8_goes 64 65 (.lastore) 1 := ⟨by decide +kernel, rfl⟩
theorem dX8_goes_65 : q_d cX8_goes 65 66 (.aload_n 1) 1 := ⟨by decide +kernel, rfl⟩
theorem dX8_goes_66 : q_d cX8_goes 66 67 (.iload_n 2) 1 := ⟨by decide +kernel, rfl⟩
theorem dX8_goes_67 : q_d cX8_goes 67 68 (.iconst 5) 1 := ⟨by decide +kernel, rfl⟩
theorem dX8_goes_68 : q_d cX8_goes 68 69 (.lconst 1) 1 := ⟨by decide +kernel, rfl⟩
theorem dX8_goes_69 : q_d cX8_goes 69 72 (.invokestatic 295) 3 := ⟨by decide +kernel, rfl⟩
theorem dX8_goes_72 : q_d cX8_goes 72 73 (.aload_n 1) 1 := ⟨by decide +kernel, rfl⟩
theorem dX8_goes_73 : q_d cX8_goes 73 74 (.iload_n 2) 1 := ⟨by decide +kernel, rfl⟩
theorem dX8_goes_74 : q_d cX8_goes 74 76 (.bipush 6) 2 := ⟨by decide +kernel, rfl⟩
theorem dX8_goes_76 : q_d cX8_goes 76 77 (.lconst 1) 1 := ⟨by decide +kernel, rfl⟩
theorem dX8_goes_77 : q_d cX8_goes 77 80 (.invokestatic 295) 3 := ⟨by decide +kernel, rfl⟩
theorem dX8_goes_80 : q_d cX8_goes 80 81 (.aload_n 1) 1 := ⟨by decide +kernel, rfl⟩
theorem dX8_goes_81 : q_d cX8_goes 81 82 (.iload_n 2) 1 := ⟨by decide +kernel, rfl⟩
theorem dX8_goes_82 : q_d cX8_goes 82 85 (.invokestatic 312) 3 := ⟨by decide +kernel, rfl⟩
theorem dX8_goes_85 : q_d cX8_goes 85 87 (.istore 9) 2 := ⟨by decide +kernel, rfl⟩
theorem dX8_goes_87 : q_d cX8_goes 87 89 (.iload 9) 2 := ⟨by decide +kernel, rfl⟩
theorem dX8_goes_89 : q_d cX8_goes 89 90 (.iconst (-1)) 1 := ⟨by decide +kernel, rfl⟩
theorem dX8_goes_90 : q_j cX8_goes 90 93 95 (fun o => .if_icmp .ne o) := ⟨5, by decide +kernel, rfl, rfl⟩
theorem dX8_goes_93 : q_d cX8_goes 93 94 (.iconst 0) 1 := ⟨by decide +kernel, rfl⟩
theorem dX8_goes_94 : q_d cX8_goes 94 95 (.ireturn) 1 := ⟨by decide +kernel, rfl⟩
theorem dX8_goes_95 : q_d cX8_goes 95 96 (.aload_n 1) 1 := ⟨by decide +kernel, rfl⟩
theorem dX8_goes_96 : q_d cX8_goes 96 97 (.iload_n 2) 1 := ⟨by decide +kernel, rfl⟩
theorem dX8_goes_97 : q_d cX8_goes 97 98 (.iconst 4) 1 := ⟨by decide +kernel, rfl⟩
theorem dX8_goes_98 : q_d cX8_goes 98 101 (.invokestatic 268) 3 := ⟨by decide +kernel, rfl⟩
theorem dX8_goes_101 : q_d cX8_goes 101 102 (.lconst 0) 1 := ⟨by decide +kernel, rfl⟩
theorem dX8_goes_102 : q_d cX8_goes 102 103 (.lcmp) 1 := ⟨by decide +kernel, rfl⟩
theorem dX8_goes_103 : q_j cX8_goes 103 106 134 (fun o => .ifCond .ne o) := ⟨31, by decide +kernel, rfl, rfl⟩
theorem dX8_goes_106 : q_d cX8_goes 106 107 (.aload_n 1) 1 := ⟨by decide +kernel, rfl⟩
theorem dX8_goes_107 : q_d cX8_goes 107 108 (.iload_n 2) 1 := ⟨by decide +kernel, rfl⟩
theorem dX8_goes_108 : q_d cX8_goes 108 110 (.bipush 6) 2 := ⟨by decide +kernel, rfl⟩
theorem dX8_goes_110 : q_d cX8_goes 110 113 (.invokestatic 268) 3 := ⟨by decide +kernel, rfl⟩
theorem dX8_goes_113 : q_d cX8_goes 113 114 (.aload_n 0) 1 := ⟨by decide +kernel, rfl⟩
theorem dX8_goes_114 : q_d cX8_goes 114 115 (.aload_n 1) 1 := ⟨by decide +kernel, rfl⟩
theorem dX8_goes_115 : q_d cX8_goes 115 116 (.iload_n 2) 1 := ⟨by decide +kernel, rfl⟩
theorem dX8_goes_116 : q_d cX8_goes 116 118 (.iload 9) 2 := ⟨by decide +kernel, rfl⟩
theorem dX8_goes_118 : q_d cX8_goes 118 121 (.invokevirtual 316) 3 := ⟨by decide +kernel, rfl⟩
theorem dX8_goes_121 : q_d cX8_goes 121 122 (.lcmp) 1 := ⟨by decide +kernel, rfl⟩
theorem dX8_goes_122 : q_j cX8_goes 122 125 132 (fun o => .ifCond .lt o) := ⟨10, by decide +kernel, rfl, rfl⟩
theorem dX8_goes_125 : q_d cX8_goes 125 126 (.aload_n 0) 1 := ⟨by decide +kernel, rfl⟩
theorem dX8_goes_126 : q_d cX8_goes 126 127 (.aload_n 1) 1 := ⟨by decide +kernel, rfl⟩
theorem dX8_goes_127 : q_d cX8_goes 127 128 (.iload_n 2) 1 := ⟨by decide +kernel, rfl⟩
theorem dX8_goes_128 : q_d cX8_goes 128 129 (.lload_n 3) 1 := ⟨by decide +kernel, rfl⟩
theorem dX8_goes_129 : q_d cX8_goes 129 132 (.invokevirtual 319) 3 := ⟨by decide +kernel, rfl⟩
theorem dX8_goes_132 : q_d cX8_goes 132 133 (.iconst 0) 1 := ⟨by decide +kernel, rfl⟩
theorem dX8_goes_133 : q_d cX8_goes 133 134 (.ireturn) 1 := ⟨by decide +kernel, rfl⟩
theorem dX8_goes_134 : q_d cX8_goes 134 135 (.lload_n 3) 1 := ⟨by decide +kernel, rfl⟩
theorem dX8_goes_135 : q_d cX8_goes 135 136 (.aload_n 1) 1 := ⟨by decide +kernel, rfl⟩
theorem dX8_goes_136 : q_d cX8_goes 136 137 (.iload_n 2) 1 := ⟨by decide +kernel, rfl⟩
theorem dX8_goes_137 : q_d cX8_goes 137 139 (.bipush 9) 2 := ⟨by decide +kernel, rfl⟩
theorem dX8_goes_139 : q_d cX8_goes 139 142 (.invokestatic 268) 3 := ⟨by decide +kernel, rfl⟩
theorem dX8_goes_142 : q_d cX8_goes 142 143 (.lsub) 1 := ⟨by decide +kernel, rfl⟩
theorem dX8_goes_143 : q_d cX8_goes 143 144 (.aload_n 1) 1 := ⟨by decide +kernel, rfl⟩
theorem dX8_goes_144 : q_d cX8_goes 144 145 (.iconst 3) 1 := ⟨by decide +kernel, rfl⟩
theorem dX8_goes_145 : q_d cX8_goes 145 146 (.laload) 1 := ⟨by decide +kernel, rfl⟩
theorem dX8_goes_146 : q_d cX8_goes 146 147 (.lcmp) 1 := ⟨by decide +kernel, rfl⟩
theorem dX8_goes_147 : q_j cX8_goes 147 150 168 (fun o => .ifCond .lt o) := ⟨21, by decide +kernel, rfl, rfl⟩
theorem dX8_goes_150 : q_d cX8_goes 150 151 (.lload_n 3) 1 := ⟨by decide +kernel, rfl⟩
theorem dX8_goes_151 : q_d cX8_goes 151 154 (.ldc2_w 323) 3 := ⟨by decide +kernel, rfl⟩
theorem dX8_goes_154 : q_d cX8_goes 154 155 (.lrem) 1 := ⟨by decide +kernel, rfl⟩
theorem dX8_goes_155 : q_d cX8_goes 155 156 (.aload_n 1) 1 := ⟨by decide +kernel, rfl⟩
theorem dX8_goes_156 : q_d cX8_goes 156 158 (.iload 9) 2 := ⟨by decide +kernel, rfl⟩
theorem dX8_goes_158 : q_d cX8_goes 158 160 (.bipush 7) 2 := ⟨by decide +kernel, rfl⟩
theorem dX8_goes_160 : q_d cX8_goes 160 163 (.invokestatic 176) 3 := ⟨by decide +kernel, rfl⟩
theorem dX8_goes_163 : q_d cX8_goes 163 164 (.laload) 1 := ⟨by decide +kernel, rfl⟩
theorem dX8_goes_164 : q_d cX8_goes 164 165 (.lcmp) 1 := ⟨by decide +kernel, rfl⟩
theorem dX8_goes_165 : q_j cX8_goes 165 168 170 (fun o => .ifCond .eq o) := ⟨5, by decide +kernel, rfl, rfl⟩
theorem dX8_goes_168 : q_d cX8_goes 168 169 (.iconst 0) 1 := ⟨by decide +kernel, rfl⟩
theorem dX8_goes_169 : q_d cX8_goes 169 170 (.ireturn) 1 := ⟨by decide +kernel, rfl⟩
theorem dX8_goes_170 : q_d cX8_goes 170 171 (.aload_n 0) 1 := ⟨by decide +kernel, rfl⟩
theorem dX8_goes_171 : q_d cX8_goes 171 172 (.aload_n 1) 1 := ⟨by decide +kernel, rfl⟩
theorem dX8_goes_172 : q_d cX8_goes 172 173 (.iload_n 2) 1 := ⟨by decide +kernel, rfl⟩
theorem dX8_goes_173 : q_d cX8_goes 173 175 (.iload 9) 2 := ⟨by decide +kernel, rfl⟩
theorem dX8_goes_175 : q_d cX8_goes 175 176 (.lload_n 3) 1 := ⟨by decide +kernel, rfl⟩
theorem dX8_goes_176 : q_d cX8_goes 176 179 (.invokevirtual 325) 3 := ⟨by decide +kernel, rfl⟩
theorem dX8_goes_179 : q_d cX8_goes 179 180 (.iconst 1) 1 := ⟨by decide +kernel, rfl⟩
theorem dX8_goes_180 : q_d cX8_goes 180 181 (.ireturn) 1 := ⟨by decide +kernel, rfl⟩
theorem dX8_monthsGo_0 : q_d cX8_monthsGo 0 1 (.iconst 0) 1 := ⟨by decide +kernel, rfl⟩
theorem dX8_monthsGo_1 : q_d cX8_monthsGo 1 2 (.istore_n 3) 1 := ⟨by decide +kernel, rfl⟩
theorem dX8_monthsGo_2 : q_d cX8_monthsGo 2 3 (.iconst 0) 1 := ⟨by decide +kernel, rfl⟩
theorem dX8_monthsGo_3 : q_d cX8_monthsGo 3 5 (.istore 4) 2 := ⟨by decide +kernel, rfl⟩
theorem dX8_monthsGo_5 : q_d cX8_monthsGo 5 7 (.iload 4) 2 := ⟨by decide +kernel, rfl⟩
theorem dX8_monthsGo_7 : q_d cX8_monthsGo 7 8 (.iload_n 2) 1 := ⟨by decide +kernel, rfl⟩
theorem dX8_monthsGo_8 : q_j cX8_monthsGo 8 11 76 (fun o => .if_icmp .ge o) := ⟨68, by decide +kernel, rfl, rfl⟩
theorem dX8_monthsGo_11 : q_d cX8_monthsGo 11 12 (.aload_n 1) 1 := ⟨by decide +kernel, rfl⟩
theorem dX8_monthsGo_12 : q_d cX8_monthsGo 12 13 (.iconst 2) 1 := ⟨by decide +kernel, rfl⟩
theorem dX8_monthsGo_13 : q_d cX8_monthsGo 13 14 (.laload) 1 := ⟨by decide +kernel, rfl⟩
theorem dX8_monthsGo_14 : q_d cX8_monthsGo 14 17 (.ldc2_w 328) 3 := ⟨by decide +kernel, rfl⟩
theorem dX8_monthsGo_17 : q_d cX8_monthsGo 17 18 (.lcmp) 1 := ⟨by decide +kernel, rfl⟩
theorem dX8_monthsGo_18 : q_j cX8_monthsGo 18 21 76 (fun o => .ifCond .ge o) := ⟨58, by decide +kernel, rfl, rfl⟩
theorem dX8_monthsGo_21 : q_d cX8_monthsGo 21 22 (.iconst 0) 1 := ⟨by decide +kernel, rfl⟩
theorem dX8_monthsGo_22 : q_d cX8_monthsGo 22 24 (.istore 5) 2 := ⟨by decide +kernel, rfl⟩
theorem dX8_monthsGo_24 : q_d cX8_monthsGo 24 26 (.iload 5) 2 := ⟨by decide +kernel, rfl⟩
theorem dX8_monthsGo_26 : q_d cX8_monthsGo 26 27 (.i2l) 1 := ⟨by decide +kernel, rfl⟩
theorem dX8_monthsGo_27 : q_d cX8_monthsGo 27 28 (.aload_n 1) 1 := ⟨by decide +kernel, rfl⟩
theorem dX8_monthsGo_28 : q_d cX8_monthsGo 28 29 (.iconst 1) 1 := ⟨by decide +kernel, rfl⟩
theorem dX8_monthsGo_29 : q_d cX8_monthsGo 29 30 (.laload) 1 := ⟨by decide +kernel, rfl⟩
theorem dX8_monthsGo_30 : q_d cX8_monthsGo 30 31 (.lcmp) 1 := ⟨by decide +kernel, rfl⟩
theorem dX8_monthsGo_31 : q_j cX8_monthsGo 31 34 63 (fun o => .ifCond .ge o) := ⟨32, by decide +kernel, rfl, rfl⟩
theorem dX8_monthsGo_34 : q_d cX8_monthsGo 34 35 (.iload_n 3) 1 := ⟨by decide +kernel, rfl⟩
theorem dX8_monthsGo_35 : q_d cX8_monthsGo 35 36 (.aload_n 0) 1 := ⟨by decide +kernel, rfl⟩
theorem dX8_monthsGo_36 : q_d cX8_monthsGo 36 37 (.aload_n 1) 1 := ⟨by decide +kernel, rfl⟩
theorem dX8_monthsGo_37 : q_d cX8_monthsGo 37 39 (.iload 5) 2 := ⟨by decide +kernel, rfl⟩
theorem dX8_monthsGo_39 : q_d cX8_monthsGo 39 40 (.aload_n 1) 1 := ⟨by decide +kernel, rfl⟩
theorem dX8_monthsGo_40 : q_d cX8_monthsGo 40 41 (.iconst 2) 1 := ⟨by decide +kernel, rfl⟩
theorem dX8_monthsGo_41 : q_d cX8_monthsGo 41 42 (.laload) 1 := ⟨by decide +kernel, rfl⟩
theorem dX8_monthsGo_42 : q_d cX8_monthsGo 42 43 (.lconst 1) 1 := ⟨by decide +kernel, rfl⟩
theorem dX8_monthsGo_43 : q_d cX8_monthsGo 43 44 (.ladd) 1 := ⟨by decide +kernel, rfl⟩
theorem dX8_monthsGo_44 : q_d cX8_monthsGo 44 47 (.invokevirtual 330) 3 := ⟨by decide +kernel, rfl⟩
theorem dX8_monthsGo_47 : q_j cX8_monthsGo 47 50 54 (fun o => .ifCond .eq o) := ⟨7, by decide +kernel, rfl, rfl⟩
theorem dX8_monthsGo_50 : q_d cX8_monthsGo 50 51 (.iconst 1) 1 := ⟨by decide +kernel, rfl⟩
theorem dX8_monthsGo_51 : q_j cX8_monthsGo 51 54 55 (fun o => .goto o) := ⟨4, by decide +kernel, rfl, rfl⟩
theorem dX8_monthsGo_54 : q_d cX8_monthsGo 54 55 (.iconst 0) 1 := ⟨by decide +kernel, rfl⟩
theorem dX8_monthsGo_55 : q_d cX8_monthsGo 55 56 (.iadd) 1 := ⟨by decide +kernel, rfl⟩
theorem dX8_monthsGo_56 : q_d cX8_monthsGo 56 57 (.istore_n 3) 1 := ⟨by decide +kernel, rfl⟩
theorem dX8_monthsGo_57 : q_d cX8_monthsGo 57 60 (.iinc 5 1) 3 := ⟨by decide +kernel, rfl⟩
theorem dX8_monthsGo_60 : q_j cX8_monthsGo 60 63 24 (fun o => .goto o) := ⟨(-36), by decide +kernel, rfl, rfl⟩
theorem dX8_monthsGo_63 : q_d cX8_monthsGo 63 64 (.aload_n 1) 1 := ⟨by decide +kernel, rfl⟩
theorem dX8_monthsGo_64 : q_d cX8_monthsGo 64 65 (.iconst 2) 1 := ⟨by decide +kernel, rfl⟩
theorem dX8_monthsGo_65 : q_d cX8_monthsGo 65 66 (.dup2) 1 := ⟨by decide +kernel, rfl⟩
theorem dX8_monthsGo_66 : q_d cX8_monthsGo 66 67 (.laload) 1 := ⟨by decide +kernel, rfl⟩
theorem dX8_monthsGo_67 : q_d cX8_monthsGo 67 68 (.lconst 1) 1 := ⟨by decide +kernel, rfl⟩
theorem dX8_monthsGo_68 : q_d cX8_monthsGo 68 69 (.ladd) 1 := ⟨by decide +kernel, rfl⟩
theorem dX8_monthsGo_69 : q_d cX8_monthsGo 69 70 (.lastore) 1 := ⟨by decide +kernel, rfl⟩
theorem dX8_monthsGo_70 : q_d cX8_monthsGo 70 73 (.iinc 4 1) 3 := ⟨by decide +kernel, rfl⟩
theorem dX8_monthsGo_73 : q_j cX8_monthsGo 73 76 5 (fun o => .goto o) := ⟨(-68), by decide +kernel, rfl, rfl⟩
theorem dX8_monthsGo_76 : q_d cX8_monthsGo 76 77 (.iload_n 3) 1 := ⟨by decide +kernel, rfl⟩
theorem dX8_monthsGo_77 : q_d cX8_monthsGo 77 78 (.ireturn) 1 := ⟨by decide +kernel, rfl⟩
theorem dX8_remembers_0 : q_d cX8_remembers 0 1 (.aload_n 0) 1 := ⟨by decide +kernel, rfl⟩
theorem dX8_remembers_1 : q_d cX8_remembers 1 4 (.getfield 334) 3 := ⟨by decide +kernel, rfl⟩
theorem dX8_remembers_4 : q_d cX8_remembers 4 6 (.bipush 8) 2 := ⟨by decide +kernel, rfl⟩
theorem dX8_remembers_6 : q_j cX8_remembers 6 9 50 (fun o => .if_icmp .ne o) := ⟨44, by decide +kernel, rfl, rfl⟩
theorem dX8_remembers_9 : q_d cX8_remembers 9 10 (.iconst 1) 1 := ⟨by decide +kernel, rfl⟩
theorem dX8_remembers_10 : q_d cX8_remembers 10 11 (.istore_n 1) 1 := ⟨by decide +kernel, rfl⟩
theorem dX8_remembers_11 : q_d cX8_remembers 11 12 (.iload_n 1) 1 := ⟨by decide +kernel, rfl⟩
theorem dX8_remembers_12 : q_d cX8_remembers 12 14 (.bipush 8) 2 := ⟨by decide +kernel, rfl⟩
theorem dX8_remembers_14 : q_j cX8_remembers 14 17 40 (fun o => .if_icmp .ge o) := ⟨26, by decide +kernel, rfl, rfl⟩
theorem dX8_remembers_17 : q_d cX8_remembers 17 18 (.aload_n 0) 1 := ⟨by decide +kernel, rfl⟩
theorem dX8_remembers_18 : q_d cX8_remembers 18 21 (.getfield 32) 3 := ⟨by decide +kernel, rfl⟩
theorem dX8_remembers_21 : q_d cX8_remembers 21 22 (.iload_n 1) 1 := ⟨by decide +kernel, rfl⟩
theorem dX8_remembers_22 : q_d cX8_remembers 22 23 (.aaload) 1 := ⟨by decide +kernel, rfl⟩
theorem dX8_remembers_23 : q_d cX8_remembers 23 24 (.aload_n 0) 1 := ⟨by decide +kernel, rfl⟩
theorem dX8_remembers_24 : q_d cX8_remembers 24 27 (.getfield 32) 3 := ⟨by decide +kernel, rfl⟩
theorem dX8_remembers_27 : q_d cX8_remembers 27 28 (.iload_n 1) 1 := ⟨by decide +kernel, rfl⟩
theorem dX8_remembers_28 : q_d cX8_remembers 28 29 (.iconst 1) 1 := ⟨by decide +kernel, rfl⟩
theorem dX8_remembers_29 : q_d cX8_remembers 29 30 (.isub) 1 := ⟨by decide +kernel, rfl⟩
theorem dX8_remembers_30 : q_d cX8_remembers 30 31 (.aaload) 1 := ⟨by decide +kernel, rfl⟩
theorem dX8_remembers_31 : q_d cX8_remembers 31 34 (.invokestatic 261) 3 := ⟨by decide +kernel, rfl⟩
theorem dX8_remembers_34 : q_d cX8_remembers 34 37 (.iinc 1 1) 3 := ⟨by decide +kernel, rfl⟩
theorem dX8_remembers_37 : q_j cX8_remembers 37 40 11 (fun o => .goto o) := ⟨(-26), by decide +kernel, rfl, rfl⟩
theorem dX8_remembers_40 : q_d cX8_remembers 40 41 (.aload_n 0) 1 := ⟨by decide +kernel, rfl⟩
theorem dX8_remembers_41 : q_d cX8_remembers 41 42 (.dup) 1 := ⟨by decide +kernel, rfl⟩
theorem dX8_remembers_42 : q_d cX8_remembers 42 45 (.getfield 334) 3 := ⟨by decide +kernel, rfl⟩
theorem dX8_remembers_45 : q_d cX8_remembers 45 46 (.iconst 1) 1 := ⟨by decide +kernel, rfl⟩
theorem dX8_remembers_46 : q_d cX8_remembers 46 47 (.isub) 1 := ⟨by decide +kernel, rfl⟩
theorem dX8_remembers_47 : q_d cX8_remembers 47 50 (.putfield 334) 3 := ⟨by decide +kernel, rfl⟩
theorem dX8_remembers_50 : q_d cX8_remembers 50 51 (.aload_n 0) 1 := ⟨by decide +kernel, rfl⟩
theorem dX8_remembers_51 : q_d cX8_remembers 51 54 (.getfield 20) 3 := ⟨by decide +kernel, rfl⟩
theorem dX8_remembers_54 : q_d cX8_remembers 54 55 (.aload_n 0) 1 := ⟨by decide +kernel, rfl⟩
theorem dX8_remembers_55 : q_d cX8_remembers 55 58 (.getfield 32) 3 := ⟨by decide +kernel, rfl⟩
theorem dX8_remembers_58 : q_d cX8_remembers 58 59 (.aload_n 0) 1 := ⟨by decide +kernel, rfl⟩
theorem dX8_remembers_59 : q_d cX8_remembers 59 62 (.getfield 334) 3 := ⟨by decide +kernel, rfl⟩
theorem dX8_remembers_62 : q_d cX8_remembers 62 63 (.aaload) 1 := ⟨by decide +kernel, rfl⟩
theorem dX8_remembers_63 : q_d cX8_remembers 63 66 (.invokestatic 261) 3 := ⟨by decide +kernel, rfl⟩
theorem dX8_remembers_66 : q_d cX8_remembers 66 67 (.aload_n 0) 1 := ⟨by decide +kernel, rfl⟩
theorem dX8_remembers_67 : q_d cX8_remembers 67 68 (.dup) 1 := ⟨by decide +kernel, rfl⟩
theorem dX8_remembers_68 : q_d cX8_remembers 68 71 (.getfield 334) 3 := ⟨by decide +kernel, rfl⟩
theorem dX8_remembers_71 : q_d cX8_remembers 71 72 (.iconst 1) 1 := ⟨by decide +kernel, rfl⟩
theorem dX8_remembers_72 : q_d cX8_remembers 72 73 (.iadd) 1 := ⟨by decide +kernel, rfl⟩
theorem dX8_remembers_73 : q_d cX8_remembers 73 76 (.putfield 334) 3 := ⟨by decide +kernel, rfl⟩
theorem dX8_remembers_76 : q_d cX8_remembers 76 77 (.return_) 1 := ⟨by decide +kernel, rfl⟩
theorem dX8_undo_0 : q_d cX8_undo 0 1 (.aload_n 0) 1 := ⟨by decide +kernel, rfl⟩
theorem dX8_undo_1 : q_d cX8_undo 1 2 (.iconst 0) 1 := ⟨by decide +kernel, rfl⟩
theorem dX8_undo_2 : q_d cX8_undo 2 5 (.putfield 52) 3 := ⟨by decide +kernel, rfl⟩
theorem dX8_undo_5 : q_d cX8_undo 5 6 (.aload_n 0) 1 := ⟨by decide +kernel, rfl⟩
theorem dX8_undo_6 : q_d cX8_undo 6 9 (.getfield 334) 3 := ⟨by decide +kernel, rfl⟩
theorem dX8_undo_9 : q_j cX8_undo 9 12 14 (fun o => .ifCond .ne o) := ⟨5, by decide +kernel, rfl, rfl⟩
theorem dX8_undo_12 : q_d cX8_undo 12 13 (.iconst (-1)) 1 := ⟨by decide +kernel, rfl⟩
theorem dX8_undo_13 : q_d cX8_undo 13 14 (.ireturn) 1 := ⟨by decide +kernel, rfl⟩
theorem dX8_undo_14 : q_d cX8_undo 14 15 (.aload_n 0) 1 := ⟨by decide +kernel, rfl⟩
theorem dX8_undo_15 : q_d cX8_undo 15 16 (.dup) 1 := ⟨by decide +kernel, rfl⟩
theorem dX8_undo_16 : q_d cX8_undo 16 19 (.getfield 334) 3 := ⟨by decide +kernel, rfl⟩
theorem dX8_undo_19 : q_d cX8_undo 19 20 (.iconst 1) 1 := ⟨by decide +kernel, rfl⟩
theorem dX8_undo_20 : q_d cX8_undo 20 21 (.isub) 1 := ⟨by decide +kernel, rfl⟩
theorem dX8_undo_21 : q_d cX8_undo 21 24 (.putfield 334) 3 := ⟨by decide +kernel, rfl⟩
theorem dX8_undo_24 : q_d cX8_undo 24 25 (.aload_n 0) 1 := ⟨by decide +kernel, rfl⟩
theorem dX8_undo_25 : q_d cX8_undo 25 28 (.getfield 32) 3 := ⟨by decide +kernel, rfl⟩
theorem dX8_undo_28 : q_d cX8_undo 28 29 (.aload_n 0) 1 := ⟨by decide +kernel, rfl⟩
theorem dX8_undo_29 : q_d cX8_undo 29 32 (.getfield 334) 3 := ⟨by decide +kernel, rfl⟩
theorem dX8_undo_32 : q_d cX8_undo 32 33 (.aaload) 1 := ⟨by decide +kernel, rfl⟩
theorem dX8_undo_33 : q_d cX8_undo 33 34 (.aload_n 0) 1 := ⟨by decide +kernel, rfl⟩
theorem dX8_undo_34 : q_d cX8_undo 34 37 (.getfield 20) 3 := ⟨by decide +kernel, rfl⟩
theorem dX8_undo_37 : q_d cX8_undo 37 40 (.invokestatic 261) 3 := ⟨by decide +kernel, rfl⟩
theorem dX8_undo_40 : q_d cX8_undo 40 41 (.aload_n 0) 1 := ⟨by decide +kernel, rfl⟩
theorem dX8_undo_41 : q_d cX8_undo 41 44 (.getfield 334) 3 := ⟨by decide +kernel, rfl⟩
theorem dX8_undo_44 : q_d cX8_undo 44 45 (.ireturn) 1 := ⟨by decide +kernel, rfl⟩
theorem dX8_isLand_0 : q_d cX8_isLand 0 1 (.iload_n 1) 1 := ⟨by decide +kernel, rfl⟩
theorem dX8_isLand_1 : q_d cX8_isLand 1 2 (.i2l) 1 := ⟨by decide +kernel, rfl⟩
theorem dX8_isLand_2 : q_d cX8_isLand 2 3 (.lconst 0) 1 := ⟨by decide +kernel, rfl⟩
theorem dX8_isLand_3 : q_d cX8_isLand 3 4 (.aload_n 0) 1 := ⟨by decide +kernel, rfl⟩
theorem dX8_isLand_4 : q_d cX8_isLand 4 7 (.invokevirtual 265) 3 := ⟨by decide +kernel, rfl⟩
theorem dX8_isLand_7 : q_d cX8_isLand 7 8 (.iconst 1) 1 := ⟨by decide +kernel, rfl⟩
theorem dX8_isLand_8 : q_d cX8_isLand 8 9 (.isub) 1 := ⟨by decide +kernel, rfl⟩
theorem dX8_isLand_9 : q_d cX8_isLand 9 10 (.i2l) 1 := ⟨by decide +kernel, rfl⟩
theorem dX8_isLand_10 : q_d cX8_isLand 10 13 (.invokestatic 123) 3 := ⟨by decide +kernel, rfl⟩
theorem dX8_isLand_13 : q_d cX8_isLand 13 14 (.ireturn) 1 := ⟨by decide +kernel, rfl⟩
theorem dX8_isAccount_0 : q_d cX8_isAccount 0 1 (.iload_n 1) 1 := ⟨by decide +kernel, rfl⟩
theorem dX8_isAccount_1 : q_d cX8_isAccount 1 2 (.i2l) 1 := ⟨by decide +kernel, rfl⟩
theorem dX8_isAccount_2 : q_d cX8_isAccount 2 3 (.lconst 0) 1 := ⟨by decide +kernel, rfl⟩
theorem dX8_isAccount_3 : q_d cX8_isAccount 3 4 (.aload_n 0) 1 := ⟨by decide +kernel, rfl⟩
theorem dX8_isAccount_4 : q_d cX8_isAccount 4 7 (.invokevirtual 337) 3 := ⟨by decide +kernel, rfl⟩
theorem dX8_isAccount_7 : q_d cX8_isAccount 7 8 (.iconst 1) 1 := ⟨by decide +kernel, rfl⟩
theorem dX8_isAccount_8 : q_d cX8_isAccount 8 9 (.isub) 1 := ⟨by decide +kernel, rfl⟩
theorem dX8_isAccount_9 : q_d cX8_isAccount 9 10 (.i2l) 1 := ⟨by decide +kernel, rfl⟩
theorem dX8_isAccount_10 : q_d cX8_isAccount 10 13 (.invokestatic 123) 3 := ⟨by decide +kernel, rfl⟩
theorem dX8_isAccount_13 : q_d cX8_isAccount 13 14 (.ireturn) 1 := ⟨by decide +kernel, rfl⟩
theorem dX8_isLive_0 : q_d cX8_isLive 0 1 (.aload_n 0) 1 := ⟨by decide +kernel, rfl⟩
theorem dX8_isLive_1 : q_d cX8_isLive 1 2 (.iload_n 1) 1 := ⟨by decide +kernel, rfl⟩
theorem dX8_isLive_2 : q_d cX8_isLive 2 5 (.invokevirtual 340) 3 := ⟨by decide +kernel, rfl⟩
theorem dX8_isLive_5 : q_j cX8_isLive 5 8 23 (fun o => .ifCond .eq o) := ⟨18, by decide +kernel, rfl, rfl⟩
theorem dX8_isLive_8 : q_d cX8_isLive 8 9 (.aload_n 0) 1 := ⟨by decide +kernel, rfl⟩
theorem dX8_isLive_9 : q_d cX8_isLive 9 12 (.getfield 20) 3 := ⟨by decide +kernel, rfl⟩
theorem dX8_isLive_12 : q_d cX8_isLive 12 13 (.iload_n 1) 1 := ⟨by decide +kernel, rfl⟩
theorem dX8_isLive_13 : q_d cX8_isLive 13 16 (.invokestatic 304) 3 := ⟨by decide +kernel, rfl⟩
theorem dX8_isLive_16 : q_j cX8_isLive 16 19 23 (fun o => .ifCond .eq o) := ⟨7, by decide +kernel, rfl, rfl⟩
theorem dX8_isLive_19 : q_d cX8_isLive 19 20 (.iconst 1) 1 := ⟨by decide +kernel, rfl⟩
theorem dX8_isLive_20 : q_j cX8_isLive 20 23 24 (fun o => .goto o) := ⟨4, by decide +kernel, rfl, rfl⟩
theorem dX8_isLive_23 : q_d cX8_isLive 23 24 (.iconst 0) 1 := ⟨by decide +kernel, rfl⟩
theorem dX8_isLive_24 : q_d cX8_isLive 24 25 (.ireturn) 1 := ⟨by decide +kernel, rfl⟩
theorem dX8_open_0 : q_d cX8_open 0 1 (.aload_n 0) 1 := ⟨by decide +kernel, rfl⟩
theorem dX8_open_1 : q_d cX8_open 1 2 (.iconst 0) 1 := ⟨by decide +kernel, rfl⟩
theorem dX8_open_2 : q_d cX8_open 2 5 (.putfield 52) 3 := ⟨by decide +kernel, rfl⟩
theorem dX8_open_5 : q_d cX8_open 5 6 (.aload_n 0) 1 := ⟨by decide +kernel, rfl⟩
theorem dX8_open_6 : q_d cX8_open 6 7 (.iload_n 2) 1 := ⟨by decide +kernel, rfl⟩
theorem dX8_open_7 : q_d cX8_open 7 8 (.iconst (-1)) 1 := ⟨by decide +kernel, rfl⟩
theorem dX8_open_8 : q_j cX8_open 8 11 19 (fun o => .if_icmp .eq o) := ⟨11, by decide +kernel, rfl, rfl⟩
theorem dX8_open_11 : q_d cX8_open 11 12 (.aload_n 0) 1 := ⟨by decide +kernel, rfl⟩
theorem dX8_open_12 : q_d cX8_open 12 13 (.iload_n 2) 1 := ⟨by decide +kernel, rfl⟩
theorem dX8_open_13 : q_d cX8_open 13 16 (.invokevirtual 343) 3 := ⟨by decide +kernel, rfl⟩
theorem dX8_open_16 : q_j cX8_open 16 19 32 (fun o => .ifCond .eq o) := ⟨16, by decide +kernel, rfl, rfl⟩
theorem dX8_open_19 : q_d cX8_open 19 20 (.iload_n 3) 1 := ⟨by decide +kernel, rfl⟩
theorem dX8_open_20 : q_d cX8_open 20 21 (.iconst (-1)) 1 := ⟨by decide +kernel, rfl⟩
theorem dX8_open_21 : q_j cX8_open 21 24 36 (fun o => .if_icmp .eq o) := ⟨15, by decide +kernel, rfl, rfl⟩
theorem dX8_open_24 : q_d cX8_open 24 25 (.aload_n 0) 1 := ⟨by decide +kernel, rfl⟩
theorem dX8_open_25 : q_d cX8_open 25 26 (.iload_n 3) 1 := ⟨by decide +kernel, rfl⟩
theorem dX8_open_26 : q_d cX8_open 26 29 (.invokevirtual 343) 3 := ⟨by decide +kernel, rfl⟩
theorem dX8_open_29 : q_j cX8_open 29 32 36 (fun o => .ifCond .ne o) := ⟨7, by decide +kernel, rfl, rfl⟩
theorem dX8_open_32 : q_d cX8_open 32 33 (.iconst 1) 1 := ⟨by decide +kernel, rfl⟩
theorem dX8_open_33 : q_j cX8_open 33 36 37 (fun o => .goto o) := ⟨4, by decide +kernel, rfl, rfl⟩
theorem dX8_open_36 : q_d cX8_open 36 37 (.iconst 0) 1 := ⟨by decide +kernel, rfl⟩
theorem dX8_open_37 : q_d cX8_open 37 38 (.iconst 1) 1 := ⟨by decide +kernel, rfl⟩
theorem dX8_open_38 : q_d cX8_open 38 39 (.iconst 0) 1 := ⟨by decide +kernel, rfl⟩
theorem dX8_open_39 : q_d cX8_open 39 42 (.invokevirtual 251) 3 := ⟨by decide +kernel, rfl⟩
theorem dX8_open_42 : q_j cX8_open 42 45 107 (fun o => .ifCond .ne o) := ⟨65, by decide +kernel, rfl, rfl⟩
theorem dX8_open_45 : q_d cX8_open 45 46 (.aload_n 0) 1 := ⟨by decide +kernel, rfl⟩
theorem dX8_open_46 : q_d cX8_open 46 47 (.iload_n 1) 1 := ⟨by decide +kernel, rfl⟩
theorem dX8_open_47 : q_d cX8_open 47 48 (.i2l) 1 := ⟨by decide +kernel, rfl⟩
theorem dX8_open_48 : q_d cX8_open 48 49 (.lconst 0) 1 := ⟨by decide +kernel, rfl⟩
theorem dX8_open_49 : q_d cX8_open 49 52 (.ldc2_w 346) 3 := ⟨by decide +kernel, rfl⟩
theorem dX8_open_52 : q_d cX8_open 52 55 (.invokestatic 123) 3 := ⟨by decide +kernel, rfl⟩
theorem dX8_open_55 : q_j cX8_open 55 58 71 (fun o => .ifCond .eq o) := ⟨16, by decide +kernel, rfl, rfl⟩
theorem dX8_open_58 : q_d cX8_open 58 60 (.iload 4) 2 := ⟨by decide +kernel, rfl⟩
theorem dX8_open_60 : q_d cX8_open 60 61 (.i2l) 1 := ⟨by decide +kernel, rfl⟩
theorem dX8_open_61 : q_d cX8_open 61 62 (.lconst 0) 1 := ⟨by decide +kernel, rfl⟩
theorem dX8_open_62 : q_d cX8_open 62 65 (.ldc2_w 308) 3 := ⟨by decide +kernel, rfl⟩
theorem dX8_open_65 : q_d cX8_open 65 68 (.invokestatic 123) 3 := ⟨by decide +kernel, rfl⟩
theorem dX8_open_68 : q_j cX8_open 68 71 75 (fun o => .ifCond .ne o) := ⟨7, by decide +kernel, rfl, rfl⟩
theorem dX8_open_71 : q_d cX8_open 71 72 (.iconst 1) 1 := ⟨by decide +kernel, rfl⟩
theorem dX8_open_72 : q_j cX8_open 72 75 76 (fun o => .goto o) := ⟨4, by decide +kernel, rfl, rfl⟩
theorem dX8_open_75 : q_d cX8_open 75 76 (.iconst 0) 1 := ⟨by decide +kernel, rfl⟩
theorem dX8_open_76 : q_d cX8_open 76 77 (.iconst 2) 1 := ⟨by decide +kernel, rfl⟩
theorem dX8_open_77 : q_d cX8_open 77 78 (.iconst 1) 1 := ⟨by decide +kernel, rfl⟩
theorem dX8_open_78 : q_d cX8_open 78 81 (.invokevirtual 251) 3 := ⟨by decide +kernel, rfl⟩
theorem dX8_open_81 : q_j cX8_open 81 84 107 (fun o => .ifCond .ne o) := ⟨26, by decide +kernel, rfl, rfl⟩
theorem dX8_open_84 : q_d cX8_open 84 85 (.aload_n 0) 1 := ⟨by decide +kernel, rfl⟩
theorem dX8_open_85 : q_d cX8_open 85 86 (.aload_n 0) 1 := ⟨by decide +kernel, rfl⟩
theorem dX8_open_86 : q_d cX8_open 86 89 (.invokevirtual 337) 3 := ⟨by decide +kernel, rfl⟩
theorem dX8_open_89 : q_d cX8_open 89 91 (.bipush 12) 2 := ⟨by decide +kernel, rfl⟩
theorem dX8_open_91 : q_j cX8_open 91 94 98 (fun o => .if_icmp .ne o) := ⟨7, by decide +kernel, rfl, rfl⟩
theorem dX8_open_94 : q_d cX8_open 94 95 (.iconst 1) 1 := ⟨by decide +kernel, rfl⟩
theorem dX8_open_95 : q_j cX8_open 95 98 99 (fun o => .goto o) := ⟨4, by decide +kernel, rfl, rfl⟩
theorem dX8_open_98 : q_d cX8_open 98 99 (.iconst 0) 1 := ⟨by decide +kernel, rfl⟩
theorem dX8_open_99 : q_d cX8_open 99 100 (.iconst 3) 1 := ⟨by decide +kernel, rfl⟩
theorem dX8_open_100 : q_d cX8_open 100 101 (.iconst 2) 1 := ⟨by decide +kernel, rfl⟩
theorem dX8_open_101 : q_d cX8_open 101 104 (.invokevirtual 251) 3 := ⟨by decide +kernel, rfl⟩
theorem dX8_open_104 : q_j cX8_open 104 107 109 (fun o => .ifCond .eq o) := ⟨5, by decide +kernel, rfl, rfl⟩
theorem dX8_open_107 : q_d cX8_open 107 108 (.iconst 0) 1 := ⟨by decide +kernel, rfl⟩
theorem dX8_open_108 : q_d cX8_open 108 109 (.ireturn) 1 := ⟨by decide +kernel, rfl⟩
theorem dX8_open_109 : q_d cX8_open 109 110 (.aload_n 0) 1 := ⟨by decide +kernel, rfl⟩
theorem dX8_open_110 : q_d cX8_open 110 113 (.invokevirtual 258) 3 := ⟨by decide +kernel, rfl⟩
theorem dX8_open_113 : q_d cX8_open 113 114 (.aload_n 0) 1 := ⟨by decide +kernel, rfl⟩
theorem dX8_open_114 : q_d cX8_open 114 117 (.invokevirtual 337) 3 := ⟨by decide +kernel, rfl⟩
theorem dX8_open_117 : q_d cX8_open 117 119 (.istore 5) 2 := ⟨by decide +kernel, rfl⟩
theorem dX8_open_119 : q_d cX8_open 119 120 (.iconst 0) 1 := ⟨by decide +kernel, rfl⟩
theorem dX8_open_120 : q_d cX8_open 120 122 (.istore 6) 2 := ⟨by decide +kernel, rfl⟩
theorem dX8_open_122 : q_d cX8_open 122 124 (.iload 6) 2 := ⟨by decide +kernel, rfl⟩
theorem dX8_open_124 : q_d cX8_open 124 126 (.bipush 12) 2 := ⟨by decide +kernel, rfl⟩
theorem dX8_open_126 : q_j cX8_open 126 129 147 (fun o => .if_icmp .ge o) := ⟨21, by decide +kernel, rfl, rfl⟩
theorem dX8_open_129 : q_d cX8_open 129 130 (.aload_n 0) 1 := ⟨by decide +kernel, rfl⟩
theorem dX8_open_130 : q_d cX8_open 130 133 (.getfield 20) 3 := ⟨by decide +kernel, rfl⟩
theorem dX8_open_133 : q_d cX8_open 133 135 (.iload 5) 2 := ⟨by decide +kernel, rfl⟩
theorem dX8_open_135 : q_d cX8_open 135 137 (.iload 6) 2 := ⟨by decide +kernel, rfl⟩
theorem dX8_open_137 : q_d cX8_open 137 138 (.lconst 0) 1 := ⟨by decide +kernel, rfl⟩
theorem dX8_open_138 : q_d cX8_open 138 141 (.invokestatic 299) 3 := ⟨by decide +kernel, rfl⟩
theorem dX8_open_141 : q_d cX8_open 141 144 (.iinc 6 1) 3 := ⟨by decide +kernel, rfl⟩
theorem dX8_open_144 : q_j cX8_open 144 147 122 (fun o => .goto o) := ⟨(-22), by decide +kernel, rfl, rfl⟩
theorem dX8_open_147 : q_d cX8_open 147 148 (.aload_n 0) 1 := ⟨by decide +kernel, rfl⟩
theorem dX8_open_148 : q_d cX8_open 148 151 (.getfield 20) 3 := ⟨by decide +kernel, rfl⟩
theorem dX8_open_151 : q_d cX8_open 151 153 (.iload 5) 2 := ⟨by decide +kernel, rfl⟩
theorem dX8_open_153 : q_d cX8_open 153 154 (.iconst 0) 1 := ⟨by decide +kernel, rfl⟩
theorem dX8_open_154 : q_d cX8_open 154 155 (.iload_n 1) 1 := ⟨by decide +kernel, rfl⟩
theorem dX8_open_155 : q_d cX8_open 155 156 (.i2l) 1 := ⟨by decide +kernel, rfl⟩
theorem dX8_open_156 : q_d cX8_open 156 159 (.invokestatic 299) 3 := ⟨by decide +kernel, rfl⟩
theorem dX8_open_159 : q_d cX8_open 159 160 (.aload_n 0) 1 := ⟨by decide +kernel, rfl⟩
theorem dX8_open_160 : q_d cX8_open 160 163 (.getfield 20) 3 := ⟨by decide +kernel, rfl⟩
theorem dX8_open_163 : q_d cX8_open 163 165 (.iload 5) 2 := ⟨by decide +kernel, rfl⟩
theorem dX8_open_165 : q_d cX8_open 165 166 (.iconst 1) 1 := ⟨by decide +kernel, rfl⟩
theorem dX8_open_166 : q_d cX8_open 166 167 (.iload_n 2) 1 := ⟨by decide +kernel, rfl⟩
theorem dX8_open_167 : q_d cX8_open 167 168 (.i2l) 1 := ⟨by decide +kernel, rfl⟩
theorem dX8_open_168 : q_d cX8_open 168 171 (.invokestatic 299) 3 := ⟨by decide +kernel, rfl⟩
theorem dX8_open_171 : q_d cX8_open 171 172 (.aload_n 0) 1 := ⟨by decide +kernel, rfl⟩
theorem dX8_open_172 : q_d cX8_open 172 175 (.getfield 20) 3 := ⟨by decide +kernel, rfl⟩
theorem dX8_open_175 : q_d cX8_open 175 177 (.iload 5) 2 := ⟨by decide +kernel, rfl⟩
theorem dX8_open_177 : q_d cX8_open 177 178 (.iconst 2) 1 := ⟨by decide +kernel, rfl⟩
theorem dX8_open_178 : q_d cX8_open 178 179 (.iload_n 3) 1 := ⟨by decide +kernel, rfl⟩
theorem dX8_open_179 : q_d cX8_open 179 180 (.i2l) 1 := ⟨by decide +kernel, rfl⟩
theorem dX8_open_180 : q_d cX8_open 180 183 (.invokestatic 299) 3 := ⟨by decide +kernel, rfl⟩
theorem dX8_open_183 : q_d cX8_open 183 184 (.aload_n 0) 1 := ⟨by decide +kernel, rfl⟩
theorem dX8_open_184 : q_d cX8_open 184 187 (.getfield 20) 3 := ⟨by decide +kernel, rfl⟩
theorem dX8_open_187 : q_d cX8_open 187 189 (.iload 5) 2 := ⟨by decide +kernel, rfl⟩
theorem dX8_open_189 : q_d cX8_open 189 190 (.iconst 3) 1 := ⟨by decide +kernel, rfl⟩
theorem dX8_open_190 : q_d cX8_open 190 192 (.iload 4) 2 := ⟨by decide +kernel, rfl⟩
theorem dX8_open_192 : q_d cX8_open 192 193 (.i2l) 1 := ⟨by decide +kernel, rfl⟩
theorem dX8_open_193 : q_d cX8_open 193 196 (.invokestatic 299) 3 := ⟨by decide +kernel, rfl⟩
theorem dX8_open_196 : q_d cX8_open 196 197 (.aload_n 0) 1 := ⟨by decide +kernel, rfl⟩
theorem dX8_open_197 : q_d cX8_open 197 200 (.getfield 20) 3 := ⟨by decide +kernel, rfl⟩
theorem dX8_open_200 : q_d cX8_open 200 202 (.iload 5) 2 := ⟨by decide +kernel, rfl⟩
theorem dX8_open_202 : q_d cX8_open 202 204 (.bipush 9) 2 := ⟨by decide +kernel, rfl⟩
theorem dX8_open_204 : q_d cX8_open 204 207 (.ldc2_w 48) 3 := ⟨by decide +kernel, rfl⟩
theorem dX8_open_207 : q_d cX8_open 207 210 (.invokestatic 299) 3 := ⟨by decide +kernel, rfl⟩
theorem dX8_open_210 : q_d cX8_open 210 211 (.aload_n 0) 1 := ⟨by decide +kernel, rfl⟩
theorem dX8_open_211 : q_d cX8_open 211 214 (.getfield 20) 3 := ⟨by decide +kernel, rfl⟩
theorem dX8_open_214 : q_d cX8_open 214 216 (.iload 5) 2 := ⟨by decide +kernel, rfl⟩
theorem dX8_open_216 : q_d cX8_open 216 218 (.bipush 8) 2 := ⟨by decide +kernel, rfl⟩
theorem dX8_open_218 : q_d cX8_open 218 221 (.ldc2_w 48) 3 := ⟨by decide +kernel, rfl⟩
theorem dX8_open_221 : q_d cX8_open 221 224 (.invokestatic 299) 3 := ⟨by decide +kernel, rfl⟩
theorem dX8_open_224 : q_d cX8_open 224 225 (.aload_n 0) 1 := ⟨by decide +kernel, rfl⟩
theorem dX8_open_225 : q_d cX8_open 225 228 (.getfield 20) 3 := ⟨by decide +kernel, rfl⟩
theorem dX8_open_228 : q_d cX8_open 228 230 (.bipush 17) 2 := ⟨by decide +kernel, rfl⟩
theorem dX8_open_230 : q_d cX8_open 230 231 (.dup2) 1 := ⟨by decide +kernel, rfl⟩
theorem dX8_open_231 : q_d cX8_open 231 232 (.laload) 1 := ⟨by decide +kernel, rfl⟩
theorem dX8_open_232 : q_d cX8_open 232 234 (.iload 4) 2 := ⟨by decide +kernel, rfl⟩
theorem dX8_open_234 : q_d cX8_open 234 235 (.i2l) 1 := ⟨by decide +kernel, rfl⟩
theorem dX8_open_235 : q_d cX8_open 235 236 (.ladd) 1 := ⟨by decide +kernel, rfl⟩
theorem dX8_open_236 : q_d cX8_open 236 237 (.lastore) 1 := ⟨by decide +kernel, rfl⟩
theorem dX8_open_237 : q_d cX8_open 237 238 (.aload_n 0) 1 := ⟨by decide +kernel, rfl⟩
theorem dX8_open_238 : q_d cX8_open 238 241 (.getfield 20) 3 := ⟨by decide +kernel, rfl⟩
theorem dX8_open_241 : q_d cX8_open 241 242 (.iconst 1) 1 := ⟨by decide +kernel, rfl⟩
theorem dX8_open_242 : q_d cX8_open 242 243 (.dup2) 1 := ⟨by decide +kernel, rfl⟩
theorem dX8_open_243 : q_d cX8_open 243 244 (.laload) 1 := ⟨by decide +kernel, rfl⟩
theorem dX8_open_244 : q_d cX8_open 244 245 (.lconst 1) 1 := ⟨by decide +kernel, rfl⟩
theorem dX8_open_245 : q_d cX8_open 245 246 (.ladd) 1 := ⟨by decide +kernel, rfl⟩
theorem dX8_open_246 : q_d cX8_open 246 247 (.lastore) 1 := ⟨by decide +kernel, rfl⟩
theorem dX8_open_247 : q_d cX8_open 247 249 (.iload 5) 2 := ⟨by decide +kernel, rfl⟩
theorem dX8_open_249 : q_d cX8_open 249 250 (.ireturn) 1 := ⟨by decide +kernel, rfl⟩
theorem dX8_touches_0 : q_d cX8_touches 0 1 (.aload_n 0) 1 := ⟨by decide +kernel, rfl⟩
theorem dX8_touches_1 : q_d cX8_touches 1 2 (.iload_n 1) 1 := ⟨by decide +kernel, rfl⟩
theorem dX8_touches_2 : q_d cX8_touches 2 4 (.bipush 6) 2 := ⟨by decide +kernel, rfl⟩
theorem dX8_touches_4 : q_d cX8_touches 4 5 (.lconst 0) 1 := ⟨by decide +kernel, rfl⟩
theorem dX8_touches_5 : q_d cX8_touches 5 8 (.invokestatic 299) 3 := ⟨by decide +kernel, rfl⟩
theorem dX8_touches_8 : q_d cX8_touches 8 9 (.aload_n 0) 1 := ⟨by decide +kernel, rfl⟩
theorem dX8_touches_9 : q_d cX8_touches 9 10 (.iload_n 1) 1 := ⟨by decide +kernel, rfl⟩
theorem dX8_touches_10 : q_d cX8_touches 10 11 (.iconst 4) 1 := ⟨by decide +kernel, rfl⟩
theorem dX8_touches_11 : q_d cX8_touches 11 12 (.lconst 0) 1 := ⟨by decide +kernel, rfl⟩
theorem dX8_touches_12 : q_d cX8_touches 12 15 (.invokestatic 299) 3 := ⟨by decide +kernel, rfl⟩
theorem dX8_touches_15 : q_d cX8_touches 15 16 (.return_) 1 := ⟨by decide +kernel, rfl⟩
theorem dX8_contact_0 : q_d cX8_contact 0 1 (.aload_n 0) 1 := ⟨by decide +kernel, rfl⟩
theorem dX8_contact_1 : q_d cX8_contact 1 2 (.iconst 0) 1 := ⟨by decide +kernel, rfl⟩
theorem dX8_contact_2 : q_d cX8_contact 2 5 (.putfield 52) 3 := ⟨by decide +kernel, rfl⟩
theorem dX8_contact_5 : q_d cX8_contact 5 6 (.aload_n 0) 1 := ⟨by decide +kernel, rfl⟩
theorem dX8_contact_6 : q_d cX8_contact 6 7 (.aload_n 0) 1 := ⟨by decide +kernel, rfl⟩
theorem dX8_contact_7 : q_d cX8_contact 7 8 (.iload_n 1) 1 := ⟨by decide +kernel, rfl⟩
theorem dX8_contact_8 : q_d cX8_contact 8 11 (.invokevirtual 340) 3 := ⟨by decide +kernel, rfl⟩
theorem dX8_contact_11 : q_j cX8_contact 11 14 18 (fun o => .ifCond .ne o) := ⟨7, by decide +kernel, rfl, rfl⟩
theorem dX8_contact_14 : q_d cX8_contact 14 15 (.iconst 1) 1 := ⟨by decide +kernel, rfl⟩
theorem dX8_contact_15 : q_j cX8_contact 15 18 19 (fun o => .goto o) := ⟨4, by decide +kernel, rfl, rfl⟩
theorem dX8_contact_18 : q_d cX8_contact 18 19 (.iconst 0) 1 := ⟨by decide +kernel, rfl⟩
theorem dX8_contact_19 : q_d cX8_contact 19 20 (.iconst 1) 1 := ⟨by decide +kernel, rfl⟩
theorem dX8_contact_20 : q_d cX8_contact 20 21 (.iconst 0) 1 := ⟨by decide +kernel, rfl⟩
theorem dX8_contact_21 : q_d cX8_contact 21 24 (.invokevirtual 251) 3 := ⟨by decide +kernel, rfl⟩
theorem dX8_contact_24 : q_j cX8_contact 24 27 49 (fun o => .ifCond .ne o) := ⟨25, by decide +kernel, rfl, rfl⟩
theorem dX8_contact_27 : q_d cX8_contact 27 28 (.aload_n 0) 1 := ⟨by decide +kernel, rfl⟩
theorem dX8_contact_28 : q_d cX8_contact 28 29 (.aload_n 0) 1 := ⟨by decide +kernel, rfl⟩
theorem dX8_contact_29 : q_d cX8_contact 29 30 (.iload_n 1) 1 := ⟨by decide +kernel, rfl⟩
theorem dX8_contact_30 : q_d cX8_contact 30 33 (.invokevirtual 348) 3 := ⟨by decide +kernel, rfl⟩
theorem dX8_contact_33 : q_j cX8_contact 33 36 40 (fun o => .ifCond .ne o) := ⟨7, by decide +kernel, rfl, rfl⟩
theorem dX8_contact_36 : q_d cX8_contact 36 37 (.iconst 1) 1 := ⟨by decide +kernel, rfl⟩
theorem dX8_contact_37 : q_j cX8_contact 37 40 41 (fun o => .goto o) := ⟨4, by decide +kernel, rfl, rfl⟩
theorem dX8_contact_40 : q_d cX8_contact 40 41 (.iconst 0) 1 := ⟨by decide +kernel, rfl⟩
theorem dX8_contact_41 : q_d cX8_contact 41 42 (.iconst 2) 1 := ⟨by decide +kernel, rfl⟩
theorem dX8_contact_42 : q_d cX8_contact 42 43 (.iconst 2) 1 := ⟨by decide +kernel, rfl⟩
theorem dX8_contact_43 : q_d cX8_contact 43 46 (.invokevirtual 251) 3 := ⟨by decide +kernel, rfl⟩
theorem dX8_contact_46 : q_j cX8_contact 46 49 51 (fun o => .ifCond .eq o) := ⟨5, by decide +kernel, rfl, rfl⟩
theorem dX8_contact_49 : q_d cX8_contact 49 50 (.iconst 0) 1 := ⟨by decide +kernel, rfl⟩
theorem dX8_contact_50 : q_d cX8_contact 50 51 (.ireturn) 1 := ⟨by decide +kernel, rfl⟩
theorem dX8_contact_51 : q_d cX8_contact 51 52 (.aload_n 0) 1 := ⟨by decide +kernel, rfl⟩
theorem dX8_contact_52 : q_d cX8_contact 52 55 (.invokevirtual 258) 3 := ⟨by decide +kernel, rfl⟩
theorem dX8_contact_55 : q_d cX8_contact 55 56 (.aload_n 0) 1 := ⟨by decide +kernel, rfl⟩
theorem dX8_contact_56 : q_d cX8_contact 56 59 (.getfield 20) 3 := ⟨by decide +kernel, rfl⟩
theorem dX8_contact_59 : q_d cX8_contact 59 60 (.iload_n 1) 1 := ⟨by decide +kernel, rfl⟩
theorem dX8_contact_60 : q_d cX8_contact 60 62 (.bipush 6) 2 := ⟨by decide +kernel, rfl⟩
theorem dX8_contact_62 : q_d cX8_contact 62 65 (.invokestatic 268) 3 := ⟨by decide +kernel, rfl⟩
theorem dX8_contact_65 : q_d cX8_contact 65 66 (.l2i) 1 := ⟨by decide +kernel, rfl⟩
theorem dX8_contact_66 : q_d cX8_contact 66 67 (.istore_n 2) 1 := ⟨by decide +kernel, rfl⟩
theorem dX8_contact_67 : q_d cX8_contact 67 68 (.aload_n 0) 1 := ⟨by decide +kernel, rfl⟩
theorem dX8_contact_68 : q_d cX8_contact 68 71 (.getfield 20) 3 := ⟨by decide +kernel, rfl⟩
theorem dX8_contact_71 : q_d cX8_contact 71 72 (.iload_n 1) 1 := ⟨by decide +kernel, rfl⟩
theorem dX8_contact_72 : q_d cX8_contact 72 75 (.invokestatic 351) 3 := ⟨by decide +kernel, rfl⟩
theorem dX8_contact_75 : q_d cX8_contact 75 76 (.iload_n 2) 1 := ⟨by decide +kernel, rfl⟩
theorem dX8_contact_76 : q_d cX8_contact 76 77 (.ireturn) 1 := ⟨by decide +kernel, rfl⟩
theorem dX8_deposit_0 : q_d cX8_deposit 0 1 (.aload_n 0) 1 := ⟨by decide +kernel, rfl⟩
theorem dX8_deposit_1 : q_d cX8_deposit 1 2 (.iconst 0) 1 := ⟨by decide +kernel, rfl⟩
theorem dX8_deposit_2 : q_d cX8_deposit 2 5 (.putfield 52) 3 := ⟨by decide +kernel, rfl⟩
theorem dX8_deposit_5 : q_d cX8_deposit 5 6 (.aload_n 0) 1 := ⟨by decide +kernel, rfl⟩
theorem dX8_deposit_6 : q_d cX8_deposit 6 7 (.aload_n 0) 1 := ⟨by decide +kernel, rfl⟩
theorem dX8_deposit_7 : q_d cX8_deposit 7 8 (.iload_n 1) 1 := ⟨by decide +kernel, rfl⟩
theorem dX8_deposit_8 : q_d cX8_deposit 8 11 (.invokevirtual 340) 3 := ⟨by decide +kernel, rfl⟩
theorem dX8_deposit_11 : q_j cX8_deposit 11 14 18 (fun o => .ifCond .ne o) := ⟨7, by decide +kernel, rfl, rfl⟩
theorem dX8_deposit_14 : q_d cX8_deposit 14 15 (.iconst 1) 1 := ⟨by decide +kernel, rfl⟩
theorem dX8_deposit_15 : q_j cX8_deposit 15 18 19 (fun o => .goto o) := ⟨4, by decide +kernel, rfl, rfl⟩
theorem dX8_deposit_18 : q_d cX8_deposit 18 19 (.iconst 0) 1 := ⟨by decide +kernel, rfl⟩
theorem dX8_deposit_19 : q_d cX8_deposit 19 20 (.iconst 1) 1 := ⟨by decide +kernel, rfl⟩
theorem dX8_deposit_20 : q_d cX8_deposit 20 21 (.iconst 0) 1 := ⟨by decide +kernel, rfl⟩
theorem dX8_deposit_21 : q_d cX8_deposit 21 24 (.invokevirtual 251) 3 := ⟨by decide +kernel, rfl⟩
theorem dX8_deposit_24 : q_j cX8_deposit 24 27 94 (fun o => .ifCond .ne o) := ⟨70, by decide +kernel, rfl, rfl⟩
theorem dX8_deposit_27 : q_d cX8_deposit 27 28 (.aload_n 0) 1 := ⟨by decide +kernel, rfl⟩
theorem dX8_deposit_28 : q_d cX8_deposit 28 29 (.iload_n 2) 1 := ⟨by decide +kernel, rfl⟩
theorem dX8_deposit_29 : q_d cX8_deposit 29 30 (.i2l) 1 := ⟨by decide +kernel, rfl⟩
theorem dX8_deposit_30 : q_d cX8_deposit 30 31 (.lconst 1) 1 := ⟨by decide +kernel, rfl⟩
theorem dX8_deposit_31 : q_d cX8_deposit 31 34 (.ldc2_w 355) 3 := ⟨by decide +kernel, rfl⟩
theorem dX8_deposit_34 : q_d cX8_deposit 34 37 (.invokestatic 123) 3 := ⟨by decide +kernel, rfl⟩
theorem dX8_deposit_37 : q_j cX8_deposit 37 40 44 (fun o => .ifCond .ne o) := ⟨7, by decide +kernel, rfl, rfl⟩
theorem dX8_deposit_40 : q_d cX8_deposit 40 41 (.iconst 1) 1 := ⟨by decide +kernel, rfl⟩
theorem dX8_deposit_41 : q_j cX8_deposit 41 44 45 (fun o => .goto o) := ⟨4, by decide +kernel, rfl, rfl⟩
theorem dX8_deposit_44 : q_d cX8_deposit 44 45 (.iconst 0) 1 := ⟨by decide +kernel, rfl⟩
theorem dX8_deposit_45 : q_d cX8_deposit 45 46 (.iconst 2) 1 := ⟨by decide +kernel, rfl⟩
theorem dX8_deposit_46 : q_d cX8_deposit 46 47 (.iconst 1) 1 := ⟨by decide +kernel, rfl⟩
theorem dX8_deposit_47 : q_d cX8_deposit 47 50 (.invokevirtual 251) 3 := ⟨by decide +kernel, rfl⟩
theorem dX8_deposit_50 : q_j cX8_deposit 50 53 94 (fun o => .ifCond .ne o) := ⟨44, by decide +kernel, rfl, rfl⟩
theorem dX8_deposit_53 : q_d cX8_deposit 53 54 (.aload_n 0) 1 := ⟨by decide +kernel, rfl⟩
theorem dX8_deposit_54 : q_d cX8_deposit 54 55 (.aload_n 0) 1 := ⟨by decide +kernel, rfl⟩
theorem dX8_deposit_55 : q_d cX8_deposit 55 56 (.iload_n 1) 1 := ⟨by decide +kernel, rfl⟩
theorem dX8_deposit_56 : q_d cX8_deposit 56 59 (.invokevirtual 348) 3 := ⟨by decide +kernel, rfl⟩
theorem dX8_deposit_59 : q_j cX8_deposit 59 62 81 (fun o => .ifCond .eq o) := ⟨22, by decide +kernel, rfl, rfl⟩
theorem dX8_deposit_62 : q_d cX8_deposit 62 63 (.aload_n 0) 1 := ⟨by decide +kernel, rfl⟩
theorem dX8_deposit_63 : q_d cX8_deposit 63 66 (.getfield 20) 3 := ⟨by decide +kernel, rfl⟩
theorem dX8_deposit_66 : q_d cX8_deposit 66 67 (.iload_n 1) 1 := ⟨by decide +kernel, rfl⟩
theorem dX8_deposit_67 : q_d cX8_deposit 67 68 (.iconst 3) 1 := ⟨by decide +kernel, rfl⟩
theorem dX8_deposit_68 : q_d cX8_deposit 68 71 (.invokestatic 268) 3 := ⟨by decide +kernel, rfl⟩
theorem dX8_deposit_71 : q_d cX8_deposit 71 72 (.iload_n 2) 1 := ⟨by decide +kernel, rfl⟩
theorem dX8_deposit_72 : q_d cX8_deposit 72 73 (.i2l) 1 := ⟨by decide +kernel, rfl⟩
theorem dX8_deposit_73 : q_d cX8_deposit 73 74 (.ladd) 1 := ⟨by decide +kernel, rfl⟩
theorem dX8_deposit_74 : q_d cX8_deposit 74 77 (.ldc2_w 308) 3 := ⟨by decide +kernel, rfl⟩
theorem dX8_deposit_77 : q_d cX8_deposit 77 78 (.lcmp) 1 := ⟨by decide +kernel, rfl⟩
theorem dX8_deposit_78 : q_j cX8_deposit 78 81 85 (fun o => .ifCond .le o) := ⟨7, by decide +kernel, rfl, rfl⟩
theorem dX8_deposit_81 : q_d cX8_deposit 81 82 (.iconst 1) 1 := ⟨by decide +kernel, rfl⟩
theorem dX8_deposit_82 : q_j cX8_deposit 82 85 86 (fun o => .goto o) := ⟨4, by decide +kernel, rfl, rfl⟩
theorem dX8_deposit_85 : q_d cX8_deposit 85 86 (.iconst 0) 1 := ⟨by decide +kernel, rfl⟩
theorem dX8_deposit_86 : q_d cX8_deposit 86 87 (.iconst 3) 1 := ⟨by decide +kernel, rfl⟩
theorem dX8_deposit_87 : q_d cX8_deposit 87 88 (.iconst 2) 1 := ⟨by decide +kernel, rfl⟩
theorem dX8_deposit_88 : q_d cX8_deposit 88 91 (.invokevirtual 251) 3 := ⟨by decide +kernel, rfl⟩
theorem dX8_deposit_91 : q_j cX8_deposit 91 94 96 (fun o => .ifCond .eq o) := ⟨5, by decide +kernel, rfl, rfl⟩
theorem dX8_deposit_94 : q_d cX8_deposit 94 95 (.iconst 0) 1 := ⟨by decide +kernel, rfl⟩
theorem dX8_deposit_95 : q_d cX8_deposit 95 96 (.ireturn) 1 := ⟨by decide +kernel, rfl⟩
theorem dX8_deposit_96 : q_d cX8_deposit 96 97 (.aload_n 0) 1 := ⟨by decide +kernel, rfl⟩
theorem dX8_deposit_97 : q_d cX8_deposit 97 100 (.invokevirtual 258) 3 := ⟨by decide +kernel, rfl⟩
theorem dX8_deposit_100 : q_d cX8_deposit 100 101 (.aload_n 0) 1 := ⟨by decide +kernel, rfl⟩
theorem dX8_deposit_101 : q_d cX8_deposit 101 104 (.getfield 20) 3 := ⟨by decide +kernel, rfl⟩
theorem dX8_deposit_104 : q_d cX8_deposit 104 105 (.iload_n 1) 1 := ⟨by decide +kernel, rfl⟩
theorem dX8_deposit_105 : q_d cX8_deposit 105 108 (.invokestatic 351) 3 := ⟨by decide +kernel, rfl⟩
theorem dX8_deposit_108 : q_d cX8_deposit 108 109 (.aload_n 0) 1 := ⟨by decide +kernel, rfl⟩
theorem dX8_deposit_109 : q_d cX8_deposit 109 112 (.getfield 20) 3 := ⟨by decide +kernel, rfl⟩
theorem dX8_deposit_112 : q_d cX8_deposit 112 113 (.iload_n 1) 1 := ⟨by decide +kernel, rfl⟩
theorem dX8_deposit_113 : q_d cX8_deposit 113 114 (.iconst 3) 1 := ⟨by decide +kernel, rfl⟩
theorem dX8_deposit_114 : q_d cX8_deposit 114 115 (.iload_n 2) 1 := ⟨by decide +kernel, rfl⟩
theorem dX8_deposit_115 : q_d cX8_deposit 115 116 (.i2l) 1 := ⟨by decide +kernel, rfl⟩
theorem dX8_deposit_116 : q_d cX8_deposit 116 119 (.invokestatic 295) 3 := ⟨by decide +kernel, rfl⟩
theorem dX8_deposit_119 : q_d cX8_deposit 119 120 (.aload_n 0) 1 := ⟨by decide +kernel, rfl⟩
theorem dX8_deposit_120 : q_d cX8_deposit 120 123 (.getfield 20) 3 := ⟨by decide +kernel, rfl⟩
theorem dX8_deposit_123 : q_d cX8_deposit 123 125 (.bipush 17) 2 := ⟨by decide +kernel, rfl⟩
theorem dX8_deposit_125 : q_d cX8_deposit 125 126 (.dup2) 1 := ⟨by decide +kernel, rfl⟩
theorem dX8_deposit_126 : q_d cX8_deposit 126 127 (.laload) 1 := ⟨by decide +kernel, rfl⟩
theorem dX8_deposit_127 : q_d cX8_deposit 127 128 (.iload_n 2) 1 := ⟨by decide +kernel, rfl⟩
theorem dX8_deposit_128 : q_d cX8_deposit 128 129 (.i2l) 1 := ⟨by decide +kernel, rfl⟩
theorem dX8_deposit_129 : q_d cX8_deposit 129 130 (.ladd) 1 := ⟨by decide +kernel, rfl⟩
theorem dX8_deposit_130 : q_d cX8_deposit 130 131 (.lastore) 1 := ⟨by decide +kernel, rfl⟩
theorem dX8_deposit_131 : q_d cX8_deposit 131 132 (.aload_n 0) 1 := ⟨by decide +kernel, rfl⟩
theorem dX8_deposit_132 : q_d cX8_deposit 132 135 (.getfield 20) 3 := ⟨by decide +kernel, rfl⟩
theorem dX8_deposit_135 : q_d cX8_deposit 135 136 (.iload_n 1) 1 := ⟨by decide +kernel, rfl⟩
theorem dX8_deposit_136 : q_d cX8_deposit 136 137 (.iconst 3) 1 := ⟨by decide +kernel, rfl⟩
theorem dX8_deposit_137 : q_d cX8_deposit 137 140 (.invokestatic 268) 3 := ⟨by decide +kernel, rfl⟩
theorem dX8_deposit_140 : q_d cX8_deposit 140 141 (.l2i) 1 := ⟨by decide +kernel, rfl⟩
theorem dX8_deposit_141 : q_d cX8_deposit 141 142 (.ireturn) 1 := ⟨by decide +kernel, rfl⟩
theorem dX8_draw_0 : q_d cX8_draw 0 1 (.aload_n 0) 1 := ⟨by decide +kernel, rfl⟩
theorem dX8_draw_1 : q_d cX8_draw 1 2 (.iconst 0) 1 := ⟨by decide +kernel, rfl⟩
theorem dX8_draw_2 : q_d cX8_draw 2 5 (.putfield 52) 3 := ⟨by decide +kernel, rfl⟩
theorem dX8_draw_5 : q_d cX8_draw 5 6 (.aload_n 0) 1 := ⟨by decide +kernel, rfl⟩
theorem dX8_draw_6 : q_d cX8_draw 6 7 (.aload_n 0) 1 := ⟨by decide +kernel, rfl⟩
theorem dX8_draw_7 : q_d cX8_draw 7 8 (.iload_n 1) 1 := ⟨by decide +kernel, rfl⟩
theorem dX8_draw_8 : q_d cX8_draw 8 11 (.invokevirtual 340) 3 := ⟨by decide +kernel, rfl⟩
theorem dX8_draw_11 : q_j cX8_draw 11 14 18 (fun o => .ifCond .ne o) := ⟨7, by decide +kernel, rfl, rfl⟩
theorem dX8_draw_14 : q_d cX8_draw 14 15 (.iconst 1) 1 := ⟨by decide +kernel, rfl⟩
theorem dX8_draw_15 : q_j cX8_draw 15 18 19 (fun o => .goto o) := ⟨4, by decide +kernel, rfl, rfl⟩
theorem dX8_draw_18 : q_d cX8_draw 18 19 (.iconst 0) 1 := ⟨by decide +kernel, rfl⟩
theorem dX8_draw_19 : q_d cX8_draw 19 20 (.iconst 1) 1 := ⟨by decide +kernel, rfl⟩
theorem dX8_draw_20 : q_d cX8_draw 20 21 (.iconst 0) 1 := ⟨by decide +kernel, rfl⟩
theorem dX8_draw_21 : q_d cX8_draw 21 24 (.invokevirtual 251) 3 := ⟨by decide +kernel, rfl⟩
theorem dX8_draw_24 : q_j cX8_draw 24 27 90 (fun o => .ifCond .ne o) := ⟨66, by decide +kernel, rfl, rfl⟩
theorem dX8_draw_27 : q_d cX8_draw 27 28 (.aload_n 0) 1 := ⟨by decide +kernel, rfl⟩
theorem dX8_draw_28 : q_d cX8_draw 28 29 (.iload_n 2) 1 := ⟨by decide +kernel, rfl⟩
theorem dX8_draw_29 : q_d cX8_draw 29 30 (.i2l) 1 := ⟨by decide +kernel, rfl⟩
theorem dX8_draw_30 : q_d cX8_draw 30 31 (.lconst 1) 1 := ⟨by decide +kernel, rfl⟩
theorem dX8_draw_31 : q_d cX8_draw 31 34 (.ldc2_w 355) 3 := ⟨by decide +kernel, rfl⟩
theorem dX8_draw_34 : q_d cX8_draw 34 37 (.invokestatic 123) 3 := ⟨by decide +kernel, rfl⟩
theorem dX8_draw_37 : q_j cX8_draw 37 40 44 (fun o => .ifCond .ne o) := ⟨7, by decide +kernel, rfl, rfl⟩
theorem dX8_draw_40 : q_d cX8_draw 40 41 (.iconst 1) 1 := ⟨by decide +kernel, rfl⟩
theorem dX8_draw_41 : q_j cX8_draw 41 44 45 (fun o => .goto o) := ⟨4, by decide +kernel, rfl, rfl⟩
theorem dX8_draw_44 : q_d cX8_draw 44 45 (.iconst 0) 1 := ⟨by decide +kernel, rfl⟩
theorem dX8_draw_45 : q_d cX8_draw 45 46 (.iconst 2) 1 := ⟨by decide +kernel, rfl⟩
theorem dX8_draw_46 : q_d cX8_draw 46 47 (.iconst 1) 1 := ⟨by decide +kernel, rfl⟩
theorem dX8_draw_47 : q_d cX8_draw 47 50 (.invokevirtual 251) 3 := ⟨by decide +kernel, rfl⟩
theorem dX8_draw_50 : q_j cX8_draw 50 53 90 (fun o => .ifCond .ne o) := ⟨40, by decide +kernel, rfl, rfl⟩
theorem dX8_draw_53 : q_d cX8_draw 53 54 (.aload_n 0) 1 := ⟨by decide +kernel, rfl⟩
theorem dX8_draw_54 : q_d cX8_draw 54 55 (.aload_n 0) 1 := ⟨by decide +kernel, rfl⟩
theorem dX8_draw_55 : q_d cX8_draw 55 56 (.iload_n 1) 1 := ⟨by decide +kernel, rfl⟩
theorem dX8_draw_56 : q_d cX8_draw 56 59 (.invokevirtual 348) 3 := ⟨by decide +kernel, rfl⟩
theorem dX8_draw_59 : q_j cX8_draw 59 62 77 (fun o => .ifCond .eq o) := ⟨18, by decide +kernel, rfl, rfl⟩
theorem dX8_draw_62 : q_d cX8_draw 62 63 (.aload_n 0) 1 := ⟨by decide +kernel, rfl⟩
theorem dX8_draw_63 : q_d cX8_draw 63 66 (.getfield 20) 3 := ⟨by decide +kernel, rfl⟩
theorem dX8_draw_66 : q_d cX8_draw 66 67 (.iload_n 1) 1 := ⟨by decide +kernel, rfl⟩
theorem dX8_draw_67 : q_d cX8_draw 67 68 (.iconst 3) 1 := ⟨by decide +kernel, rfl⟩
theorem dX8_draw_68 : q_d cX8_draw 68 71 (.invokestatic 268) 3 := ⟨by decide +kernel, rfl⟩
theorem dX8_draw_71 : q_d cX8_draw 71 72 (.iload_n 2) 1 := ⟨by decide +kernel, rfl⟩
theorem dX8_draw_72 : q_d cX8_draw 72 73 (.i2l) 1 := ⟨by decide +kernel, rfl⟩
theorem dX8_draw_73 : q_d cX8_draw 73 74 (.lcmp) 1 := ⟨by decide +kernel, rfl⟩
theorem dX8_draw_74 : q_j cX8_draw 74 77 81 (fun o => .ifCond .ge o) := ⟨7, by decide +kernel, rfl, rfl⟩
theorem dX8_draw_77 : q_d cX8_draw 77 78 (.iconst 1) 1 := ⟨by decide +kernel, rfl⟩
theorem dX8_draw_78 : q_j cX8_draw 78 81 82 (fun o => .goto o) := ⟨4, by decide +kernel, rfl, rfl⟩
theorem dX8_draw_81 : q_d cX8_draw 81 82 (.iconst 0) 1 := ⟨by decide +kernel, rfl⟩
theorem dX8_draw_82 : q_d cX8_draw 82 83 (.iconst 3) 1 := ⟨by decide +kernel, rfl⟩
theorem dX8_draw_83 : q_d cX8_draw 83 84 (.iconst 2) 1 := ⟨by decide +kernel, rfl⟩
theorem dX8_draw_84 : q_d cX8_draw 84 87 (.invokevirtual 251) 3 := ⟨by decide +kernel, rfl⟩
theorem dX8_draw_87 : q_j cX8_draw 87 90 92 (fun o => .ifCond .eq o) := ⟨5, by decide +kernel, rfl, rfl⟩
theorem dX8_draw_90 : q_d cX8_draw 90 91 (.iconst 0) 1 := ⟨by decide +kernel, rfl⟩
theorem dX8_draw_91 : q_d cX8_draw 91 92 (.ireturn) 1 := ⟨by decide +kernel, rfl⟩
theorem dX8_draw_92 : q_d cX8_draw 92 93 (.aload_n 0) 1 := ⟨by decide +kernel, rfl⟩
theorem dX8_draw_93 : q_d cX8_draw 93 96 (.invokevirtual 258) 3 := ⟨by decide +kernel, rfl⟩
theorem dX8_draw_96 : q_d cX8_draw 96 97 (.aload_n 0) 1 := ⟨by decide +kernel, rfl⟩
theorem dX8_draw_97 : q_d cX8_draw 97 100 (.getfield 20) 3 := ⟨by decide +kernel, rfl⟩
theorem dX8_draw_100 : q_d cX8_draw 100 101 (.iload_n 1) 1 := ⟨by decide +kernel, rfl⟩
theorem dX8_draw_101 : q_d cX8_draw 101 104 (.invokestatic 351) 3 := ⟨by decide +kernel, rfl⟩
theorem dX8_draw_104 : q_d cX8_draw 104 105 (.aload_n 0) 1 := ⟨by decide +kernel, rfl⟩
theorem dX8_draw_105 : q_d cX8_draw 105 108 (.getfield 20) 3 := ⟨by decide +kernel, rfl⟩
theorem dX8_draw_108 : q_d cX8_draw 108 109 (.iload_n 1) 1 := ⟨by decide +kernel, rfl⟩
theorem dX8_draw_109 : q_d cX8_draw 109 110 (.iconst 3) 1 := ⟨by decide +kernel, rfl⟩
theorem dX8_draw_110 : q_d cX8_draw 110 111 (.iload_n 2) 1 := ⟨by decide +kernel, rfl⟩
theorem dX8_draw_111 : q_d cX8_draw 111 112 (.ineg) 1 := ⟨by decide +kernel, rfl⟩
theorem dX8_draw_112 : q_d cX8_draw 112 113 (.i2l) 1 := ⟨by decide +kernel, rfl⟩
theorem dX8_draw_113 : q_d cX8_draw 113 116 (.invokestatic 295) 3 := ⟨by decide +kernel, rfl⟩
theorem dX8_draw_116 : q_d cX8_draw 116 117 (.aload_n 0) 1 := ⟨by decide +kernel, rfl⟩
theorem dX8_draw_117 : q_d cX8_draw 117 120 (.getfield 20) 3 := ⟨by decide +kernel, rfl⟩
theorem dX8_draw_120 : q_d cX8_draw 120 122 (.bipush 19) 2 := ⟨by decide +kernel, rfl⟩
theorem dX8_draw_122 : q_d cX8_draw 122 123 (.dup2) 1 := ⟨by decide +kernel, rfl⟩
theorem dX8_draw_123 : q_d cX8_draw 123 124 (.laload) 1 := ⟨by decide +kernel, rfl⟩
theorem dX8_draw_124 : q_d cX8_draw 124 125 (.iload_n 2) 1 := ⟨by decide +kernel, rfl⟩
theorem dX8_draw_125 : q_d cX8_draw 125 126 (.i2l) 1 := ⟨by decide +kernel, rfl⟩
theorem dX8_draw_126 : q_d cX8_draw 126 127 (.ladd) 1 := ⟨by decide +kernel, rfl⟩
theorem dX8_draw_127 : q_d cX8_draw 127 128 (.lastore) 1 := ⟨by decide +kernel, rfl⟩
theorem dX8_draw_128 : q_d cX8_draw 128 129 (.aload_n 0) 1 := ⟨by decide +kernel, rfl⟩
theorem dX8_draw_129 : q_d cX8_draw 129 132 (.getfield 20) 3 := ⟨by decide +kernel, rfl⟩
theorem dX8_draw_132 : q_d cX8_draw 132 133 (.iload_n 1) 1 := ⟨by decide +kernel, rfl⟩
theorem dX8_draw_133 : q_d cX8_draw 133 134 (.iconst 3) 1 := ⟨by decide +kernel, rfl⟩
theorem dX8_draw_134 : q_d cX8_draw 134 137 (.invokestatic 268) 3 := ⟨by decide +kernel, rfl⟩
theorem dX8_draw_137 : q_d cX8_draw 137 138 (.l2i) 1 := ⟨by decide +kernel, rfl⟩
theorem dX8_draw_138 : q_d cX8_draw 138 139 (.ireturn) 1 := ⟨by decide +kernel, rfl⟩
theorem dX8_address_0 : q_d cX8_address 0 1 (.aload_n 0) 1 := ⟨by decide +kernel, rfl⟩
theorem dX8_address_1 : q_d cX8_address 1 2 (.iconst 0) 1 := ⟨by decide +kernel, rfl⟩
theorem dX8_address_2 : q_d cX8_address 2 5 (.putfield 52) 3 := ⟨by decide +kernel, rfl⟩
theorem dX8_address_5 : q_d cX8_address 5 6 (.aload_n 0) 1 := ⟨by decide +kernel, rfl⟩
theorem dX8_address_6 : q_d cX8_address 6 7 (.aload_n 0) 1 := ⟨by decide +kernel, rfl⟩
theorem dX8_address_7 : q_d cX8_address 7 8 (.iload_n 1) 1 := ⟨by decide +kernel, rfl⟩
theorem dX8_address_8 : q_d cX8_address 8 11 (.invokevirtual 340) 3 := ⟨by decide +kernel, rfl⟩
theorem dX8_address_11 : q_j cX8_address 11 14 27 (fun o => .ifCond .eq o) := ⟨16, by decide +kernel, rfl, rfl⟩
theorem dX8_address_14 : q_d cX8_address 14 15 (.iload_n 2) 1 := ⟨by decide +kernel, rfl⟩
theorem dX8_address_15 : q_d cX8_address 15 16 (.iconst (-1)) 1 := ⟨by decide +kernel, rfl⟩
theorem dX8_address_16 : q_j cX8_address 16 19 31 (fun o => .if_icmp .eq o) := ⟨15, by decide +kernel, rfl, rfl⟩
theorem dX8_address_19 : q_d cX8_address 19 20 (.aload_n 0) 1 := ⟨by decide +kernel, rfl⟩
theorem dX8_address_20 : q_d cX8_address 20 21 (.iload_n 2) 1 := ⟨by decide +kernel, rfl⟩
theorem dX8_address_21 : q_d cX8_address 21 24 (.invokevirtual 343) 3 := ⟨by decide +kernel, rfl⟩
theorem dX8_address_24 : q_j cX8_address 24 27 31 (fun o => .ifCond .ne o) := ⟨7, by decide +kernel, rfl, rfl⟩
theorem dX8_address_27 : q_d cX8_address 27 28 (.iconst 1) 1 := ⟨by decide +kernel, rfl⟩
theorem dX8_address_28 : q_j cX8_address 28 31 32 (fun o => .goto o) := ⟨4, by decide +kernel, rfl, rfl⟩
theorem dX8_address_31 : q_d cX8_address 31 32 (.iconst 0) 1 := ⟨by decide +kernel, rfl⟩
theorem dX8_address_32 : q_d cX8_address 32 33 (.iconst 1) 1 := ⟨by decide +kernel, rfl⟩
theorem dX8_address_33 : q_d cX8_address 33 34 (.iconst 0) 1 := ⟨by decide +kernel, rfl⟩
theorem dX8_address_34 : q_d cX8_address 34 37 (.invokevirtual 251) 3 := ⟨by decide +kernel, rfl⟩
theorem dX8_address_37 : q_j cX8_address 37 40 42 (fun o => .ifCond .eq o) := ⟨5, by decide +kernel, rfl, rfl⟩
theorem dX8_address_40 : q_d cX8_address 40 41 (.iconst 0) 1 := ⟨by decide +kernel, rfl⟩
theorem dX8_address_41 : q_d cX8_address 41 42 (.ireturn) 1 := ⟨by decide +kernel, rfl⟩
theorem dX8_address_42 : q_d cX8_address 42 43 (.aload_n 0) 1 := ⟨by decide +kernel, rfl⟩
theorem dX8_address_43 : q_d cX8_address 43 46 (.invokevirtual 258) 3 := ⟨by decide +kernel, rfl⟩
theorem dX8_address_46 : q_d cX8_address 46 47 (.aload_n 0) 1 := ⟨by decide +kernel, rfl⟩
theorem dX8_address_47 : q_d cX8_address 47 50 (.getfield 20) 3 := ⟨by decide +kernel, rfl⟩
theorem dX8_address_50 : q_d cX8_address 50 51 (.iload_n 1) 1 := ⟨by decide +kernel, rfl⟩
theorem dX8_address_51 : q_d cX8_address 51 52 (.iconst 1) 1 := ⟨by decide +kernel, rfl⟩
theorem dX8_address_52 : q_d cX8_address 52 55 (.invokestatic 268) 3 := ⟨by decide +kernel, rfl⟩
theorem dX8_address_55 : q_d cX8_address 55 56 (.l2i) 1 := ⟨by decide +kernel, rfl⟩
theorem dX8_address_56 : q_d cX8_address 56 57 (.istore_n 3) 1 := ⟨by decide +kernel, rfl⟩
theorem dX8_address_57 : q_d cX8_address 57 58 (.aload_n 0) 1 := ⟨by decide +kernel, rfl⟩
theorem dX8_address_58 : q_d cX8_address 58 61 (.getfield 20) 3 := ⟨by decide +kernel, rfl⟩
theorem dX8_address_61 : q_d cX8_address 61 62 (.iload_n 1) 1 := ⟨by decide +kernel, rfl⟩
theorem dX8_address_62 : q_d cX8_address 62 63 (.iconst 1) 1 := ⟨by decide +kernel, rfl⟩
theorem dX8_address_63 : q_d cX8_address 63 64 (.iload_n 2) 1 := ⟨by decide +kernel, rfl⟩
theorem dX8_address_64 : q_d cX8_address 64 65 (.i2l) 1 := ⟨by decide +kernel, rfl⟩
theorem dX8_address_65 : q_d cX8_address 65 68 (.invokestatic 299) 3 := ⟨by decide +kernel, rfl⟩
theorem dX8_address_68 : q_d cX8_address 68 69 (.iload_n 3) 1 := ⟨by decide +kernel, rfl⟩
theorem dX8_address_69 : q_d cX8_address 69 70 (.ireturn) 1 := ⟨by decide +kernel, rfl⟩
theorem dX8_close_0 : q_d cX8_close 0 1 (.aload_n 0) 1 := ⟨by decide +kernel, rfl⟩
theorem dX8_close_1 : q_d cX8_close 1 2 (.iconst 0) 1 := ⟨by decide +kernel, rfl⟩
theorem dX8_close_2 : q_d cX8_close 2 5 (.putfield 52) 3 := ⟨by decide +kernel, rfl⟩
theorem dX8_close_5 : q_d cX8_close 5 6 (.aload_n 0) 1 := ⟨by decide +kernel, rfl⟩
theorem dX8_close_6 : q_d cX8_close 6 7 (.aload_n 0) 1 := ⟨by decide +kernel, rfl⟩
theorem dX8_close_7 : q_d cX8_close 7 8 (.iload_n 1) 1 := ⟨by decide +kernel, rfl⟩
theorem dX8_close_8 : q_d cX8_close 8 11 (.invokevirtual 340) 3 := ⟨by decide +kernel, rfl⟩
theorem dX8_close_11 : q_j cX8_close 11 14 18 (fun o => .ifCond .ne o) := ⟨7, by decide +kernel, rfl, rfl⟩
theorem dX8_close_14 : q_d cX8_close 14 15 (.iconst 1) 1 := ⟨by decide +kernel, rfl⟩
theorem dX8_close_15 : q_j cX8_close 15 18 19 (fun o => .goto o) := ⟨4, by decide +kernel, rfl, rfl⟩
theorem dX8_close_18 : q_d cX8_close 18 19 (.iconst 0) 1 := ⟨by decide +kernel, rfl⟩
theorem dX8_close_19 : q_d cX8_close 19 20 (.iconst 1) 1 := ⟨by decide +kernel, rfl⟩
theorem dX8_close_20 : q_d cX8_close 20 21 (.iconst 0) 1 := ⟨by decide +kernel, rfl⟩
theorem dX8_close_21 : q_d cX8_close 21 24 (.invokevirtual 251) 3 := ⟨by decide +kernel, rfl⟩
theorem dX8_close_24 : q_j cX8_close 24 27 49 (fun o => .ifCond .ne o) := ⟨25, by decide +kernel, rfl, rfl⟩
theorem dX8_close_27 : q_d cX8_close 27 28 (.aload_n 0) 1 := ⟨by decide +kernel, rfl⟩
theorem dX8_close_28 : q_d cX8_close 28 29 (.aload_n 0) 1 := ⟨by decide +kernel, rfl⟩
theorem dX8_close_29 : q_d cX8_close 29 30 (.iload_n 1) 1 := ⟨by decide +kernel, rfl⟩
theorem dX8_close_30 : q_d cX8_close 30 33 (.invokevirtual 348) 3 := ⟨by decide +kernel, rfl⟩
theorem dX8_close_33 : q_j cX8_close 33 36 40 (fun o => .ifCond .ne o) := ⟨7, by decide +kernel, rfl, rfl⟩
theorem dX8_close_36 : q_d cX8_close 36 37 (.iconst 1) 1 := ⟨by decide +kernel, rfl⟩
theorem dX8_close_37 : q_j cX8_close 37 40 41 (fun o => .goto o) := ⟨4, by decide +kernel, rfl, rfl⟩
theorem dX8_close_40 : q_d cX8_close 40 41 (.iconst 0) 1 := ⟨by decide +kernel, rfl⟩
theorem dX8_close_41 : q_d cX8_close 41 42 (.iconst 2) 1 := ⟨by decide +kernel, rfl⟩
theorem dX8_close_42 : q_d cX8_close 42 43 (.iconst 2) 1 := ⟨by decide +kernel, rfl⟩
theorem dX8_close_43 : q_d cX8_close 43 46 (.invokevirtual 251) 3 := ⟨by decide +kernel, rfl⟩
theorem dX8_close_46 : q_j cX8_close 46 49 51 (fun o => .ifCond .eq o) := ⟨5, by decide +kernel, rfl, rfl⟩
theorem dX8_close_49 : q_d cX8_close 49 50 (.iconst 0) 1 := ⟨by decide +kernel, rfl⟩
theorem dX8_close_50 : q_d cX8_close 50 51 (.ireturn) 1 := ⟨by decide +kernel, rfl⟩
theorem dX8_close_51 : q_d cX8_close 51 52 (.aload_n 0) 1 := ⟨by decide +kernel, rfl⟩
theorem dX8_close_52 : q_d cX8_close 52 55 (.invokevirtual 258) 3 := ⟨by decide +kernel, rfl⟩
theorem dX8_close_55 : q_d cX8_close 55 56 (.aload_n 0) 1 := ⟨by decide +kernel, rfl⟩
theorem dX8_close_56 : q_d cX8_close 56 59 (.getfield 20) 3 := ⟨by decide +kernel, rfl⟩
theorem dX8_close_59 : q_d cX8_close 59 60 (.iload_n 1) 1 := ⟨by decide +kernel, rfl⟩
theorem dX8_close_60 : q_d cX8_close 60 61 (.iconst 3) 1 := ⟨by decide +kernel, rfl⟩
theorem dX8_close_61 : q_d cX8_close 61 64 (.invokestatic 268) 3 := ⟨by decide +kernel, rfl⟩
theorem dX8_close_64 : q_d cX8_close 64 65 (.l2i) 1 := ⟨by decide +kernel, rfl⟩
theorem dX8_close_65 : q_d cX8_close 65 66 (.istore_n 2) 1 := ⟨by decide +kernel, rfl⟩
theorem dX8_close_66 : q_d cX8_close 66 67 (.aload_n 0) 1 := ⟨by decide +kernel, rfl⟩
theorem dX8_close_67 : q_d cX8_close 67 70 (.getfield 20) 3 := ⟨by decide +kernel, rfl⟩
theorem dX8_close_70 : q_d cX8_close 70 72 (.bipush 19) 2 := ⟨by decide +kernel, rfl⟩
theorem dX8_close_72 : q_d cX8_close 72 73 (.dup2) 1 := ⟨by decide +kernel, rfl⟩
theorem dX8_close_73 : q_d cX8_close 73 74 (.laload) 1 := ⟨by decide +kernel, rfl⟩
theorem dX8_close_74 : q_d cX8_close 74 75 (.iload_n 2) 1 := ⟨by decide +kernel, rfl⟩
theorem dX8_close_75 : q_d cX8_close 75 76 (.i2l) 1 := ⟨by decide +kernel, rfl⟩
theorem dX8_close_76 : q_d cX8_close 76 77 (.ladd) 1 := ⟨by decide +kernel, rfl⟩
theorem dX8_close_77 : q_d cX8_close 77 78 (.lastore) 1 := ⟨by decide +kernel, rfl⟩
theorem dX8_close_78 : q_d cX8_close 78 79 (.aload_n 0) 1 := ⟨by decide +kernel, rfl⟩
theorem dX8_close_79 : q_d cX8_close 79 82 (.getfield 20) 3 := ⟨by decide +kernel, rfl⟩
theorem dX8_close_82 : q_d cX8_close 82 83 (.iload_n 1) 1 := ⟨by decide +kernel, rfl⟩
theorem dX8_close_83 : q_d cX8_close 83 84 (.iconst 3) 1 := ⟨by decide +kernel, rfl⟩
theorem dX8_close_84 : q_d cX8_close 84 85 (.lconst 0) 1 := ⟨by decide +kernel, rfl⟩
theorem dX8_close_85 : q_d cX8_close 85 88 (.invokestatic 299) 3 := ⟨by decide +kernel, rfl⟩
theorem dX8_close_88 : q_d cX8_close 88 89 (.aload_n 0) 1 := ⟨by decide +kernel, rfl⟩
theorem dX8_close_89 : q_d cX8_close 89 92 (.getfield 20) 3 := ⟨by decide +kernel, rfl⟩
theorem dX8_close_92 : q_d cX8_close 92 93 (.iload_n 1) 1 := ⟨by decide +kernel, rfl⟩
theorem dX8_close_93 : q_d cX8_close 93 94 (.iconst 4) 1 := ⟨by decide +kernel, rfl⟩
theorem dX8_close_94 : q_d cX8_close 94 97 (.ldc2_w 346) 3 := ⟨by decide +kernel, rfl⟩
theorem dX8_close_97 : q_d cX8_close 97 100 (.invokestatic 299) 3 := ⟨by decide +kernel, rfl⟩
theorem dX8_close_100 : q_d cX8_close 100 101 (.iload_n 2) 1 := ⟨by decide +kernel, rfl⟩
theorem dX8_close_101 : q_d cX8_close 101 102 (.ireturn) 1 := ⟨by decide +kernel, rfl⟩
theorem dX8_months_0 : q_d cX8_months 0 1 (.aload_n 0) 1 := ⟨by decide +kernel, rfl⟩
theorem dX8_months_1 : q_d cX8_months 1 2 (.iconst 0) 1 := ⟨by decide +kernel, rfl⟩
theorem dX8_months_2 : q_d cX8_months 2 5 (.putfield 52) 3 := ⟨by decide +kernel, rfl⟩
theorem dX8_months_5 : q_d cX8_months 5 6 (.aload_n 0) 1 := ⟨by decide +kernel, rfl⟩
theorem dX8_months_6 : q_d cX8_months 6 7 (.iload_n 1) 1 := ⟨by decide +kernel, rfl⟩
theorem dX8_months_7 : q_d cX8_months 7 8 (.i2l) 1 := ⟨by decide +kernel, rfl⟩
theorem dX8_months_8 : q_d cX8_months 8 9 (.lconst 1) 1 := ⟨by decide +kernel, rfl⟩
theorem dX8_months_9 : q_d cX8_months 9 12 (.ldc2_w 357) 3 := ⟨by decide +kernel, rfl⟩
theorem dX8_months_12 : q_d cX8_months 12 15 (.invokestatic 123) 3 := ⟨by decide +kernel, rfl⟩
theorem dX8_months_15 : q_j cX8_months 15 18 22 (fun o => .ifCond .ne o) := ⟨7, by decide +kernel, rfl, rfl⟩
theorem dX8_months_18 : q_d cX8_months 18 19 (.iconst 1) 1 := ⟨by decide +kernel, rfl⟩
theorem dX8_months_19 : q_j cX8_months 19 22 23 (fun o => .goto o) := ⟨4, by decide +kernel, rfl, rfl⟩
theorem dX8_months_22 : q_d cX8_months 22 23 (.iconst 0) 1 := ⟨by decide +kernel, rfl⟩
theorem dX8_months_23 : q_d cX8_months 23 24 (.iconst 1) 1 := ⟨by decide +kernel, rfl⟩
theorem dX8_months_24 : q_d cX8_months 24 25 (.iconst 1) 1 := ⟨by decide +kernel, rfl⟩
theorem dX8_months_25 : q_d cX8_months 25 28 (.invokevirtual 251) 3 := ⟨by decide +kernel, rfl⟩
theorem dX8_months_28 : q_j cX8_months 28 31 61 (fun o => .ifCond .ne o) := ⟨33, by decide +kernel, rfl, rfl⟩
theorem dX8_months_31 : q_d cX8_months 31 32 (.aload_n 0) 1 := ⟨by decide +kernel, rfl⟩
theorem dX8_months_32 : q_d cX8_months 32 33 (.aload_n 0) 1 := ⟨by decide +kernel, rfl⟩
theorem dX8_months_33 : q_d cX8_months 33 36 (.getfield 20) 3 := ⟨by decide +kernel, rfl⟩
theorem dX8_months_36 : q_d cX8_months 36 37 (.iconst 2) 1 := ⟨by decide +kernel, rfl⟩
theorem dX8_months_37 : q_d cX8_months 37 38 (.laload) 1 := ⟨by decide +kernel, rfl⟩
theorem dX8_months_38 : q_d cX8_months 38 39 (.iload_n 1) 1 := ⟨by decide +kernel, rfl⟩
theorem dX8_months_39 : q_d cX8_months 39 40 (.i2l) 1 := ⟨by decide +kernel, rfl⟩
theorem dX8_months_40 : q_d cX8_months 40 41 (.ladd) 1 := ⟨by decide +kernel, rfl⟩
theorem dX8_months_41 : q_d cX8_months 41 44 (.ldc2_w 328) 3 := ⟨by decide +kernel, rfl⟩
theorem dX8_months_44 : q_d cX8_months 44 45 (.lcmp) 1 := ⟨by decide +kernel, rfl⟩
theorem dX8_months_45 : q_j cX8_months 45 48 52 (fun o => .ifCond .le o) := ⟨7, by decide +kernel, rfl, rfl⟩
theorem dX8_months_48 : q_d cX8_months 48 49 (.iconst 1) 1 := ⟨by decide +kernel, rfl⟩
theorem dX8_months_49 : q_j cX8_months 49 52 53 (fun o => .goto o) := ⟨4, by decide +kernel, rfl, rfl⟩
theorem dX8_months_52 : q_d cX8_months 52 53 (.iconst 0) 1 := ⟨by decide +kernel, rfl⟩
theorem dX8_months_53 : q_d cX8_months 53 54 (.iconst 2) 1 := ⟨by decide +kernel, rfl⟩
theorem dX8_months_54 : q_d cX8_months 54 55 (.iconst 2) 1 := ⟨by decide +kernel, rfl⟩
theorem dX8_months_55 : q_d cX8_months 55 58 (.invokevirtual 251) 3 := ⟨by decide +kernel, rfl⟩
theorem dX8_months_58 : q_j cX8_months 58 61 63 (fun o => .ifCond .eq o) := ⟨5, by decide +kernel, rfl, rfl⟩
theorem dX8_months_61 : q_d cX8_months 61 62 (.iconst 0) 1 := ⟨by decide +kernel, rfl⟩
theorem dX8_months_62 : q_d cX8_months 62 63 (.ireturn) 1 := ⟨by decide +kernel, rfl⟩
theorem dX8_months_63 : q_d cX8_months 63 64 (.aload_n 0) 1 := ⟨by decide +kernel, rfl⟩
theorem dX8_months_64 : q_d cX8_months 64 67 (.invokevirtual 258) 3 := ⟨by decide +kernel, rfl⟩
theorem dX8_months_67 : q_d cX8_months 67 68 (.aload_n 0) 1 := ⟨by decide +kernel, rfl⟩
theorem dX8_months_68 : q_d cX8_months 68 69 (.aload_n 0) 1 := ⟨by decide +kernel, rfl⟩
theorem dX8_months_69 : q_d cX8_months 69 72 (.getfield 20) 3 := ⟨by decide +kernel, rfl⟩
theorem dX8_months_72 : q_d cX8_months 72 73 (.iload_n 1) 1 := ⟨by decide +kernel, rfl⟩
theorem dX8_months_73 : q_d cX8_months 73 76 (.invokevirtual 359) 3 := ⟨by decide +kernel, rfl⟩
theorem dX8_months_76 : q_d cX8_months 76 77 (.ireturn) 1 := ⟨by decide +kernel, rfl⟩
theorem dX8_interestOf_0 : q_d cX8_interestOf 0 1 (.aload_n 0) 1 := ⟨by decide +kernel, rfl⟩
theorem dX8_interestOf_1 : q_d cX8_interestOf 1 4 (.getfield 20) 3 := ⟨by decide +kernel, rfl⟩
theorem dX8_interestOf_4 : q_d cX8_interestOf 4 5 (.iload_n 1) 1 := ⟨by decide +kernel, rfl⟩
theorem dX8_interestOf_5 : q_d cX8_interestOf 5 7 (.bipush 8) 2 := ⟨by decide +kernel, rfl⟩
theorem dX8_interestOf_7 : q_d cX8_interestOf 7 10 (.invokestatic 268) 3 := ⟨by decide +kernel, rfl⟩
theorem dX8_interestOf_10 : q_d cX8_interestOf 10 11 (.l2i) 1 := ⟨by decide +kernel, rfl⟩
theorem dX8_interestOf_11 : q_d cX8_interestOf 11 12 (.istore_n 3) 1 := ⟨by decide +kernel, rfl⟩
theorem dX8_interestOf_12 : q_d cX8_interestOf 12 13 (.aload_n 0) 1 := ⟨by decide +kernel, rfl⟩
theorem dX8_interestOf_13 : q_d cX8_interestOf 13 16 (.getfield 20) 3 := ⟨by decide +kernel, rfl⟩
theorem dX8_interestOf_16 : q_d cX8_interestOf 16 17 (.iconst 2) 1 := ⟨by decide +kernel, rfl⟩
theorem dX8_interestOf_17 : q_d cX8_interestOf 17 18 (.laload) 1 := ⟨by decide +kernel, rfl⟩
theorem dX8_interestOf_18 : q_d cX8_interestOf 18 19 (.iload_n 2) 1 := ⟨by decide +kernel, rfl⟩
theorem dX8_interestOf_19 : q_d cX8_interestOf 19 20 (.i2l) 1 := ⟨by decide +kernel, rfl⟩
theorem dX8_interestOf_20 : q_d cX8_interestOf 20 21 (.ladd) 1 := ⟨by decide +kernel, rfl⟩
theorem dX8_interestOf_21 : q_d cX8_interestOf 21 22 (.aload_n 0) 1 := ⟨by decide +kernel, rfl⟩
theorem dX8_interestOf_22 : q_d cX8_interestOf 22 25 (.getfield 20) 3 := ⟨by decide +kernel, rfl⟩
theorem dX8_interestOf_25 : q_d cX8_interestOf 25 26 (.iload_n 1) 1 := ⟨by decide +kernel, rfl⟩
theorem dX8_interestOf_26 : q_d cX8_interestOf 26 28 (.bipush 11) 2 := ⟨by decide +kernel, rfl⟩
theorem dX8_interestOf_28 : q_d cX8_interestOf 28 31 (.invokestatic 268) 3 := ⟨by decide +kernel, rfl⟩
theorem dX8_interestOf_31 : q_d cX8_interestOf 31 32 (.lsub) 1 := ⟨by decide +kernel, rfl⟩
theorem dX8_interestOf_32 : q_d cX8_interestOf 32 35 (.ldc2_w 323) 3 := ⟨by decide +kernel, rfl⟩
theorem dX8_interestOf_35 : q_d cX8_interestOf 35 36 (.aload_n 0) 1 := ⟨by decide +kernel, rfl⟩
theorem dX8_interestOf_36 : q_d cX8_interestOf 36 39 (.getfield 20) 3 := ⟨by decide +kernel, rfl⟩
theorem dX8_interestOf_39 : q_d cX8_interestOf 39 40 (.iload_n 3) 1 := ⟨by decide +kernel, rfl⟩
theorem dX8_interestOf_40 : q_d cX8_interestOf 40 42 (.bipush 10) 2 := ⟨by decide +kernel, rfl⟩
theorem dX8_interestOf_42 : q_d cX8_interestOf 42 45 (.invokestatic 176) 3 := ⟨by decide +kernel, rfl⟩
theorem dX8_interestOf_45 : q_d cX8_interestOf 45 46 (.laload) 1 := ⟨by decide +kernel, rfl⟩
theorem dX8_interestOf_46 : q_d cX8_interestOf 46 47 (.lmul) 1 := ⟨by decide +kernel, rfl⟩
theorem dX8_interestOf_47 : q_d cX8_interestOf 47 50 (.invokestatic 119) 3 := ⟨by decide +kernel, rfl⟩
theorem dX8_interestOf_50 : q_d cX8_interestOf 50 52 (.lstore 4) 2 := ⟨by decide +kernel, rfl⟩
theorem dX8_interestOf_52 : q_d cX8_interestOf 52 53 (.aload_n 0) 1 := ⟨by decide +kernel, rfl⟩
theorem dX8_interestOf_53 : q_d cX8_interestOf 53 56 (.getfield 20) 3 := ⟨by decide +kernel, rfl⟩
theorem dX8_interestOf_56 : q_d cX8_interestOf 56 57 (.iload_n 1) 1 := ⟨by decide +kernel, rfl⟩
theorem dX8_interestOf_57 : q_d cX8_interestOf 57 58 (.iconst 3) 1 := ⟨by decide +kernel, rfl⟩
theorem dX8_interestOf_58 : q_d cX8_interestOf 58 61 (.invokestatic 268) 3 := ⟨by decide +kernel, rfl⟩
theorem dX8_interestOf_61 : q_d cX8_interestOf 61 62 (.aload_n 0) 1 := ⟨by decide +kernel, rfl⟩
theorem dX8_interestOf_62 : q_d cX8_interestOf 62 65 (.getfield 20) 3 := ⟨by decide +kernel, rfl⟩
theorem dX8_interestOf_65 : q_d cX8_interestOf 65 66 (.iload_n 3) 1 := ⟨by decide +kernel, rfl⟩
theorem dX8_interestOf_66 : q_d cX8_interestOf 66 68 (.bipush 9) 2 := ⟨by decide +kernel, rfl⟩
theorem dX8_interestOf_68 : q_d cX8_interestOf 68 71 (.invokestatic 176) 3 := ⟨by decide +kernel, rfl⟩
theorem dX8_interestOf_71 : q_d cX8_interestOf 71 72 (.laload) 1 := ⟨by decide +kernel, rfl⟩
theorem dX8_interestOf_72 : q_d cX8_interestOf 72 73 (.lmul) 1 := ⟨by decide +kernel, rfl⟩
theorem dX8_interestOf_73 : q_d cX8_interestOf 73 75 (.lload 4) 2 := ⟨by decide +kernel, rfl⟩
theorem dX8_interestOf_75 : q_d cX8_interestOf 75 76 (.lmul) 1 := ⟨by decide +kernel, rfl⟩
theorem dX8_interestOf_76 : q_d cX8_interestOf 76 79 (.ldc2_w 310) 3 := ⟨by decide +kernel, rfl⟩
theorem dX8_interestOf_79 : q_d cX8_interestOf 79 80 (.ldiv) 1 := ⟨by decide +kernel, rfl⟩
theorem dX8_interestOf_80 : q_d cX8_interestOf 80 81 (.lreturn) 1 := ⟨by decide +kernel, rfl⟩
theorem dX8_canClaim_0 : q_d cX8_canClaim 0 1 (.aload_n 0) 1 := ⟨by decide +kernel, rfl⟩
theorem dX8_canClaim_1 : q_d cX8_canClaim 1 4 (.getfield 20) 3 := ⟨by decide +kernel, rfl⟩
theorem dX8_canClaim_4 : q_d cX8_canClaim 4 5 (.iload_n 1) 1 := ⟨by decide +kernel, rfl⟩
theorem dX8_canClaim_5 : q_d cX8_canClaim 5 6 (.iconst 4) 1 := ⟨by decide +kernel, rfl⟩
theorem dX8_canClaim_6 : q_d cX8_canClaim 6 9 (.invokestatic 268) 3 := ⟨by decide +kernel, rfl⟩
theorem dX8_canClaim_9 : q_d cX8_canClaim 9 12 (.ldc2_w 302) 3 := ⟨by decide +kernel, rfl⟩
theorem dX8_canClaim_12 : q_d cX8_canClaim 12 13 (.lcmp) 1 := ⟨by decide +kernel, rfl⟩
theorem dX8_canClaim_13 : q_j cX8_canClaim 13 16 35 (fun o => .ifCond .ne o) := ⟨22, by decide +kernel, rfl, rfl⟩
theorem dX8_canClaim_16 : q_d cX8_canClaim 16 17 (.aload_n 0) 1 := ⟨by decide +kernel, rfl⟩
theorem dX8_canClaim_17 : q_d cX8_canClaim 17 20 (.getfield 20) 3 := ⟨by decide +kernel, rfl⟩
theorem dX8_canClaim_20 : q_d cX8_canClaim 20 21 (.iload_n 1) 1 := ⟨by decide +kernel, rfl⟩
theorem dX8_canClaim_21 : q_d cX8_canClaim 21 23 (.bipush 10) 2 := ⟨by decide +kernel, rfl⟩
theorem dX8_canClaim_23 : q_d cX8_canClaim 23 26 (.invokestatic 268) 3 := ⟨by decide +kernel, rfl⟩
theorem dX8_canClaim_26 : q_d cX8_canClaim 26 27 (.lconst 0) 1 := ⟨by decide +kernel, rfl⟩
theorem dX8_canClaim_27 : q_d cX8_canClaim 27 28 (.lcmp) 1 := ⟨by decide +kernel, rfl⟩
theorem dX8_canClaim_28 : q_j cX8_canClaim 28 31 35 (fun o => .ifCond .ne o) := ⟨7, by decide +kernel, rfl, rfl⟩
theorem dX8_canClaim_31 : q_d cX8_canClaim 31 32 (.iconst 1) 1 := ⟨by decide +kernel, rfl⟩
theorem dX8_canClaim_32 : q_j cX8_canClaim 32 35 36 (fun o => .goto o) := ⟨4, by decide +kernel, rfl, rfl⟩
theorem dX8_canClaim_35 : q_d cX8_canClaim 35 36 (.iconst 0) 1 := ⟨by decide +kernel, rfl⟩
theorem dX8_canClaim_36 : q_d cX8_canClaim 36 37 (.ireturn) 1 := ⟨by decide +kernel, rfl⟩
theorem dX8_claim_0 : q_d cX8_claim 0 1 (.aload_n 0) 1 := ⟨by decide +kernel, rfl⟩
theorem dX8_claim_1 : q_d cX8_claim 1 2 (.iconst 0) 1 := ⟨by decide +kernel, rfl⟩
theorem dX8_claim_2 : q_d cX8_claim 2 5 (.putfield 52) 3 := ⟨by decide +kernel, rfl⟩
theorem dX8_claim_5 : q_d cX8_claim 5 6 (.aload_n 0) 1 := ⟨by decide +kernel, rfl⟩
theorem dX8_claim_6 : q_d cX8_claim 6 7 (.aload_n 0) 1 := ⟨by decide +kernel, rfl⟩
theorem dX8_claim_7 : q_d cX8_claim 7 8 (.iload_n 1) 1 := ⟨by decide +kernel, rfl⟩
theorem dX8_claim_8 : q_d cX8_claim 8 11 (.invokevirtual 340) 3 := ⟨by decide +kernel, rfl⟩
theorem dX8_claim_11 : q_j cX8_claim 11 14 18 (fun o => .ifCond .ne o) := ⟨7, by decide +kernel, rfl, rfl⟩
theorem dX8_claim_14 : q_d cX8_claim 14 15 (.iconst 1) 1 := ⟨by decide +kernel, rfl⟩
theorem dX8_claim_15 : q_j cX8_claim 15 18 19 (fun o => .goto o) := ⟨4, by decide +kernel, rfl, rfl⟩
theorem dX8_claim_18 : q_d cX8_claim 18 19 (.iconst 0) 1 := ⟨by decide +kernel, rfl⟩
theorem dX8_claim_19 : q_d cX8_claim 19 20 (.iconst 1) 1 := ⟨by decide +kernel, rfl⟩
theorem dX8_claim_20 : q_d cX8_claim 20 21 (.iconst 0) 1 := ⟨by decide +kernel, rfl⟩
theorem dX8_claim_21 : q_d cX8_claim 21 24 (.invokevirtual 251) 3 := ⟨by decide +kernel, rfl⟩
theorem dX8_claim_24 : q_j cX8_claim 24 27 57 (fun o => .ifCond .ne o) := ⟨33, by decide +kernel, rfl, rfl⟩
theorem dX8_claim_27 : q_d cX8_claim 27 28 (.aload_n 0) 1 := ⟨by decide +kernel, rfl⟩
theorem dX8_claim_28 : q_d cX8_claim 28 29 (.aload_n 0) 1 := ⟨by decide +kernel, rfl⟩
theorem dX8_claim_29 : q_d cX8_claim 29 30 (.iload_n 1) 1 := ⟨by decide +kernel, rfl⟩
theorem dX8_claim_30 : q_d cX8_claim 30 33 (.invokevirtual 340) 3 := ⟨by decide +kernel, rfl⟩
theorem dX8_claim_33 : q_j cX8_claim 33 36 48 (fun o => .ifCond .eq o) := ⟨15, by decide +kernel, rfl, rfl⟩
theorem dX8_claim_36 : q_d cX8_claim 36 37 (.aload_n 0) 1 := ⟨by decide +kernel, rfl⟩
theorem dX8_claim_37 : q_d cX8_claim 37 38 (.iload_n 1) 1 := ⟨by decide +kernel, rfl⟩
theorem dX8_claim_38 : q_d cX8_claim 38 41 (.invokevirtual 362) 3 := ⟨by decide +kernel, rfl⟩
theorem dX8_claim_41 : q_j cX8_claim 41 44 48 (fun o => .ifCond .ne o) := ⟨7, by decide +kernel, rfl, rfl⟩
theorem dX8_claim_44 : q_d cX8_claim 44 45 (.iconst 1) 1 := ⟨by decide +kernel, rfl⟩
theorem dX8_claim_45 : q_j cX8_claim 45 48 49 (fun o => .goto o) := ⟨4, by decide +kernel, rfl, rfl⟩
theorem dX8_claim_48 : q_d cX8_claim 48 49 (.iconst 0) 1 := ⟨by decide +kernel, rfl⟩
theorem dX8_claim_49 : q_d cX8_claim 49 50 (.iconst 2) 1 := ⟨by decide +kernel, rfl⟩
theorem dX8_claim_50 : q_d cX8_claim 50 51 (.iconst 2) 1 := ⟨by decide +kernel, rfl⟩
theorem dX8_claim_51 : q_d cX8_claim 51 54 (.invokevirtual 251) 3 := ⟨by decide +kernel, rfl⟩
theorem dX8_claim_54 : q_j cX8_claim 54 57 59 (fun o => .ifCond .eq o) := ⟨5, by decide +kernel, rfl, rfl⟩
theorem dX8_claim_57 : q_d cX8_claim 57 58 (.lconst 0) 1 := ⟨by decide +kernel, rfl⟩
theorem dX8_claim_58 : q_d cX8_claim 58 59 (.lreturn) 1 := ⟨by decide +kernel, rfl⟩
theorem dX8_claim_59 : q_d cX8_claim 59 60 (.aload_n 0) 1 := ⟨by decide +kernel, rfl⟩
theorem dX8_claim_60 : q_d cX8_claim 60 63 (.invokevirtual 258) 3 := ⟨by decide +kernel, rfl⟩
theorem dX8_claim_63 : q_d cX8_claim 63 64 (.aload_n 0) 1 := ⟨by decide +kernel, rfl⟩
theorem dX8_claim_64 : q_d cX8_claim 64 67 (.getfield 20) 3 := ⟨by decide +kernel, rfl⟩
theorem dX8_claim_67 : q_d cX8_claim 67 68 (.iload_n 1) 1 := ⟨by decide +kernel, rfl⟩
theorem dX8_claim_68 : q_d cX8_claim 68 69 (.iconst 3) 1 := ⟨by decide +kernel, rfl⟩
theorem dX8_claim_69 : q_d cX8_claim 69 72 (.invokestatic 268) 3 := ⟨by decide +kernel, rfl⟩
theorem dX8_claim_72 : q_d cX8_claim 72 73 (.lstore_n 2) 1 := ⟨by decide +kernel, rfl⟩
theorem dX8_claim_73 : q_d cX8_claim 73 74 (.aload_n 0) 1 := ⟨by decide +kernel, rfl⟩
theorem dX8_claim_74 : q_d cX8_claim 74 75 (.iload_n 1) 1 := ⟨by decide +kernel, rfl⟩
theorem dX8_claim_75 : q_d cX8_claim 75 76 (.iconst 0) 1 := ⟨by decide +kernel, rfl⟩
theorem dX8_claim_76 : q_d cX8_claim 76 79 (.invokevirtual 365) 3 := ⟨by decide +kernel, rfl⟩
theorem dX8_claim_79 : q_d cX8_claim 79 81 (.lstore 4) 2 := ⟨by decide +kernel, rfl⟩
theorem dX8_claim_81 : q_d cX8_claim 81 82 (.aload_n 0) 1 := ⟨by decide +kernel, rfl⟩
theorem dX8_claim_82 : q_d cX8_claim 82 85 (.getfield 20) 3 := ⟨by decide +kernel, rfl⟩
theorem dX8_claim_85 : q_d cX8_claim 85 86 (.aload_n 0) 1 := ⟨by decide +kernel, rfl⟩
theorem dX8_claim_86 : q_d cX8_claim 86 89 (.getfield 20) 3 := ⟨by decide +kernel, rfl⟩
theorem dX8_claim_89 : q_d cX8_claim 89 90 (.iload_n 1) 1 := ⟨by decide +kernel, rfl⟩
theorem dX8_claim_90 : q_d cX8_claim 90 92 (.bipush 8) 2 := ⟨by decide +kernel, rfl⟩
theorem dX8_claim_92 : q_d cX8_claim 92 95 (.invokestatic 268) 3 := ⟨by decide +kernel, rfl⟩
theorem dX8_claim_95 : q_d cX8_claim 95 96 (.l2i) 1 := ⟨by decide +kernel, rfl⟩
theorem dX8_claim_96 : q_d cX8_claim 96 98 (.bipush 11) 2 := ⟨by decide +kernel, rfl⟩
theorem dX8_claim_98 : q_d cX8_claim 98 101 (.invokestatic 176) 3 := ⟨by decide +kernel, rfl⟩
theorem dX8_claim_101 : q_d cX8_claim 101 102 (.dup2) 1 := ⟨by decide +kernel, rfl⟩
theorem dX8_claim_102 : q_d cX8_claim 102 103 (.laload) 1 := ⟨by decide +kernel, rfl⟩
theorem dX8_claim_103 : q_d cX8_claim 103 105 (.lload 4) 2 := ⟨by decide +kernel, rfl⟩
theorem dX8_claim_105 : q_d cX8_claim 105 106 (.ladd) 1 := ⟨by decide +kernel, rfl⟩
theorem dX8_claim_106 : q_d cX8_claim 106 107 (.lastore) 1 := ⟨by decide +kernel, rfl⟩
theorem dX8_claim_107 : q_d cX8_claim 107 108 (.aload_n 0) 1 := ⟨by decide +kernel, rfl⟩
theorem dX8_claim_108 : q_d cX8_claim 108 111 (.getfield 20) 3 := ⟨by decide +kernel, rfl⟩
theorem dX8_claim_111 : q_d cX8_claim 111 113 (.bipush 23) 2 := ⟨by decide +kernel, rfl⟩
theorem dX8_claim_113 : q_d cX8_claim 113 114 (.dup2) 1 := ⟨by decide +kernel, rfl⟩
theorem dX8_claim_114 : q_d cX8_claim 114 115 (.laload) 1 := ⟨by decide +kernel, rfl⟩
theorem dX8_claim_115 : q_d cX8_claim 115 116 (.lload_n 2) 1 := ⟨by decide +kernel, rfl⟩
theorem dX8_claim_116 : q_d cX8_claim 116 117 (.ladd) 1 := ⟨by decide +kernel, rfl⟩
theorem dX8_claim_117 : q_d cX8_claim 117 118 (.lastore) 1 := ⟨by decide +kernel, rfl⟩
theorem dX8_claim_118 : q_d cX8_claim 118 119 (.aload_n 0) 1 := ⟨by decide +kernel, rfl⟩
theorem dX8_claim_119 : q_d cX8_claim 119 122 (.getfield 20) 3 := ⟨by decide +kernel, rfl⟩
theorem dX8_claim_122 : q_d cX8_claim 122 123 (.iload_n 1) 1 := ⟨by decide +kernel, rfl⟩
theorem dX8_claim_123 : q_d cX8_claim 123 124 (.iconst 3) 1 := ⟨by decide +kernel, rfl⟩
theorem dX8_claim_124 : q_d cX8_claim 124 125 (.lconst 0) 1 := ⟨by decide +kernel, rfl⟩
theorem dX8_claim_125 : q_d cX8_claim 125 128 (.invokestatic 299) 3 := ⟨by decide +kernel, rfl⟩
theorem dX8_claim_128 : q_d cX8_claim 128 129 (.aload_n 0) 1 := ⟨by decide +kernel, rfl⟩
theorem dX8_claim_129 : q_d cX8_claim 129 132 (.getfield 20) 3 := ⟨by decide +kernel, rfl⟩
theorem dX8_claim_132 : q_d cX8_claim 132 133 (.iload_n 1) 1 := ⟨by decide +kernel, rfl⟩
theorem dX8_claim_133 : q_d cX8_claim 133 134 (.iconst 4) 1 := ⟨by decide +kernel, rfl⟩
theorem dX8_claim_134 : q_d cX8_claim 134 137 (.ldc2_w 50) 3 := ⟨by decide +kernel, rfl⟩
theorem dX8_claim_137 : q_d cX8_claim 137 140 (.invokestatic 299) 3 := ⟨by decide +kernel, rfl⟩
theorem dX8_claim_140 : q_d cX8_claim 140 141 (.lload_n 2) 1 := ⟨by decide +kernel, rfl⟩
theorem dX8_claim_141 : q_d cX8_claim 141 143 (.lload 4) 2 := ⟨by decide +kernel, rfl⟩
theorem dX8_claim_143 : q_d cX8_claim 143 144 (.ladd) 1 := ⟨by decide +kernel, rfl⟩
theorem dX8_claim_144 : q_d cX8_claim 144 145 (.lreturn) 1 := ⟨by decide +kernel, rfl⟩
theorem dX8_pass_0 : q_d cX8_pass 0 1 (.aload_n 0) 1 := ⟨by decide +kernel, rfl⟩
theorem dX8_pass_1 : q_d cX8_pass 1 2 (.iconst 0) 1 := ⟨by decide +kernel, rfl⟩
theorem dX8_pass_2 : q_d cX8_pass 2 5 (.putfield 52) 3 := ⟨by decide +kernel, rfl⟩
theorem dX8_pass_5 : q_d cX8_pass 5 6 (.aload_n 0) 1 := ⟨by decide +kernel, rfl⟩
theorem dX8_pass_6 : q_d cX8_pass 6 7 (.aload_n 0) 1 := ⟨by decide +kernel, rfl⟩
theorem dX8_pass_7 : q_d cX8_pass 7 8 (.iload_n 1) 1 := ⟨by decide +kernel, rfl⟩
theorem dX8_pass_8 : q_d cX8_pass 8 11 (.invokevirtual 340) 3 := ⟨by decide +kernel, rfl⟩
theorem dX8_pass_11 : q_j cX8_pass 11 14 18 (fun o => .ifCond .ne o) := ⟨7, by decide +kernel, rfl, rfl⟩
theorem dX8_pass_14 : q_d cX8_pass 14 15 (.iconst 1) 1 := ⟨by decide +kernel, rfl⟩
theorem dX8_pass_15 : q_j cX8_pass 15 18 19 (fun o => .goto o) := ⟨4, by decide +kernel, rfl, rfl⟩
theorem dX8_pass_18 : q_d cX8_pass 18 19 (.iconst 0) 1 := ⟨by decide +kernel, rfl⟩
theorem dX8_pass_19 : q_d cX8_pass 19 20 (.iconst 1) 1 := ⟨by decide +kernel, rfl⟩
theorem dX8_pass_20 : q_d cX8_pass 20 21 (.iconst 0) 1 := ⟨by decide +kernel, rfl⟩
theorem dX8_pass_21 : q_d cX8_pass 21 24 (.invokevirtual 251) 3 := ⟨by decide +kernel, rfl⟩
theorem dX8_pass_24 : q_j cX8_pass 24 27 29 (fun o => .ifCond .eq o) := ⟨5, by decide +kernel, rfl, rfl⟩
theorem dX8_pass_27 : q_d cX8_pass 27 28 (.iconst 0) 1 := ⟨by decide +kernel, rfl⟩
theorem dX8_pass_28 : q_d cX8_pass 28 29 (.ireturn) 1 := ⟨by decide +kernel, rfl⟩
theorem dX8_pass_29 : q_d cX8_pass 29 30 (.aload_n 0) 1 := ⟨by decide +kernel, rfl⟩
theorem dX8_pass_30 : q_d cX8_pass 30 33 (.getfield 20) 3 := ⟨by decide +kernel, rfl⟩
theorem dX8_pass_33 : q_d cX8_pass 33 34 (.iload_n 1) 1 := ⟨by decide +kernel, rfl⟩
theorem dX8_pass_34 : q_d cX8_pass 34 37 (.invokestatic 312) 3 := ⟨by decide +kernel, rfl⟩
theorem dX8_pass_37 : q_d cX8_pass 37 38 (.istore_n 2) 1 := ⟨by decide +kernel, rfl⟩
theorem dX8_pass_38 : q_d cX8_pass 38 39 (.aload_n 0) 1 := ⟨by decide +kernel, rfl⟩
theorem dX8_pass_39 : q_d cX8_pass 39 40 (.aload_n 0) 1 := ⟨by decide +kernel, rfl⟩
theorem dX8_pass_40 : q_d cX8_pass 40 43 (.getfield 20) 3 := ⟨by decide +kernel, rfl⟩
theorem dX8_pass_43 : q_d cX8_pass 43 44 (.iload_n 1) 1 := ⟨by decide +kernel, rfl⟩
theorem dX8_pass_44 : q_d cX8_pass 44 45 (.iconst 4) 1 := ⟨by decide +kernel, rfl⟩
theorem dX8_pass_45 : q_d cX8_pass 45 48 (.invokestatic 268) 3 := ⟨by decide +kernel, rfl⟩
theorem dX8_pass_48 : q_d cX8_pass 48 51 (.ldc2_w 302) 3 := ⟨by decide +kernel, rfl⟩
theorem dX8_pass_51 : q_d cX8_pass 51 52 (.lcmp) 1 := ⟨by decide +kernel, rfl⟩
theorem dX8_pass_52 : q_j cX8_pass 52 55 76 (fun o => .ifCond .ne o) := ⟨24, by decide +kernel, rfl, rfl⟩
theorem dX8_pass_55 : q_d cX8_pass 55 56 (.iload_n 2) 1 := ⟨by decide +kernel, rfl⟩
theorem dX8_pass_56 : q_d cX8_pass 56 57 (.iconst (-1)) 1 := ⟨by decide +kernel, rfl⟩
theorem dX8_pass_57 : q_j cX8_pass 57 60 76 (fun o => .if_icmp .eq o) := ⟨19, by decide +kernel, rfl, rfl⟩
theorem dX8_pass_60 : q_d cX8_pass 60 61 (.iload_n 2) 1 := ⟨by decide +kernel, rfl⟩
theorem dX8_pass_61 : q_d cX8_pass 61 62 (.i2l) 1 := ⟨by decide +kernel, rfl⟩
theorem dX8_pass_62 : q_d cX8_pass 62 63 (.aload_n 0) 1 := ⟨by decide +kernel, rfl⟩
theorem dX8_pass_63 : q_d cX8_pass 63 66 (.getfield 20) 3 := ⟨by decide +kernel, rfl⟩
theorem dX8_pass_66 : q_d cX8_pass 66 67 (.iload_n 1) 1 := ⟨by decide +kernel, rfl⟩
theorem dX8_pass_67 : q_d cX8_pass 67 69 (.bipush 8) 2 := ⟨by decide +kernel, rfl⟩
theorem dX8_pass_69 : q_d cX8_pass 69 72 (.invokestatic 268) 3 := ⟨by decide +kernel, rfl⟩
theorem dX8_pass_72 : q_d cX8_pass 72 73 (.lcmp) 1 := ⟨by decide +kernel, rfl⟩
theorem dX8_pass_73 : q_j cX8_pass 73 76 80 (fun o => .ifCond .ne o) := ⟨7, by decide +kernel, rfl, rfl⟩
theorem dX8_pass_76 : q_d cX8_pass 76 77 (.iconst 1) 1 := ⟨by decide +kernel, rfl⟩
theorem dX8_pass_77 : q_j cX8_pass 77 80 81 (fun o => .goto o) := ⟨4, by decide +kernel, rfl, rfl⟩
theorem dX8_pass_80 : q_d cX8_pass 80 81 (.iconst 0) 1 := ⟨by decide +kernel, rfl⟩
theorem dX8_pass_81 : q_d cX8_pass 81 82 (.iconst 2) 1 := ⟨by decide +kernel, rfl⟩
theorem dX8_pass_82 : q_d cX8_pass 82 83 (.iconst 2) 1 := ⟨by decide +kernel, rfl⟩
theorem dX8_pass_83 : q_d cX8_pass 83 86 (.invokevirtual 251) 3 := ⟨by decide +kernel, rfl⟩
theorem dX8_pass_86 : q_j cX8_pass 86 89 91 (fun o => .ifCond .eq o) := ⟨5, by decide +kernel, rfl, rfl⟩
theorem dX8_pass_89 : q_d cX8_pass 89 90 (.iconst 0) 1 := ⟨by decide +kernel, rfl⟩
theorem dX8_pass_90 : q_d cX8_pass 90 91 (.ireturn) 1 := ⟨by decide +kernel, rfl⟩
theorem dX8_pass_91 : q_d cX8_pass 91 92 (.aload_n 0) 1 := ⟨by decide +kernel, rfl⟩
theorem dX8_pass_92 : q_d cX8_pass 92 95 (.invokevirtual 258) 3 := ⟨by decide +kernel, rfl⟩
theorem dX8_pass_95 : q_d cX8_pass 95 96 (.aload_n 0) 1 := ⟨by decide +kernel, rfl⟩
theorem dX8_pass_96 : q_d cX8_pass 96 99 (.getfield 20) 3 := ⟨by decide +kernel, rfl⟩
theorem dX8_pass_99 : q_d cX8_pass 99 100 (.iload_n 1) 1 := ⟨by decide +kernel, rfl⟩
theorem dX8_pass_100 : q_d cX8_pass 100 102 (.bipush 8) 2 := ⟨by decide +kernel, rfl⟩
theorem dX8_pass_102 : q_d cX8_pass 102 103 (.iload_n 2) 1 := ⟨by decide +kernel, rfl⟩
theorem dX8_pass_103 : q_d cX8_pass 103 104 (.i2l) 1 := ⟨by decide +kernel, rfl⟩
theorem dX8_pass_104 : q_d cX8_pass 104 107 (.invokestatic 299) 3 := ⟨by decide +kernel, rfl⟩
theorem dX8_pass_107 : q_d cX8_pass 107 108 (.aload_n 0) 1 := ⟨by decide +kernel, rfl⟩
theorem dX8_pass_108 : q_d cX8_pass 108 111 (.getfield 20) 3 := ⟨by decide +kernel, rfl⟩
theorem dX8_pass_111 : q_d cX8_pass 111 112 (.iload_n 2) 1 := ⟨by decide +kernel, rfl⟩
theorem dX8_pass_112 : q_d cX8_pass 112 114 (.bipush 12) 2 := ⟨by decide +kernel, rfl⟩
theorem dX8_pass_114 : q_d cX8_pass 114 117 (.invokestatic 176) 3 := ⟨by decide +kernel, rfl⟩
theorem dX8_pass_117 : q_d cX8_pass 117 118 (.dup2) 1 := ⟨by decide +kernel, rfl⟩
theorem dX8_pass_118 : q_d cX8_pass 118 119 (.laload) 1 := ⟨by decide +kernel, rfl⟩
theorem dX8_pass_119 : q_d cX8_pass 119 120 (.aload_n 0) 1 := ⟨by decide +kernel, rfl⟩
theorem dX8_pass_120 : q_d cX8_pass 120 123 (.getfield 20) 3 := ⟨by decide +kernel, rfl⟩
theorem dX8_pass_123 : q_d cX8_pass 123 124 (.iload_n 1) 1 := ⟨by decide +kernel, rfl⟩
theorem dX8_pass_124 : q_d cX8_pass 124 125 (.iconst 3) 1 := ⟨by decide +kernel, rfl⟩
theorem dX8_pass_125 : q_d cX8_pass 125 128 (.invokestatic 268) 3 := ⟨by decide +kernel, rfl⟩
theorem dX8_pass_128 : q_d cX8_pass 128 129 (.ladd) 1 := ⟨by decide +kernel, rfl⟩
theorem dX8_pass_129 : q_d cX8_pass 129 130 (.lastore) 1 := ⟨by decide +kernel, rfl⟩
theorem dX8_pass_130 : q_d cX8_pass 130 131 (.iload_n 2) 1 := ⟨by decide +kernel, rfl⟩
theorem dX8_pass_131 : q_d cX8_pass 131 132 (.ireturn) 1 := ⟨by decide +kernel, rfl⟩
theorem dX8_told_0 : q_d cX8_told 0 1 (.aload_n 0) 1 := ⟨by decide +kernel, rfl⟩
theorem dX8_told_1 : q_d cX8_told 1 2 (.iconst 0) 1 := ⟨by decide +kernel, rfl⟩
theorem dX8_told_2 : q_d cX8_told 2 5 (.putfield 52) 3 := ⟨by decide +kernel, rfl⟩
theorem dX8_told_5 : q_d cX8_told 5 6 (.aload_n 0) 1 := ⟨by decide +kernel, rfl⟩
theorem dX8_told_6 : q_d cX8_told 6 7 (.iload_n 1) 1 := ⟨by decide +kernel, rfl⟩
theorem dX8_told_7 : q_d cX8_told 7 8 (.i2l) 1 := ⟨by decide +kernel, rfl⟩
theorem dX8_told_8 : q_d cX8_told 8 9 (.lconst 0) 1 := ⟨by decide +kernel, rfl⟩
theorem dX8_told_9 : q_d cX8_told 9 12 (.ldc2_w 369) 3 := ⟨by decide +kernel, rfl⟩
theorem dX8_told_12 : q_d cX8_told 12 15 (.invokestatic 123) 3 := ⟨by decide +kernel, rfl⟩
theorem dX8_told_15 : q_j cX8_told 15 18 22 (fun o => .ifCond .ne o) := ⟨7, by decide +kernel, rfl, rfl⟩
theorem dX8_told_18 : q_d cX8_told 18 19 (.iconst 1) 1 := ⟨by decide +kernel, rfl⟩
theorem dX8_told_19 : q_j cX8_told 19 22 23 (fun o => .goto o) := ⟨4, by decide +kernel, rfl, rfl⟩
theorem dX8_told_22 : q_d cX8_told 22 23 (.iconst 0) 1 := ⟨by decide +kernel, rfl⟩
theorem dX8_told_23 : q_d cX8_told 23 24 (.iconst 1) 1 := ⟨by decide +kernel, rfl⟩
theorem dX8_told_24 : q_d cX8_told 24 25 (.iconst 1) 1 := ⟨by decide +kernel, rfl⟩
theorem dX8_told_25 : q_d cX8_told 25 28 (.invokevirtual 251) 3 := ⟨by decide +kernel, rfl⟩
theorem dX8_told_28 : q_j cX8_told 28 31 33 (fun o => .ifCond .eq o) := ⟨5, by decide +kernel, rfl, rfl⟩
theorem dX8_told_31 : q_d cX8_told 31 32 (.iconst 0) 1 := ⟨by decide +kernel, rfl⟩
theorem dX8_told_32 : q_d cX8_told 32 33 (.ireturn) 1 := ⟨by decide +kernel, rfl⟩
theorem dX8_told_33 : q_d cX8_told 33 34 (.iload_n 1) 1 := ⟨by decide +kernel, rfl⟩
theorem dX8_told_34 : q_d cX8_told 34 36 (.bipush 8) 2 := ⟨by decide +kernel, rfl⟩
theorem dX8_told_36 : q_j cX8_told 36 39 49 (fun o => .if_icmp .ge o) := ⟨13, by decide +kernel, rfl, rfl⟩
theorem dX8_told_39 : q_d cX8_told 39 40 (.aload_n 0) 1 := ⟨by decide +kernel, rfl⟩
theorem dX8_told_40 : q_d cX8_told 40 43 (.getfield 20) 3 := ⟨by decide +kernel, rfl⟩
theorem dX8_told_43 : q_d cX8_told 43 44 (.iload_n 1) 1 := ⟨by decide +kernel, rfl⟩
theorem dX8_told_44 : q_d cX8_told 44 45 (.laload) 1 := ⟨by decide +kernel, rfl⟩
theorem dX8_told_45 : q_d cX8_told 45 46 (.l2i) 1 := ⟨by decide +kernel, rfl⟩
theorem dX8_told_46 : q_j cX8_told 46 49 66 (fun o => .goto o) := ⟨20, by decide +kernel, rfl, rfl⟩
theorem dX8_told_49 : q_d cX8_told 49 50 (.iload_n 1) 1 := ⟨by decide +kernel, rfl⟩
theorem dX8_told_50 : q_d cX8_told 50 52 (.bipush 8) 2 := ⟨by decide +kernel, rfl⟩
theorem dX8_told_52 : q_j cX8_told 52 55 62 (fun o => .if_icmp .ne o) := ⟨10, by decide +kernel, rfl, rfl⟩
theorem dX8_told_55 : q_d cX8_told 55 56 (.aload_n 0) 1 := ⟨by decide +kernel, rfl⟩
theorem dX8_told_56 : q_d cX8_told 56 59 (.getfield 55) 3 := ⟨by decide +kernel, rfl⟩
theorem dX8_told_59 : q_j cX8_told 59 62 66 (fun o => .goto o) := ⟨7, by decide +kernel, rfl, rfl⟩
theorem dX8_told_62 : q_d cX8_told 62 63 (.aload_n 0) 1 := ⟨by decide +kernel, rfl⟩
theorem dX8_told_63 : q_d cX8_told 63 66 (.getfield 334) 3 := ⟨by decide +kernel, rfl⟩
theorem dX8_told_66 : q_d cX8_told 66 67 (.ireturn) 1 := ⟨by decide +kernel, rfl⟩
theorem dX8_isHeldBy_0 : q_d cX8_isHeldBy 0 1 (.aload_n 0) 1 := ⟨by decide +kernel, rfl⟩
theorem dX8_isHeldBy_1 : q_d cX8_isHeldBy 1 4 (.getfield 20) 3 := ⟨by decide +kernel, rfl⟩
theorem dX8_isHeldBy_4 : q_d cX8_isHeldBy 4 5 (.iload_n 1) 1 := ⟨by decide +kernel, rfl⟩
theorem dX8_isHeldBy_5 : q_d cX8_isHeldBy 5 6 (.iconst 4) 1 := ⟨by decide +kernel, rfl⟩
theorem dX8_isHeldBy_6 : q_d cX8_isHeldBy 6 9 (.invokestatic 268) 3 := ⟨by decide +kernel, rfl⟩
theorem dX8_isHeldBy_9 : q_d cX8_isHeldBy 9 12 (.ldc2_w 302) 3 := ⟨by decide +kernel, rfl⟩
theorem dX8_isHeldBy_12 : q_d cX8_isHeldBy 12 13 (.lcmp) 1 := ⟨by decide +kernel, rfl⟩
theorem dX8_isHeldBy_13 : q_j cX8_isHeldBy 13 16 36 (fun o => .ifCond .ne o) := ⟨23, by decide +kernel, rfl, rfl⟩
theorem dX8_isHeldBy_16 : q_d cX8_isHeldBy 16 17 (.aload_n 0) 1 := ⟨by decide +kernel, rfl⟩
theorem dX8_isHeldBy_17 : q_d cX8_isHeldBy 17 20 (.getfield 20) 3 := ⟨by decide +kernel, rfl⟩
theorem dX8_isHeldBy_20 : q_d cX8_isHeldBy 20 21 (.iload_n 1) 1 := ⟨by decide +kernel, rfl⟩
theorem dX8_isHeldBy_21 : q_d cX8_isHeldBy 21 23 (.bipush 8) 2 := ⟨by decide +kernel, rfl⟩
theorem dX8_isHeldBy_23 : q_d cX8_isHeldBy 23 26 (.invokestatic 268) 3 := ⟨by decide +kernel, rfl⟩
theorem dX8_isHeldBy_26 : q_d cX8_isHeldBy 26 27 (.iload_n 2) 1 := ⟨by decide +kernel, rfl⟩
theorem dX8_isHeldBy_27 : q_d cX8_isHeldBy 27 28 (.i2l) 1 := ⟨by decide +kernel, rfl⟩
theorem dX8_isHeldBy_28 : q_d cX8_isHeldBy 28 29 (.lcmp) 1 := ⟨by decide +kernel, rfl⟩
theorem dX8_isHeldBy_29 : q_j cX8_isHeldBy 29 32 36 (fun o => .ifCond .ne o) := ⟨7, by decide +kernel, rfl, rfl⟩
theorem dX8_isHeldBy_32 : q_d cX8_isHeldBy 32 33 (.iconst 1) 1 := ⟨by decide +kernel, rfl⟩
theorem dX8_isHeldBy_33 : q_j cX8_isHeldBy 33 36 37 (fun o => .goto o) := ⟨4, by decide +kernel, rfl, rfl⟩
theorem dX8_isHeldBy_36 : q_d cX8_isHeldBy 36 37 (.iconst 0) 1 := ⟨by decide +kernel, rfl⟩
theorem dX8_isHeldBy_37 : q_d cX8_isHeldBy 37 38 (.ireturn) 1 := ⟨by decide +kernel, rfl⟩
theorem dX8_land_0 : q_d cX8_land 0 1 (.aload_n 0) 1 := ⟨by decide +kernel, rfl⟩
theorem dX8_land_1 : q_d cX8_land 1 2 (.iconst 0) 1 := ⟨by decide +kernel, rfl⟩
theorem dX8_land_2 : q_d cX8_land 2 5 (.putfield 52) 3 := ⟨by decide +kernel, rfl⟩
theorem dX8_land_5 : q_d cX8_land 5 6 (.aload_n 0) 1 := ⟨by decide +kernel, rfl⟩
theorem dX8_land_6 : q_d cX8_land 6 7 (.aload_n 0) 1 := ⟨by decide +kernel, rfl⟩
theorem dX8_land_7 : q_d cX8_land 7 8 (.iload_n 1) 1 := ⟨by decide +kernel, rfl⟩
theorem dX8_land_8 : q_d cX8_land 8 11 (.invokevirtual 343) 3 := ⟨by decide +kernel, rfl⟩
theorem dX8_land_11 : q_j cX8_land 11 14 18 (fun o => .ifCond .ne o) := ⟨7, by decide +kernel, rfl, rfl⟩
theorem dX8_land_14 : q_d cX8_land 14 15 (.iconst 1) 1 := ⟨by decide +kernel, rfl⟩
theorem dX8_land_15 : q_j cX8_land 15 18 19 (fun o => .goto o) := ⟨4, by decide +kernel, rfl, rfl⟩
theorem dX8_land_18 : q_d cX8_land 18 19 (.iconst 0) 1 := ⟨by decide +kernel, rfl⟩
theorem dX8_land_19 : q_d cX8_land 19 20 (.iconst 1) 1 := ⟨by decide +kernel, rfl⟩
theorem dX8_land_20 : q_d cX8_land 20 21 (.iconst 0) 1 := ⟨by decide +kernel, rfl⟩
theorem dX8_land_21 : q_d cX8_land 21 24 (.invokevirtual 251) 3 := ⟨by decide +kernel, rfl⟩
theorem dX8_land_24 : q_j cX8_land 24 27 53 (fun o => .ifCond .ne o) := ⟨29, by decide +kernel, rfl, rfl⟩
theorem dX8_land_27 : q_d cX8_land 27 28 (.aload_n 0) 1 := ⟨by decide +kernel, rfl⟩
theorem dX8_land_28 : q_d cX8_land 28 29 (.iload_n 2) 1 := ⟨by decide +kernel, rfl⟩
theorem dX8_land_29 : q_d cX8_land 29 30 (.i2l) 1 := ⟨by decide +kernel, rfl⟩
theorem dX8_land_30 : q_d cX8_land 30 31 (.lconst 0) 1 := ⟨by decide +kernel, rfl⟩
theorem dX8_land_31 : q_d cX8_land 31 34 (.ldc2_w 185) 3 := ⟨by decide +kernel, rfl⟩
theorem dX8_land_34 : q_d cX8_land 34 37 (.invokestatic 123) 3 := ⟨by decide +kernel, rfl⟩
theorem dX8_land_37 : q_j cX8_land 37 40 44 (fun o => .ifCond .ne o) := ⟨7, by decide +kernel, rfl, rfl⟩
theorem dX8_land_40 : q_d cX8_land 40 41 (.iconst 1) 1 := ⟨by decide +kernel, rfl⟩
theorem dX8_land_41 : q_j cX8_land 41 44 45 (fun o => .goto o) := ⟨4, by decide +kernel, rfl, rfl⟩
theorem dX8_land_44 : q_d cX8_land 44 45 (.iconst 0) 1 := ⟨by decide +kernel, rfl⟩
theorem dX8_land_45 : q_d cX8_land 45 46 (.iconst 2) 1 := ⟨by decide +kernel, rfl⟩
theorem dX8_land_46 : q_d cX8_land 46 47 (.iconst 1) 1 := ⟨by decide +kernel, rfl⟩
theorem dX8_land_47 : q_d cX8_land 47 50 (.invokevirtual 251) 3 := ⟨by decide +kernel, rfl⟩
theorem dX8_land_50 : q_j cX8_land 50 53 55 (fun o => .ifCond .eq o) := ⟨5, by decide +kernel, rfl, rfl⟩
theorem dX8_land_53 : q_d cX8_land 53 54 (.iconst 0) 1 := ⟨by decide +kernel, rfl⟩
theorem dX8_land_54 : q_d cX8_land 54 55 (.ireturn) 1 := ⟨by decide +kernel, rfl⟩
theorem dX8_land_55 : q_d cX8_land 55 56 (.iload_n 2) 1 := ⟨by decide +kernel, rfl⟩
theorem dX8_land_56 : q_d cX8_land 56 57 (.iconst 4) 1 := ⟨by decide +kernel, rfl⟩
theorem dX8_land_57 : q_j cX8_land 57 60 75 (fun o => .if_icmp .ge o) := ⟨18, by decide +kernel, rfl, rfl⟩
theorem dX8_land_60 : q_d cX8_land 60 61 (.aload_n 0) 1 := ⟨by decide +kernel, rfl⟩
theorem dX8_land_61 : q_d cX8_land 61 64 (.getfield 20) 3 := ⟨by decide +kernel, rfl⟩
theorem dX8_land_64 : q_d cX8_land 64 65 (.iload_n 1) 1 := ⟨by decide +kernel, rfl⟩
theorem dX8_land_65 : q_d cX8_land 65 67 (.bipush 7) 2 := ⟨by decide +kernel, rfl⟩
theorem dX8_land_67 : q_d cX8_land 67 68 (.iload_n 2) 1 := ⟨by decide +kernel, rfl⟩
theorem dX8_land_68 : q_d cX8_land 68 69 (.iadd) 1 := ⟨by decide +kernel, rfl⟩
theorem dX8_land_69 : q_d cX8_land 69 72 (.invokestatic 176) 3 := ⟨by decide +kernel, rfl⟩
theorem dX8_land_72 : q_d cX8_land 72 73 (.laload) 1 := ⟨by decide +kernel, rfl⟩
theorem dX8_land_73 : q_d cX8_land 73 74 (.l2i) 1 := ⟨by decide +kernel, rfl⟩
theorem dX8_land_74 : q_d cX8_land 74 75 (.ireturn) 1 := ⟨by decide +kernel, rfl⟩
theorem dX8_land_75 : q_d cX8_land 75 76 (.iconst 0) 1 := ⟨by decide +kernel, rfl⟩
theorem dX8_land_76 : q_d cX8_land 76 77 (.istore_n 3) 1 := ⟨by decide +kernel, rfl⟩
theorem dX8_land_77 : q_d cX8_land 77 78 (.iload_n 2) 1 := ⟨by decide +kernel, rfl⟩
theorem dX8_land_78 : q_d cX8_land 78 79 (.iconst 4) 1 := ⟨by decide +kernel, rfl⟩
theorem dX8_land_79 : q_j cX8_land 79 82 121 (fun o => .if_icmp .ne o) := ⟨42, by decide +kernel, rfl, rfl⟩
theorem dX8_land_82 : q_d cX8_land 82 83 (.iconst 0) 1 := ⟨by decide +kernel, rfl⟩
theorem dX8_land_83 : q_d cX8_land 83 85 (.istore 4) 2 := ⟨by decide +kernel, rfl⟩
theorem dX8_land_85 : q_d cX8_land 85 87 (.iload 4) 2 := ⟨by decide +kernel, rfl⟩
theorem dX8_land_87 : q_d cX8_land 87 88 (.iconst 5) 1 := ⟨by decide +kernel, rfl⟩
theorem dX8_land_88 : q_j cX8_land 88 91 121 (fun o => .if_icmp .ge o) := ⟨33, by decide +kernel, rfl, rfl⟩
theorem dX8_land_91 : q_d cX8_land 91 92 (.iload_n 3) 1 := ⟨by decide +kernel, rfl⟩
theorem dX8_land_92 : q_d cX8_land 92 93 (.aload_n 0) 1 := ⟨by decide +kernel, rfl⟩
theorem dX8_land_93 : q_d cX8_land 93 96 (.getfield 20) 3 := ⟨by decide +kernel, rfl⟩
theorem dX8_land_96 : q_d cX8_land 96 97 (.iload_n 1) 1 := ⟨by decide +kernel, rfl⟩
theorem dX8_land_97 : q_d cX8_land 97 99 (.iload 4) 2 := ⟨by decide +kernel, rfl⟩
theorem dX8_land_99 : q_d cX8_land 99 102 (.invokestatic 272) 3 := ⟨by decide +kernel, rfl⟩
theorem dX8_land_102 : q_j cX8_land 102 105 112 (fun o => .ifCond .eq o) := ⟨10, by decide +kernel, rfl, rfl⟩
theorem dX8_land_105 : q_d cX8_land 105 106 (.iconst 1) 1 := ⟨by decide +kernel, rfl⟩
theorem dX8_land_106 : q_d cX8_land 106 108 (.iload 4) 2 := ⟨by decide +kernel, rfl⟩
theorem dX8_land_108 : q_d cX8_land 108 109 (.ishl) 1 := ⟨by decide +kernel, rfl⟩
theorem dX8_land_109 : q_j cX8_land 109 112 113 (fun o => .goto o) := ⟨4, by decide +kernel, rfl, rfl⟩
theorem dX8_land_112 : q_d cX8_land 112 113 (.iconst 0) 1 := ⟨by decide +kernel, rfl⟩
theorem dX8_land_113 : q_d cX8_land 113 114 (.ior) 1 := ⟨by decide +kernel, rfl⟩
theorem dX8_land_114 : q_d cX8_land 114 115 (.istore_n 3) 1 := ⟨by decide +kernel, rfl⟩
theorem dX8_land_115 : q_d cX8_land 115 118 (.iinc 4 1) 3 := ⟨by decide +kernel, rfl⟩
theorem dX8_land_118 : q_j cX8_land 118 121 85 (fun o => .goto o) := ⟨(-33), by decide +kernel, rfl, rfl⟩
theorem dX8_land_121 : q_d cX8_land 121 122 (.iload_n 2) 1 := ⟨by decide +kernel, rfl⟩
theorem dX8_land_122 : q_d cX8_land 122 123 (.iconst 5) 1 := ⟨by decide +kernel, rfl⟩
theorem dX8_land_123 : q_j cX8_land 123 126 165 (fun o => .if_icmp .ne o) := ⟨42, by decide +kernel, rfl, rfl⟩
theorem dX8_land_126 : q_d cX8_land 126 127 (.iconst 0) 1 := ⟨by decide +kernel, rfl⟩
theorem dX8_land_127 : q_d cX8_land 127 129 (.istore 4) 2 := ⟨by decide +kernel, rfl⟩
theorem dX8_land_129 : q_d cX8_land 129 131 (.iload 4) 2 := ⟨by decide +kernel, rfl⟩
theorem dX8_land_131 : q_d cX8_land 131 132 (.aload_n 0) 1 := ⟨by decide +kernel, rfl⟩
theorem dX8_land_132 : q_d cX8_land 132 135 (.invokevirtual 337) 3 := ⟨by decide +kernel, rfl⟩
theorem dX8_land_135 : q_j cX8_land 135 138 165 (fun o => .if_icmp .ge o) := ⟨30, by decide +kernel, rfl, rfl⟩
theorem dX8_land_138 : q_d cX8_land 138 139 (.iload_n 3) 1 := ⟨by decide +kernel, rfl⟩
theorem dX8_land_139 : q_d cX8_land 139 140 (.aload_n 0) 1 := ⟨by decide +kernel, rfl⟩
theorem dX8_land_140 : q_d cX8_land 140 142 (.iload 4) 2 := ⟨by decide +kernel, rfl⟩
theorem dX8_land_142 : q_d cX8_land 142 143 (.iload_n 1) 1 := ⟨by decide +kernel, rfl⟩
theorem dX8_land_143 : q_d cX8_land 143 146 (.invokevirtual 371) 3 := ⟨by decide +kernel, rfl⟩
theorem dX8_land_146 : q_j cX8_land 146 149 156 (fun o => .ifCond .eq o) := ⟨10, by decide +kernel, rfl, rfl⟩
theorem dX8_land_149 : q_d cX8_land 149 150 (.iconst 1) 1 := ⟨by decide +kernel, rfl⟩
theorem dX8_land_150 : q_d cX8_land 150 152 (.iload 4) 2 := ⟨by decide +kernel, rfl⟩
theorem dX8_land_152 : q_d cX8_land 152 153 (.ishl) 1 := ⟨by decide +kernel, rfl⟩
theorem dX8_land_153 : q_j cX8_land 153 156 157 (fun o => .goto o) := ⟨4, by decide +kernel, rfl, rfl⟩
theorem dX8_land_156 : q_d cX8_land 156 157 (.iconst 0) 1 := ⟨by decide +kernel, rfl⟩
theorem dX8_land_157 : q_d cX8_land 157 158 (.ior) 1 := ⟨by decide +kernel, rfl⟩
theorem dX8_land_158 : q_d cX8_land 158 159 (.istore_n 3) 1 := ⟨by decide +kernel, rfl⟩
theorem dX8_land_159 : q_d cX8_land 159 162 (.iinc 4 1) 3 := ⟨by decide +kernel, rfl⟩
theorem dX8_land_162 : q_j cX8_land 162 165 129 (fun o => .goto o) := ⟨(-33), by decide +kernel, rfl, rfl⟩
theorem dX8_land_165 : q_d cX8_land 165 166 (.iload_n 3) 1 := ⟨by decide +kernel, rfl⟩
theorem dX8_land_166 : q_d cX8_land 166 167 (.ireturn) 1 := ⟨by decide +kernel, rfl⟩
theorem dX8_purse_0 : q_d cX8_purse 0 1 (.aload_n 0) 1 := ⟨by decide +kernel, rfl⟩
theorem dX8_purse_1 : q_d cX8_purse 1 2 (.iconst 0) 1 := ⟨by decide +kernel, rfl⟩
theorem dX8_purse_2 : q_d cX8_purse 2 5 (.putfield 52) 3 := ⟨by decide +kernel, rfl⟩
theorem dX8_purse_5 : q_d cX8_purse 5 6 (.aload_n 0) 1 := ⟨by decide +kernel, rfl⟩
theorem dX8_purse_6 : q_d cX8_purse 6 7 (.aload_n 0) 1 := ⟨by decide +kernel, rfl⟩
theorem dX8_purse_7 : q_d cX8_purse 7 8 (.iload_n 1) 1 := ⟨by decide +kernel, rfl⟩
theorem dX8_purse_8 : q_d cX8_purse 8 11 (.invokevirtual 343) 3 := ⟨by decide +kernel, rfl⟩
theorem dX8_purse_11 : q_j cX8_purse 11 14 18 (fun o => .ifCond .ne o) := ⟨7, by decide +kernel, rfl, rfl⟩
theorem dX8_purse_14 : q_d cX8_purse 14 15 (.iconst 1) 1 := ⟨by decide +kernel, rfl⟩
theorem dX8_purse_15 : q_j cX8_purse 15 18 19 (fun o => .goto o) := ⟨4, by decide +kernel, rfl, rfl⟩
theorem dX8_purse_18 : q_d cX8_purse 18 19 (.iconst 0) 1 := ⟨by decide +kernel, rfl⟩
theorem dX8_purse_19 : q_d cX8_purse 19 20 (.iconst 1) 1 := ⟨by decide +kernel, rfl⟩
theorem dX8_purse_20 : q_d cX8_purse 20 21 (.iconst 0) 1 := ⟨by decide +kernel, rfl⟩
theorem dX8_purse_21 : q_d cX8_purse 21 24 (.invokevirtual 251) 3 := ⟨by decide +kernel, rfl⟩
theorem dX8_purse_24 : q_j cX8_purse 24 27 53 (fun o => .ifCond .ne o) := ⟨29, by decide +kernel, rfl, rfl⟩
theorem dX8_purse_27 : q_d cX8_purse 27 28 (.aload_n 0) 1 := ⟨by decide +kernel, rfl⟩
theorem dX8_purse_28 : q_d cX8_purse 28 29 (.iload_n 2) 1 := ⟨by decide +kernel, rfl⟩
theorem dX8_purse_29 : q_d cX8_purse 29 30 (.i2l) 1 := ⟨by decide +kernel, rfl⟩
theorem dX8_purse_30 : q_d cX8_purse 30 31 (.lconst 0) 1 := ⟨by decide +kernel, rfl⟩
theorem dX8_purse_31 : q_d cX8_purse 31 34 (.ldc2_w 50) 3 := ⟨by decide +kernel, rfl⟩
theorem dX8_purse_34 : q_d cX8_purse 34 37 (.invokestatic 123) 3 := ⟨by decide +kernel, rfl⟩
theorem dX8_purse_37 : q_j cX8_purse 37 40 44 (fun o => .ifCond .ne o) := ⟨7, by decide +kernel, rfl, rfl⟩
theorem dX8_purse_40 : q_d cX8_purse 40 41 (.iconst 1) 1 := ⟨by decide +kernel, rfl⟩
theorem dX8_purse_41 : q_j cX8_purse 41 44 45 (fun o => .goto o) := ⟨4, by decide +kernel, rfl, rfl⟩
theorem dX8_purse_44 : q_d cX8_purse 44 45 (.iconst 0) 1 := ⟨by decide +kernel, rfl⟩
theorem dX8_purse_45 : q_d cX8_purse 45 46 (.iconst 2) 1 := ⟨by decide +kernel, rfl⟩
theorem dX8_purse_46 : q_d cX8_purse 46 47 (.iconst 1) 1 := ⟨by decide +kernel, rfl⟩
theorem dX8_purse_47 : q_d cX8_purse 47 50 (.invokevirtual 251) 3 := ⟨by decide +kernel, rfl⟩
theorem dX8_purse_50 : q_j cX8_purse 50 53 55 (fun o => .ifCond .eq o) := ⟨5, by decide +kernel, rfl, rfl⟩
theorem dX8_purse_53 : q_d cX8_purse 53 54 (.lconst 0) 1 := ⟨by decide +kernel, rfl⟩
theorem dX8_purse_54 : q_d cX8_purse 54 55 (.lreturn) 1 := ⟨by decide +kernel, rfl⟩
theorem dX8_purse_55 : q_d cX8_purse 55 56 (.lconst 0) 1 := ⟨by decide +kernel, rfl⟩
theorem dX8_purse_56 : q_d cX8_purse 56 57 (.lstore_n 3) 1 := ⟨by decide +kernel, rfl⟩
theorem dX8_purse_57 : q_d cX8_purse 57 58 (.iload_n 2) 1 := ⟨by decide +kernel, rfl⟩
theorem dX8_purse_58 : decode cX8_purse 58 = .ok (.tableswitch 153 0 2 #[26, 73, 85], 26) := by decide +kernel
theorem dX8_purse_84 : q_d cX8_purse 84 85 (.iconst 0) 1 := ⟨by decide +kernel, rfl⟩
theorem dX8_purse_85 : q_d cX8_purse 85 87 (.istore 5) 2 := ⟨by decide +kernel, rfl⟩
theorem dX8_purse_87 : q_d cX8_purse 87 89 (.iload 5) 2 := ⟨by decide +kernel, rfl⟩
theorem dX8_purse_89 : q_d cX8_purse 89 90 (.aload_n 0) 1 := ⟨by decide +kernel, rfl⟩
theorem dX8_purse_90 : q_d cX8_purse 90 93 (.invokevirtual 337) 3 := ⟨by decide +kernel, rfl⟩
theorem dX8_purse_93 : q_j cX8_purse 93 96 129 (fun o => .if_icmp .ge o) := ⟨36, by decide +kernel, rfl, rfl⟩
theorem dX8_purse_96 : q_d cX8_purse 96 97 (.lload_n 3) 1 := ⟨by decide +kernel, rfl⟩
theorem dX8_purse_97 : q_d cX8_purse 97 98 (.aload_n 0) 1 := ⟨by decide +kernel, rfl⟩
theorem dX8_purse_98 : q_d cX8_purse 98 100 (.iload 5) 2 := ⟨by decide +kernel, rfl⟩
theorem dX8_purse_100 : q_d cX8_purse 100 101 (.iload_n 1) 1 := ⟨by decide +kernel, rfl⟩
theorem dX8_purse_101 : q_d cX8_purse 101 104 (.invokevirtual 371) 3 := ⟨by decide +kernel, rfl⟩
theorem dX8_purse_104 : q_j cX8_purse 104 107 120 (fun o => .ifCond .eq o) := ⟨16, by decide +kernel, rfl, rfl⟩
theorem dX8_purse_107 : q_d cX8_purse 107 108 (.aload_n 0) 1 := ⟨by decide +kernel, rfl⟩
theorem dX8_purse_108 : q_d cX8_purse 108 111 (.getfield 20) 3 := ⟨by decide +kernel, rfl⟩
theorem dX8_purse_111 : q_d cX8_purse 111 113 (.iload 5) 2 := ⟨by decide +kernel, rfl⟩
theorem dX8_purse_113 : q_d cX8_purse 113 114 (.iconst 3) 1 := ⟨by decide +kernel, rfl⟩
theorem dX8_purse_114 : q_d cX8_purse 114 117 (.invokestatic 268) 3 := ⟨by decide +kernel, rfl⟩
theorem dX8_purse_117 : q_j cX8_purse 117 120 121 (fun o => .goto o) := ⟨4, by decide +kernel, rfl, rfl⟩
theorem dX8_purse_120 : q_d cX8_purse 120 121 (.lconst 0) 1 := ⟨by decide +kernel, rfl⟩
theorem dX8_purse_121 : q_d cX8_purse 121 122 (.ladd) 1 := ⟨by decide +kernel, rfl⟩
theorem dX8_purse_122 : q_d cX8_purse 122 123 (.lstore_n 3) 1 := ⟨by decide +kernel, rfl⟩
theorem dX8_purse_123 : q_d cX8_purse 123 126 (.iinc 5 1) 3 := ⟨by decide +kernel, rfl⟩
theorem dX8_purse_126 : q_j cX8_purse 126 129 87 (fun o => .goto o) := ⟨(-39), by decide +kernel, rfl, rfl⟩
theorem dX8_purse_129 : q_d cX8_purse 129 130 (.lload_n 3) 1 := ⟨by decide +kernel, rfl⟩
theorem dX8_purse_130 : q_d cX8_purse 130 131 (.lreturn) 1 := ⟨by decide +kernel, rfl⟩
theorem dX8_purse_131 : q_d cX8_purse 131 132 (.aload_n 0) 1 := ⟨by decide +kernel, rfl⟩
theorem dX8_purse_132 : q_d cX8_purse 132 135 (.getfield 20) 3 := ⟨by decide +kernel, rfl⟩
theorem dX8_purse_135 : q_d cX8_purse 135 136 (.iload_n 1) 1 := ⟨by decide +kernel, rfl⟩
theorem dX8_purse_136 : q_d cX8_purse 136 138 (.bipush 11) 2 := ⟨by decide +kernel, rfl⟩
theorem dX8_purse_138 : q_d cX8_purse 138 141 (.invokestatic 176) 3 := ⟨by decide +kernel, rfl⟩
theorem dX8_purse_141 : q_d cX8_purse 141 142 (.laload) 1 := ⟨by decide +kernel, rfl⟩
theorem dX8_purse_142 : q_d cX8_purse 142 143 (.lreturn) 1 := ⟨by decide +kernel, rfl⟩
theorem dX8_purse_143 : q_d cX8_purse 143 144 (.iconst 0) 1 := ⟨by decide +kernel, rfl⟩
theorem dX8_purse_144 : q_d cX8_purse 144 146 (.istore 5) 2 := ⟨by decide +kernel, rfl⟩
theorem dX8_purse_146 : q_d cX8_purse 146 148 (.iload 5) 2 := ⟨by decide +kernel, rfl⟩
theorem dX8_purse_148 : q_d cX8_purse 148 149 (.i2l) 1 := ⟨by decide +kernel, rfl⟩
theorem dX8_purse_149 : q_d cX8_purse 149 150 (.aload_n 0) 1 := ⟨by decide +kernel, rfl⟩
theorem dX8_purse_150 : q_d cX8_purse 150 153 (.getfield 20) 3 := ⟨by decide +kernel, rfl⟩
theorem dX8_purse_153 : q_d cX8_purse 153 155 (.bipush 6) 2 := ⟨by decide +kernel, rfl⟩
theorem dX8_purse_155 : q_d cX8_purse 155 156 (.laload) 1 := ⟨by decide +kernel, rfl⟩
theorem dX8_purse_156 : q_d cX8_purse 156 157 (.lcmp) 1 := ⟨by decide +kernel, rfl⟩
theorem dX8_purse_157 : q_j cX8_purse 157 160 209 (fun o => .ifCond .ge o) := ⟨52, by decide +kernel, rfl, rfl⟩
theorem dX8_purse_160 : q_d cX8_purse 160 161 (.lload_n 3) 1 := ⟨by decide +kernel, rfl⟩
theorem dX8_purse_161 : q_d cX8_purse 161 162 (.aload_n 0) 1 := ⟨by decide +kernel, rfl⟩
theorem dX8_purse_162 : q_d cX8_purse 162 165 (.getfield 20) 3 := ⟨by decide +kernel, rfl⟩
theorem dX8_purse_165 : q_d cX8_purse 165 168 (.sipush 1183) 3 := ⟨by decide +kernel, rfl⟩
theorem dX8_purse_168 : q_d cX8_purse 168 169 (.iconst 5) 1 := ⟨by decide +kernel, rfl⟩
theorem dX8_purse_169 : q_d cX8_purse 169 171 (.iload 5) 2 := ⟨by decide +kernel, rfl⟩
theorem dX8_purse_171 : q_d cX8_purse 171 172 (.imul) 1 := ⟨by decide +kernel, rfl⟩
theorem dX8_purse_172 : q_d cX8_purse 172 173 (.iadd) 1 := ⟨by decide +kernel, rfl⟩
theorem dX8_purse_173 : q_d cX8_purse 173 174 (.iconst 2) 1 := ⟨by decide +kernel, rfl⟩
theorem dX8_purse_174 : q_d cX8_purse 174 175 (.iadd) 1 := ⟨by decide +kernel, rfl⟩
theorem dX8_purse_175 : q_d cX8_purse 175 176 (.laload) 1 := ⟨by decide +kernel, rfl⟩
theorem dX8_purse_176 : q_d cX8_purse 176 177 (.iload_n 1) 1 := ⟨by decide +kernel, rfl⟩
theorem dX8_purse_177 : q_d cX8_purse 177 178 (.i2l) 1 := ⟨by decide +kernel, rfl⟩
theorem dX8_purse_178 : q_d cX8_purse 178 179 (.lcmp) 1 := ⟨by decide +kernel, rfl⟩
theorem dX8_purse_179 : q_j cX8_purse 179 182 200 (fun o => .ifCond .ne o) := ⟨21, by decide +kernel, rfl, rfl⟩
theorem dX8_purse_182 : q_d cX8_purse 182 183 (.aload_n 0) 1 := ⟨by decide +kernel, rfl⟩
theorem dX8_purse_183 : q_d cX8_purse 183 186 (.getfield 20) 3 := ⟨by decide +kernel, rfl⟩
theorem dX8_purse_186 : q_d cX8_purse 186 189 (.sipush 1183) 3 := ⟨by decide +kernel, rfl⟩
theorem dX8_purse_189 : q_d cX8_purse 189 190 (.iconst 5) 1 := ⟨by decide +kernel, rfl⟩
theorem dX8_purse_190 : q_d cX8_purse 190 192 (.iload 5) 2 := ⟨by decide +kernel, rfl⟩
theorem dX8_purse_192 : q_d cX8_purse 192 193 (.imul) 1 := ⟨by decide +kernel, rfl⟩
theorem dX8_purse_193 : q_d cX8_purse 193 194 (.iadd) 1 := ⟨by decide +kernel, rfl⟩
theorem dX8_purse_194 : q_d cX8_purse 194 195 (.iconst 3) 1 := ⟨by decide +kernel, rfl⟩
theorem dX8_purse_195 : q_d cX8_purse 195 196 (.iadd) 1 := ⟨by decide +kernel, rfl⟩
theorem dX8_purse_196 : q_d cX8_purse 196 197 (.laload) 1 := ⟨by decide +kernel, rfl⟩
theorem dX8_purse_197 : q_j cX8_purse 197 200 201 (fun o => .goto o) := ⟨4, by decide +kernel, rfl, rfl⟩
theorem dX8_purse_200 : q_d cX8_purse 200 201 (.lconst 0) 1 := ⟨by decide +kernel, rfl⟩
theorem dX8_purse_201 : q_d cX8_purse 201 202 (.ladd) 1 := ⟨by decide +kernel, rfl⟩
theorem dX8_purse_202 : q_d cX8_purse 202 203 (.lstore_n 3) 1 := ⟨by decide +kernel, rfl⟩
theorem dX8_purse_203 : q_d cX8_purse 203 206 (.iinc 5 1) 3 := ⟨by decide +kernel, rfl⟩
theorem dX8_purse_206 : q_j cX8_purse 206 209 146 (fun o => .goto o) := ⟨(-60), by decide +kernel, rfl, rfl⟩
theorem dX8_purse_209 : q_d cX8_purse 209 210 (.lload_n 3) 1 := ⟨by decide +kernel, rfl⟩
theorem dX8_purse_210 : q_d cX8_purse 210 211 (.lreturn) 1 := ⟨by decide +kernel, rfl⟩
theorem dX8_purse_211 : q_d cX8_purse 211 212 (.aload_n 0) 1 := ⟨by decide +kernel, rfl⟩
theorem dX8_purse_212 : q_d cX8_purse 212 215 (.getfield 20) 3 := ⟨by decide +kernel, rfl⟩
theorem dX8_purse_215 : q_d cX8_purse 215 216 (.iload_n 1) 1 := ⟨by decide +kernel, rfl⟩
theorem dX8_purse_216 : q_d cX8_purse 216 218 (.bipush 12) 2 := ⟨by decide +kernel, rfl⟩
theorem dX8_purse_218 : q_d cX8_purse 218 221 (.invokestatic 176) 3 := ⟨by decide +kernel, rfl⟩
theorem dX8_purse_221 : q_d cX8_purse 221 222 (.laload) 1 := ⟨by decide +kernel, rfl⟩
theorem dX8_purse_222 : q_d cX8_purse 222 223 (.lreturn) 1 := ⟨by decide +kernel, rfl⟩
theorem dX8_letter_0 : q_d cX8_letter 0 1 (.aload_n 0) 1 := ⟨by decide +kernel, rfl⟩
theorem dX8_letter_1 : q_d cX8_letter 1 2 (.iconst 0) 1 := ⟨by decide +kernel, rfl⟩
theorem dX8_letter_2 : q_d cX8_letter 2 5 (.putfield 52) 3 := ⟨by decide +kernel, rfl⟩
theorem dX8_letter_5 : q_d cX8_letter 5 6 (.aload_n 0) 1 := ⟨by decide +kernel, rfl⟩
theorem dX8_letter_6 : q_d cX8_letter 6 7 (.aload_n 0) 1 := ⟨by decide +kernel, rfl⟩
theorem dX8_letter_7 : q_d cX8_letter 7 8 (.iload_n 1) 1 := ⟨by decide +kernel, rfl⟩
theorem dX8_letter_8 : q_d cX8_letter 8 11 (.invokevirtual 343) 3 := ⟨by decide +kernel, rfl⟩
theorem dX8_letter_11 : q_j cX8_letter 11 14 48 (fun o => .ifCond .eq o) := ⟨37, by decide +kernel, rfl, rfl⟩
theorem dX8_letter_14 : q_d cX8_letter 14 15 (.iload_n 2) 1 := ⟨by decide +kernel, rfl⟩
theorem dX8_letter_15 : q_d cX8_letter 15 16 (.i2l) 1 := ⟨by decide +kernel, rfl⟩
theorem dX8_letter_16 : q_d cX8_letter 16 17 (.lconst 0) 1 := ⟨by decide +kernel, rfl⟩
theorem dX8_letter_17 : q_d cX8_letter 17 18 (.aload_n 0) 1 := ⟨by decide +kernel, rfl⟩
theorem dX8_letter_18 : q_d cX8_letter 18 21 (.getfield 20) 3 := ⟨by decide +kernel, rfl⟩
theorem dX8_letter_21 : q_d cX8_letter 21 22 (.aload_n 0) 1 := ⟨by decide +kernel, rfl⟩
theorem dX8_letter_22 : q_d cX8_letter 22 23 (.iload_n 1) 1 := ⟨by decide +kernel, rfl⟩
theorem dX8_letter_23 : q_d cX8_letter 23 26 (.invokevirtual 343) 3 := ⟨by decide +kernel, rfl⟩
theorem dX8_letter_26 : q_j cX8_letter 26 29 33 (fun o => .ifCond .eq o) := ⟨7, by decide +kernel, rfl, rfl⟩
theorem dX8_letter_29 : q_d cX8_letter 29 30 (.iload_n 1) 1 := ⟨by decide +kernel, rfl⟩
theorem dX8_letter_30 : q_j cX8_letter 30 33 34 (fun o => .goto o) := ⟨4, by decide +kernel, rfl, rfl⟩
theorem dX8_letter_33 : q_d cX8_letter 33 34 (.iconst 0) 1 := ⟨by decide +kernel, rfl⟩
theorem dX8_letter_34 : q_d cX8_letter 34 36 (.bipush 6) 2 := ⟨by decide +kernel, rfl⟩
theorem dX8_letter_36 : q_d cX8_letter 36 39 (.invokestatic 176) 3 := ⟨by decide +kernel, rfl⟩
theorem dX8_letter_39 : q_d cX8_letter 39 40 (.laload) 1 := ⟨by decide +kernel, rfl⟩
theorem dX8_letter_40 : q_d cX8_letter 40 41 (.lconst 1) 1 := ⟨by decide +kernel, rfl⟩
theorem dX8_letter_41 : q_d cX8_letter 41 42 (.lsub) 1 := ⟨by decide +kernel, rfl⟩
theorem dX8_letter_42 : q_d cX8_letter 42 45 (.invokestatic 123) 3 := ⟨by decide +kernel, rfl⟩
theorem dX8_letter_45 : q_j cX8_letter 45 48 52 (fun o => .ifCond .ne o) := ⟨7, by decide +kernel, rfl, rfl⟩
theorem dX8_letter_48 : q_d cX8_letter 48 49 (.iconst 1) 1 := ⟨by decide +kernel, rfl⟩
theorem dX8_letter_49 : q_j cX8_letter 49 52 53 (fun o => .goto o) := ⟨4, by decide +kernel, rfl, rfl⟩
theorem dX8_letter_52 : q_d cX8_letter 52 53 (.iconst 0) 1 := ⟨by decide +kernel, rfl⟩
theorem dX8_letter_53 : q_d cX8_letter 53 54 (.iconst 1) 1 := ⟨by decide +kernel, rfl⟩
theorem dX8_letter_54 : q_d cX8_letter 54 55 (.iconst 0) 1 := ⟨by decide +kernel, rfl⟩
theorem dX8_letter_55 : q_d cX8_letter 55 58 (.invokevirtual 251) 3 := ⟨by decide +kernel, rfl⟩
theorem dX8_letter_58 : q_j cX8_letter 58 61 63 (fun o => .ifCond .eq o) := ⟨5, by decide +kernel, rfl, rfl⟩
theorem dX8_letter_61 : q_d cX8_letter 61 62 (.iconst 0) 1 := ⟨by decide +kernel, rfl⟩
theorem dX8_letter_62 : q_d cX8_letter 62 63 (.ireturn) 1 := ⟨by decide +kernel, rfl⟩
theorem dX8_letter_63 : q_d cX8_letter 63 64 (.aload_n 0) 1 := ⟨by decide +kernel, rfl⟩
theorem dX8_letter_64 : q_d cX8_letter 64 67 (.getfield 20) 3 := ⟨by decide +kernel, rfl⟩
theorem dX8_letter_67 : q_d cX8_letter 67 68 (.iload_n 1) 1 := ⟨by decide +kernel, rfl⟩
theorem dX8_letter_68 : q_d cX8_letter 68 69 (.iload_n 2) 1 := ⟨by decide +kernel, rfl⟩
theorem dX8_letter_69 : q_d cX8_letter 69 72 (.invokestatic 176) 3 := ⟨by decide +kernel, rfl⟩
theorem dX8_letter_72 : q_d cX8_letter 72 73 (.laload) 1 := ⟨by decide +kernel, rfl⟩
theorem dX8_letter_73 : q_d cX8_letter 73 74 (.l2i) 1 := ⟨by decide +kernel, rfl⟩
theorem dX8_letter_74 : q_d cX8_letter 74 75 (.ireturn) 1 := ⟨by decide +kernel, rfl⟩
theorem dX8_pays_0 : q_d cX8_pays 0 1 (.aload_n 0) 1 := ⟨by decide +kernel, rfl⟩
theorem dX8_pays_1 : q_d cX8_pays 1 2 (.iconst 0) 1 := ⟨by decide +kernel, rfl⟩
theorem dX8_pays_2 : q_d cX8_pays 2 5 (.putfield 52) 3 := ⟨by decide +kernel, rfl⟩
theorem dX8_pays_5 : q_d cX8_pays 5 6 (.aload_n 0) 1 := ⟨by decide +kernel, rfl⟩
theorem dX8_pays_6 : q_d cX8_pays 6 7 (.iload_n 1) 1 := ⟨by decide +kernel, rfl⟩
theorem dX8_pays_7 : q_d cX8_pays 7 8 (.i2l) 1 := ⟨by decide +kernel, rfl⟩
theorem dX8_pays_8 : q_d cX8_pays 8 9 (.lconst 0) 1 := ⟨by decide +kernel, rfl⟩
theorem dX8_pays_9 : q_d cX8_pays 9 12 (.ldc2_w 346) 3 := ⟨by decide +kernel, rfl⟩
theorem dX8_pays_12 : q_d cX8_pays 12 15 (.invokestatic 123) 3 := ⟨by decide +kernel, rfl⟩
theorem dX8_pays_15 : q_j cX8_pays 15 18 22 (fun o => .ifCond .ne o) := ⟨7, by decide +kernel, rfl, rfl⟩
theorem dX8_pays_18 : q_d cX8_pays 18 19 (.iconst 1) 1 := ⟨by decide +kernel, rfl⟩
theorem dX8_pays_19 : q_j cX8_pays 19 22 23 (fun o => .goto o) := ⟨4, by decide +kernel, rfl, rfl⟩
theorem dX8_pays_22 : q_d cX8_pays 22 23 (.iconst 0) 1 := ⟨by decide +kernel, rfl⟩
theorem dX8_pays_23 : q_d cX8_pays 23 24 (.iconst 1) 1 := ⟨by decide +kernel, rfl⟩
theorem dX8_pays_24 : q_d cX8_pays 24 25 (.iconst 1) 1 := ⟨by decide +kernel, rfl⟩
theorem dX8_pays_25 : q_d cX8_pays 25 28 (.invokevirtual 251) 3 := ⟨by decide +kernel, rfl⟩
theorem dX8_pays_28 : q_j cX8_pays 28 31 35 (fun o => .ifCond .eq o) := ⟨7, by decide +kernel, rfl, rfl⟩
theorem dX8_pays_31 : q_d cX8_pays 31 32 (.iconst 0) 1 := ⟨by decide +kernel, rfl⟩
theorem dX8_pays_32 : q_j cX8_pays 32 35 45 (fun o => .goto o) := ⟨13, by decide +kernel, rfl, rfl⟩
theorem dX8_pays_35 : q_d cX8_pays 35 36 (.aload_n 0) 1 := ⟨by decide +kernel, rfl⟩
theorem dX8_pays_36 : q_d cX8_pays 36 39 (.getfield 20) 3 := ⟨by decide +kernel, rfl⟩
theorem dX8_pays_39 : q_d cX8_pays 39 41 (.bipush 12) 2 := ⟨by decide +kernel, rfl⟩
theorem dX8_pays_41 : q_d cX8_pays 41 42 (.iload_n 1) 1 := ⟨by decide +kernel, rfl⟩
theorem dX8_pays_42 : q_d cX8_pays 42 43 (.iadd) 1 := ⟨by decide +kernel, rfl⟩
theorem dX8_pays_43 : q_d cX8_pays 43 44 (.laload) 1 := ⟨by decide +kernel, rfl⟩
theorem dX8_pays_44 : q_d cX8_pays 44 45 (.l2i) 1 := ⟨by decide +kernel, rfl⟩
theorem dX8_pays_45 : q_d cX8_pays 45 46 (.ireturn) 1 := ⟨by decide +kernel, rfl⟩
theorem dX8_account_0 : q_d cX8_account 0 1 (.aload_n 0) 1 := ⟨by decide +kernel, rfl⟩
theorem dX8_account_1 : q_d cX8_account 1 2 (.iconst 0) 1 := ⟨by decide +kernel, rfl⟩
theorem dX8_account_2 : q_d cX8_account 2 5 (.putfield 52) 3 := ⟨by decide +kernel, rfl⟩
theorem dX8_account_5 : q_d cX8_account 5 6 (.aload_n 0) 1 := ⟨by decide +kernel, rfl⟩
theorem dX8_account_6 : q_d cX8_account 6 7 (.aload_n 0) 1 := ⟨by decide +kernel, rfl⟩
theorem dX8_account_7 : q_d cX8_account 7 8 (.iload_n 1) 1 := ⟨by decide +kernel, rfl⟩
theorem dX8_account_8 : q_d cX8_account 8 11 (.invokevirtual 340) 3 := ⟨by decide +kernel, rfl⟩
theorem dX8_account_11 : q_j cX8_account 11 14 18 (fun o => .ifCond .ne o) := ⟨7, by decide +kernel, rfl, rfl⟩
theorem dX8_account_14 : q_d cX8_account 14 15 (.iconst 1) 1 := ⟨by decide +kernel, rfl⟩
theorem dX8_account_15 : q_j cX8_account 15 18 19 (fun o => .goto o) := ⟨4, by decide +kernel, rfl, rfl⟩
theorem dX8_account_18 : q_d cX8_account 18 19 (.iconst 0) 1 := ⟨by decide +kernel, rfl⟩
theorem dX8_account_19 : q_d cX8_account 19 20 (.iconst 1) 1 := ⟨by decide +kernel, rfl⟩
theorem dX8_account_20 : q_d cX8_account 20 21 (.iconst 0) 1 := ⟨by decide +kernel, rfl⟩
theorem dX8_account_21 : q_d cX8_account 21 24 (.invokevirtual 251) 3 := ⟨by decide +kernel, rfl⟩
theorem dX8_account_24 : q_j cX8_account 24 27 53 (fun o => .ifCond .ne o) := ⟨29, by decide +kernel, rfl, rfl⟩
theorem dX8_account_27 : q_d cX8_account 27 28 (.aload_n 0) 1 := ⟨by decide +kernel, rfl⟩
theorem dX8_account_28 : q_d cX8_account 28 29 (.iload_n 2) 1 := ⟨by decide +kernel, rfl⟩
theorem dX8_account_29 : q_d cX8_account 29 30 (.i2l) 1 := ⟨by decide +kernel, rfl⟩
theorem dX8_account_30 : q_d cX8_account 30 31 (.lconst 0) 1 := ⟨by decide +kernel, rfl⟩
theorem dX8_account_31 : q_d cX8_account 31 34 (.ldc2_w 115) 3 := ⟨by decide +kernel, rfl⟩
theorem dX8_account_34 : q_d cX8_account 34 37 (.invokestatic 123) 3 := ⟨by decide +kernel, rfl⟩
theorem dX8_account_37 : q_j cX8_account 37 40 44 (fun o => .ifCond .ne o) := ⟨7, by decide +kernel, rfl, rfl⟩
theorem dX8_account_40 : q_d cX8_account 40 41 (.iconst 1) 1 := ⟨by decide +kernel, rfl⟩
theorem dX8_account_41 : q_j cX8_account 41 44 45 (fun o => .goto o) := ⟨4, by decide +kernel, rfl, rfl⟩
theorem dX8_account_44 : q_d cX8_account 44 45 (.iconst 0) 1 := ⟨by decide +kernel, rfl⟩
theorem dX8_account_45 : q_d cX8_account 45 46 (.iconst 2) 1 := ⟨by decide +kernel, rfl⟩
theorem dX8_account_46 : q_d cX8_account 46 47 (.iconst 1) 1 := ⟨by decide +kernel, rfl⟩
theorem dX8_account_47 : q_d cX8_account 47 50 (.invokevirtual 251) 3 := ⟨by decide +kernel, rfl⟩
theorem dX8_account_50 : q_j cX8_account 50 53 55 (fun o => .ifCond .eq o) := ⟨5, by decide +kernel, rfl, rfl⟩
theorem dX8_account_53 : q_d cX8_account 53 54 (.iconst 0) 1 := ⟨by decide +kernel, rfl⟩
theorem dX8_account_54 : q_d cX8_account 54 55 (.ireturn) 1 := ⟨by decide +kernel, rfl⟩
theorem dX8_account_55 : q_d cX8_account 55 56 (.iload_n 2) 1 := ⟨by decide +kernel, rfl⟩
theorem dX8_account_56 : q_d cX8_account 56 58 (.bipush 8) 2 := ⟨by decide +kernel, rfl⟩
theorem dX8_account_58 : q_j cX8_account 58 61 115 (fun o => .if_icmp .ne o) := ⟨57, by decide +kernel, rfl, rfl⟩
theorem dX8_account_61 : q_d cX8_account 61 62 (.aload_n 0) 1 := ⟨by decide +kernel, rfl⟩
theorem dX8_account_62 : q_d cX8_account 62 65 (.getfield 20) 3 := ⟨by decide +kernel, rfl⟩
theorem dX8_account_65 : q_d cX8_account 65 66 (.iload_n 1) 1 := ⟨by decide +kernel, rfl⟩
theorem dX8_account_66 : q_d cX8_account 66 69 (.invokestatic 304) 3 := ⟨by decide +kernel, rfl⟩
theorem dX8_account_69 : q_j cX8_account 69 72 83 (fun o => .ifCond .eq o) := ⟨14, by decide +kernel, rfl, rfl⟩
theorem dX8_account_72 : q_d cX8_account 72 73 (.aload_n 0) 1 := ⟨by decide +kernel, rfl⟩
theorem dX8_account_73 : q_d cX8_account 73 76 (.getfield 20) 3 := ⟨by decide +kernel, rfl⟩
theorem dX8_account_76 : q_d cX8_account 76 77 (.iload_n 1) 1 := ⟨by decide +kernel, rfl⟩
theorem dX8_account_77 : q_d cX8_account 77 80 (.invokestatic 312) 3 := ⟨by decide +kernel, rfl⟩
theorem dX8_account_80 : q_j cX8_account 80 83 114 (fun o => .goto o) := ⟨34, by decide +kernel, rfl, rfl⟩
theorem dX8_account_83 : q_d cX8_account 83 84 (.aload_n 0) 1 := ⟨by decide +kernel, rfl⟩
theorem dX8_account_84 : q_d cX8_account 84 87 (.getfield 20) 3 := ⟨by decide +kernel, rfl⟩
theorem dX8_account_87 : q_d cX8_account 87 88 (.iload_n 1) 1 := ⟨by decide +kernel, rfl⟩
theorem dX8_account_88 : q_d cX8_account 88 89 (.iconst 4) 1 := ⟨by decide +kernel, rfl⟩
theorem dX8_account_89 : q_d cX8_account 89 92 (.invokestatic 268) 3 := ⟨by decide +kernel, rfl⟩
theorem dX8_account_92 : q_d cX8_account 92 95 (.ldc2_w 302) 3 := ⟨by decide +kernel, rfl⟩
theorem dX8_account_95 : q_d cX8_account 95 96 (.lcmp) 1 := ⟨by decide +kernel, rfl⟩
theorem dX8_account_96 : q_j cX8_account 96 99 113 (fun o => .ifCond .ne o) := ⟨17, by decide +kernel, rfl, rfl⟩
theorem dX8_account_99 : q_d cX8_account 99 100 (.aload_n 0) 1 := ⟨by decide +kernel, rfl⟩
theorem dX8_account_100 : q_d cX8_account 100 103 (.getfield 20) 3 := ⟨by decide +kernel, rfl⟩
theorem dX8_account_103 : q_d cX8_account 103 104 (.iload_n 1) 1 := ⟨by decide +kernel, rfl⟩
theorem dX8_account_104 : q_d cX8_account 104 106 (.bipush 8) 2 := ⟨by decide +kernel, rfl⟩
theorem dX8_account_106 : q_d cX8_account 106 109 (.invokestatic 268) 3 := ⟨by decide +kernel, rfl⟩
theorem dX8_account_109 : q_d cX8_account 109 110 (.l2i) 1 := ⟨by decide +kernel, rfl⟩
theorem dX8_account_110 : q_j cX8_account 110 113 114 (fun o => .goto o) := ⟨4, by decide +kernel, rfl, rfl⟩
theorem dX8_account_113 : q_d cX8_account 113 114 (.iconst (-1)) 1 := ⟨by decide +kernel, rfl⟩
theorem dX8_account_114 : q_d cX8_account 114 115 (.ireturn) 1 := ⟨by decide +kernel, rfl⟩
theorem dX8_account_115 : q_d cX8_account 115 116 (.aload_n 0) 1 := ⟨by decide +kernel, rfl⟩
theorem dX8_account_116 : q_d cX8_account 116 119 (.getfield 20) 3 := ⟨by decide +kernel, rfl⟩
theorem dX8_account_119 : q_d cX8_account 119 120 (.iload_n 1) 1 := ⟨by decide +kernel, rfl⟩
theorem dX8_account_120 : q_d cX8_account 120 121 (.iload_n 2) 1 := ⟨by decide +kernel, rfl⟩
theorem dX8_account_121 : q_d cX8_account 121 124 (.invokestatic 268) 3 := ⟨by decide +kernel, rfl⟩
theorem dX8_account_124 : q_d cX8_account 124 125 (.l2i) 1 := ⟨by decide +kernel, rfl⟩
theorem dX8_account_125 : q_d cX8_account 125 126 (.ireturn) 1 := ⟨by decide +kernel, rfl⟩
theorem dX8_sleep_0 : q_d cX8_sleep 0 1 (.aload_n 0) 1 := ⟨by decide +kernel, rfl⟩
theorem dX8_sleep_1 : q_d cX8_sleep 1 2 (.iconst 0) 1 := ⟨by decide +kernel, rfl⟩
theorem dX8_sleep_2 : q_d cX8_sleep 2 5 (.putfield 52) 3 := ⟨by decide +kernel, rfl⟩
theorem dX8_sleep_5 : q_d cX8_sleep 5 6 (.aload_n 0) 1 := ⟨by decide +kernel, rfl⟩
theorem dX8_sleep_6 : q_d cX8_sleep 6 7 (.aload_n 0) 1 := ⟨by decide +kernel, rfl⟩
theorem dX8_sleep_7 : q_d cX8_sleep 7 8 (.iload_n 1) 1 := ⟨by decide +kernel, rfl⟩
theorem dX8_sleep_8 : q_d cX8_sleep 8 11 (.invokevirtual 340) 3 := ⟨by decide +kernel, rfl⟩
theorem dX8_sleep_11 : q_j cX8_sleep 11 14 18 (fun o => .ifCond .ne o) := ⟨7, by decide +kernel, rfl, rfl⟩
theorem dX8_sleep_14 : q_d cX8_sleep 14 15 (.iconst 1) 1 := ⟨by decide +kernel, rfl⟩
theorem dX8_sleep_15 : q_j cX8_sleep 15 18 19 (fun o => .goto o) := ⟨4, by decide +kernel, rfl, rfl⟩
theorem dX8_sleep_18 : q_d cX8_sleep 18 19 (.iconst 0) 1 := ⟨by decide +kernel, rfl⟩
theorem dX8_sleep_19 : q_d cX8_sleep 19 20 (.iconst 1) 1 := ⟨by decide +kernel, rfl⟩
theorem dX8_sleep_20 : q_d cX8_sleep 20 21 (.iconst 0) 1 := ⟨by decide +kernel, rfl⟩
theorem dX8_sleep_21 : q_d cX8_sleep 21 24 (.invokevirtual 251) 3 := ⟨by decide +kernel, rfl⟩
theorem dX8_sleep_24 : q_j cX8_sleep 24 27 29 (fun o => .ifCond .eq o) := ⟨5, by decide +kernel, rfl, rfl⟩
theorem dX8_sleep_27 : q_d cX8_sleep 27 28 (.iconst 0) 1 := ⟨by decide +kernel, rfl⟩
theorem dX8_sleep_28 : q_d cX8_sleep 28 29 (.ireturn) 1 := ⟨by decide +kernel, rfl⟩
theorem dX8_sleep_29 : q_d cX8_sleep 29 30 (.aload_n 0) 1 := ⟨by decide +kernel, rfl⟩
theorem dX8_sleep_30 : q_d cX8_sleep 30 33 (.getfield 20) 3 := ⟨by decide +kernel, rfl⟩
theorem dX8_sleep_33 : q_d cX8_sleep 33 34 (.iload_n 1) 1 := ⟨by decide +kernel, rfl⟩
theorem dX8_sleep_34 : q_d cX8_sleep 34 37 (.invokestatic 312) 3 := ⟨by decide +kernel, rfl⟩
theorem dX8_sleep_37 : q_d cX8_sleep 37 38 (.istore_n 2) 1 := ⟨by decide +kernel, rfl⟩
theorem dX8_sleep_38 : q_d cX8_sleep 38 39 (.iload_n 2) 1 := ⟨by decide +kernel, rfl⟩
theorem dX8_sleep_39 : q_d cX8_sleep 39 40 (.iconst (-1)) 1 := ⟨by decide +kernel, rfl⟩
theorem dX8_sleep_40 : q_j cX8_sleep 40 43 54 (fun o => .if_icmp .eq o) := ⟨14, by decide +kernel, rfl, rfl⟩
theorem dX8_sleep_43 : q_d cX8_sleep 43 44 (.aload_n 0) 1 := ⟨by decide +kernel, rfl⟩
theorem dX8_sleep_44 : q_d cX8_sleep 44 47 (.getfield 20) 3 := ⟨by decide +kernel, rfl⟩
theorem dX8_sleep_47 : q_d cX8_sleep 47 48 (.iload_n 1) 1 := ⟨by decide +kernel, rfl⟩
theorem dX8_sleep_48 : q_d cX8_sleep 48 51 (.invokestatic 304) 3 := ⟨by decide +kernel, rfl⟩
theorem dX8_sleep_51 : q_j cX8_sleep 51 54 58 (fun o => .ifCond .ne o) := ⟨7, by decide +kernel, rfl, rfl⟩
theorem dX8_sleep_54 : q_d cX8_sleep 54 55 (.iconst (-1)) 1 := ⟨by decide +kernel, rfl⟩
theorem dX8_sleep_55 : q_j cX8_sleep 55 58 69 (fun o => .goto o) := ⟨14, by decide +kernel, rfl, rfl⟩
theorem dX8_sleep_58 : q_d cX8_sleep 58 59 (.aload_n 0) 1 := ⟨by decide +kernel, rfl⟩
theorem dX8_sleep_59 : q_d cX8_sleep 59 60 (.aload_n 0) 1 := ⟨by decide +kernel, rfl⟩
theorem dX8_sleep_60 : q_d cX8_sleep 60 63 (.getfield 20) 3 := ⟨by decide +kernel, rfl⟩
theorem dX8_sleep_63 : q_d cX8_sleep 63 64 (.iload_n 1) 1 := ⟨by decide +kernel, rfl⟩
theorem dX8_sleep_64 : q_d cX8_sleep 64 65 (.iload_n 2) 1 := ⟨by decide +kernel, rfl⟩
theorem dX8_sleep_65 : q_d cX8_sleep 65 68 (.invokevirtual 316) 3 := ⟨by decide +kernel, rfl⟩
theorem dX8_sleep_68 : q_d cX8_sleep 68 69 (.l2i) 1 := ⟨by decide +kernel, rfl⟩
theorem dX8_sleep_69 : q_d cX8_sleep 69 70 (.ireturn) 1 := ⟨by decide +kernel, rfl⟩
theorem dX8_soon_0 : q_d cX8_soon 0 1 (.aload_n 0) 1 := ⟨by decide +kernel, rfl⟩
theorem dX8_soon_1 : q_d cX8_soon 1 2 (.iconst 0) 1 := ⟨by decide +kernel, rfl⟩
theorem dX8_soon_2 : q_d cX8_soon 2 5 (.putfield 52) 3 := ⟨by decide +kernel, rfl⟩
theorem dX8_soon_5 : q_d cX8_soon 5 6 (.aload_n 0) 1 := ⟨by decide +kernel, rfl⟩
theorem dX8_soon_6 : q_d cX8_soon 6 7 (.aload_n 0) 1 := ⟨by decide +kernel, rfl⟩
theorem dX8_soon_7 : q_d cX8_soon 7 8 (.iload_n 1) 1 := ⟨by decide +kernel, rfl⟩
theorem dX8_soon_8 : q_d cX8_soon 8 11 (.invokevirtual 340) 3 := ⟨by decide +kernel, rfl⟩
theorem dX8_soon_11 : q_j cX8_soon 11 14 18 (fun o => .ifCond .ne o) := ⟨7, by decide +kernel, rfl, rfl⟩
theorem dX8_soon_14 : q_d cX8_soon 14 15 (.iconst 1) 1 := ⟨by decide +kernel, rfl⟩
theorem dX8_soon_15 : q_j cX8_soon 15 18 19 (fun o => .goto o) := ⟨4, by decide +kernel, rfl, rfl⟩
theorem dX8_soon_18 : q_d cX8_soon 18 19 (.iconst 0) 1 := ⟨by decide +kernel, rfl⟩
theorem dX8_soon_19 : q_d cX8_soon 19 20 (.iconst 1) 1 := ⟨by decide +kernel, rfl⟩
theorem dX8_soon_20 : q_d cX8_soon 20 21 (.iconst 0) 1 := ⟨by decide +kernel, rfl⟩
theorem dX8_soon_21 : q_d cX8_soon 21 24 (.invokevirtual 251) 3 := ⟨by decide +kernel, rfl⟩
theorem dX8_soon_24 : q_j cX8_soon 24 27 29 (fun o => .ifCond .eq o) := ⟨5, by decide +kernel, rfl, rfl⟩
theorem dX8_soon_27 : q_d cX8_soon 27 28 (.iconst 0) 1 := ⟨by decide +kernel, rfl⟩
theorem dX8_soon_28 : q_d cX8_soon 28 29 (.ireturn) 1 := ⟨by decide +kernel, rfl⟩
theorem dX8_soon_29 : q_d cX8_soon 29 30 (.aload_n 0) 1 := ⟨by decide +kernel, rfl⟩
theorem dX8_soon_30 : q_d cX8_soon 30 33 (.getfield 20) 3 := ⟨by decide +kernel, rfl⟩
theorem dX8_soon_33 : q_d cX8_soon 33 34 (.aload_n 0) 1 := ⟨by decide +kernel, rfl⟩
theorem dX8_soon_34 : q_d cX8_soon 34 37 (.getfield 27) 3 := ⟨by decide +kernel, rfl⟩
theorem dX8_soon_37 : q_d cX8_soon 37 40 (.invokestatic 261) 3 := ⟨by decide +kernel, rfl⟩
theorem dX8_soon_40 : q_d cX8_soon 40 41 (.iconst 1) 1 := ⟨by decide +kernel, rfl⟩
theorem dX8_soon_41 : q_d cX8_soon 41 42 (.istore_n 2) 1 := ⟨by decide +kernel, rfl⟩
theorem dX8_soon_42 : q_d cX8_soon 42 43 (.iload_n 2) 1 := ⟨by decide +kernel, rfl⟩
theorem dX8_soon_43 : q_d cX8_soon 43 46 (.sipush 600) 3 := ⟨by decide +kernel, rfl⟩
theorem dX8_soon_46 : q_j cX8_soon 46 49 94 (fun o => .if_icmp .gt o) := ⟨48, by decide +kernel, rfl, rfl⟩
theorem dX8_soon_49 : q_d cX8_soon 49 50 (.aload_n 0) 1 := ⟨by decide +kernel, rfl⟩
theorem dX8_soon_50 : q_d cX8_soon 50 53 (.getfield 20) 3 := ⟨by decide +kernel, rfl⟩
theorem dX8_soon_53 : q_d cX8_soon 53 54 (.iconst 2) 1 := ⟨by decide +kernel, rfl⟩
theorem dX8_soon_54 : q_d cX8_soon 54 55 (.laload) 1 := ⟨by decide +kernel, rfl⟩
theorem dX8_soon_55 : q_d cX8_soon 55 56 (.iload_n 2) 1 := ⟨by decide +kernel, rfl⟩
theorem dX8_soon_56 : q_d cX8_soon 56 57 (.i2l) 1 := ⟨by decide +kernel, rfl⟩
theorem dX8_soon_57 : q_d cX8_soon 57 58 (.ladd) 1 := ⟨by decide +kernel, rfl⟩
theorem dX8_soon_58 : q_d cX8_soon 58 61 (.ldc2_w 328) 3 := ⟨by decide +kernel, rfl⟩
theorem dX8_soon_61 : q_d cX8_soon 61 62 (.lcmp) 1 := ⟨by decide +kernel, rfl⟩
theorem dX8_soon_62 : q_j cX8_soon 62 65 94 (fun o => .ifCond .gt o) := ⟨32, by decide +kernel, rfl, rfl⟩
theorem dX8_soon_65 : q_d cX8_soon 65 66 (.aload_n 0) 1 := ⟨by decide +kernel, rfl⟩
theorem dX8_soon_66 : q_d cX8_soon 66 67 (.aload_n 0) 1 := ⟨by decide +kernel, rfl⟩
theorem dX8_soon_67 : q_d cX8_soon 67 70 (.getfield 27) 3 := ⟨by decide +kernel, rfl⟩
theorem dX8_soon_70 : q_d cX8_soon 70 71 (.iload_n 1) 1 := ⟨by decide +kernel, rfl⟩
theorem dX8_soon_71 : q_d cX8_soon 71 72 (.aload_n 0) 1 := ⟨by decide +kernel, rfl⟩
theorem dX8_soon_72 : q_d cX8_soon 72 75 (.getfield 20) 3 := ⟨by decide +kernel, rfl⟩
theorem dX8_soon_75 : q_d cX8_soon 75 76 (.iconst 2) 1 := ⟨by decide +kernel, rfl⟩
theorem dX8_soon_76 : q_d cX8_soon 76 77 (.laload) 1 := ⟨by decide +kernel, rfl⟩
theorem dX8_soon_77 : q_d cX8_soon 77 78 (.iload_n 2) 1 := ⟨by decide +kernel, rfl⟩
theorem dX8_soon_78 : q_d cX8_soon 78 79 (.i2l) 1 := ⟨by decide +kernel, rfl⟩
theorem dX8_soon_79 : q_d cX8_soon 79 80 (.ladd) 1 := ⟨by decide +kernel, rfl⟩
theorem dX8_soon_80 : q_d cX8_soon 80 83 (.invokevirtual 330) 3 := ⟨by decide +kernel, rfl⟩
theorem dX8_soon_83 : q_j cX8_soon 83 86 88 (fun o => .ifCond .eq o) := ⟨5, by decide +kernel, rfl, rfl⟩
theorem dX8_soon_86 : q_d cX8_soon 86 87 (.iload_n 2) 1 := ⟨by decide +kernel, rfl⟩
theorem dX8_soon_87 : q_d cX8_soon 87 88 (.ireturn) 1 := ⟨by decide +kernel, rfl⟩
theorem dX8_soon_88 : q_d cX8_soon 88 91 (.iinc 2 1) 3 := ⟨by decide +kernel, rfl⟩
theorem dX8_soon_91 : q_j cX8_soon 91 94 42 (fun o => .goto o) := ⟨(-49), by decide +kernel, rfl, rfl⟩
theorem dX8_soon_94 : q_d cX8_soon 94 95 (.iconst (-1)) 1 := ⟨by decide +kernel, rfl⟩
theorem dX8_soon_95 : q_d cX8_soon 95 96 (.ireturn) 1 := ⟨by decide +kernel, rfl⟩
theorem dX8_worth_0 : q_d cX8_worth 0 1 (.aload_n 0) 1 := ⟨by decide +kernel, rfl⟩
theorem dX8_worth_1 : q_d cX8_worth 1 2 (.iconst 0) 1 := ⟨by decide +kernel, rfl⟩
theorem dX8_worth_2 : q_d cX8_worth 2 5 (.putfield 52) 3 := ⟨by decide +kernel, rfl⟩
theorem dX8_worth_5 : q_d cX8_worth 5 6 (.aload_n 0) 1 := ⟨by decide +kernel, rfl⟩
theorem dX8_worth_6 : q_d cX8_worth 6 7 (.aload_n 0) 1 := ⟨by decide +kernel, rfl⟩
theorem dX8_worth_7 : q_d cX8_worth 7 8 (.iload_n 1) 1 := ⟨by decide +kernel, rfl⟩
theorem dX8_worth_8 : q_d cX8_worth 8 11 (.invokevirtual 340) 3 := ⟨by decide +kernel, rfl⟩
theorem dX8_worth_11 : q_j cX8_worth 11 14 18 (fun o => .ifCond .ne o) := ⟨7, by decide +kernel, rfl, rfl⟩
theorem dX8_worth_14 : q_d cX8_worth 14 15 (.iconst 1) 1 := ⟨by decide +kernel, rfl⟩
theorem dX8_worth_15 : q_j cX8_worth 15 18 19 (fun o => .goto o) := ⟨4, by decide +kernel, rfl, rfl⟩
theorem dX8_worth_18 : q_d cX8_worth 18 19 (.iconst 0) 1 := ⟨by decide +kernel, rfl⟩
theorem dX8_worth_19 : q_d cX8_worth 19 20 (.iconst 1) 1 := ⟨by decide +kernel, rfl⟩
theorem dX8_worth_20 : q_d cX8_worth 20 21 (.iconst 0) 1 := ⟨by decide +kernel, rfl⟩
theorem dX8_worth_21 : q_d cX8_worth 21 24 (.invokevirtual 251) 3 := ⟨by decide +kernel, rfl⟩
theorem dX8_worth_24 : q_j cX8_worth 24 27 53 (fun o => .ifCond .ne o) := ⟨29, by decide +kernel, rfl, rfl⟩
theorem dX8_worth_27 : q_d cX8_worth 27 28 (.aload_n 0) 1 := ⟨by decide +kernel, rfl⟩
theorem dX8_worth_28 : q_d cX8_worth 28 29 (.iload_n 2) 1 := ⟨by decide +kernel, rfl⟩
theorem dX8_worth_29 : q_d cX8_worth 29 30 (.i2l) 1 := ⟨by decide +kernel, rfl⟩
theorem dX8_worth_30 : q_d cX8_worth 30 31 (.lconst 0) 1 := ⟨by decide +kernel, rfl⟩
theorem dX8_worth_31 : q_d cX8_worth 31 34 (.ldc2_w 290) 3 := ⟨by decide +kernel, rfl⟩
theorem dX8_worth_34 : q_d cX8_worth 34 37 (.invokestatic 123) 3 := ⟨by decide +kernel, rfl⟩
theorem dX8_worth_37 : q_j cX8_worth 37 40 44 (fun o => .ifCond .ne o) := ⟨7, by decide +kernel, rfl, rfl⟩
theorem dX8_worth_40 : q_d cX8_worth 40 41 (.iconst 1) 1 := ⟨by decide +kernel, rfl⟩
theorem dX8_worth_41 : q_j cX8_worth 41 44 45 (fun o => .goto o) := ⟨4, by decide +kernel, rfl, rfl⟩
theorem dX8_worth_44 : q_d cX8_worth 44 45 (.iconst 0) 1 := ⟨by decide +kernel, rfl⟩
theorem dX8_worth_45 : q_d cX8_worth 45 46 (.iconst 2) 1 := ⟨by decide +kernel, rfl⟩
theorem dX8_worth_46 : q_d cX8_worth 46 47 (.iconst 1) 1 := ⟨by decide +kernel, rfl⟩
theorem dX8_worth_47 : q_d cX8_worth 47 50 (.invokevirtual 251) 3 := ⟨by decide +kernel, rfl⟩
theorem dX8_worth_50 : q_j cX8_worth 50 53 55 (fun o => .ifCond .eq o) := ⟨5, by decide +kernel, rfl, rfl⟩
theorem dX8_worth_53 : q_d cX8_worth 53 54 (.lconst 0) 1 := ⟨by decide +kernel, rfl⟩
theorem dX8_worth_54 : q_d cX8_worth 54 55 (.lreturn) 1 := ⟨by decide +kernel, rfl⟩
theorem dX8_worth_55 : q_d cX8_worth 55 56 (.aload_n 0) 1 := ⟨by decide +kernel, rfl⟩
theorem dX8_worth_56 : q_d cX8_worth 56 57 (.iload_n 1) 1 := ⟨by decide +kernel, rfl⟩
theorem dX8_worth_57 : q_d cX8_worth 57 60 (.invokevirtual 362) 3 := ⟨by decide +kernel, rfl⟩
theorem dX8_worth_60 : q_j cX8_worth 60 63 82 (fun o => .ifCond .eq o) := ⟨22, by decide +kernel, rfl, rfl⟩
theorem dX8_worth_63 : q_d cX8_worth 63 64 (.aload_n 0) 1 := ⟨by decide +kernel, rfl⟩
theorem dX8_worth_64 : q_d cX8_worth 64 67 (.getfield 20) 3 := ⟨by decide +kernel, rfl⟩
theorem dX8_worth_67 : q_d cX8_worth 67 68 (.iload_n 1) 1 := ⟨by decide +kernel, rfl⟩
theorem dX8_worth_68 : q_d cX8_worth 68 69 (.iconst 3) 1 := ⟨by decide +kernel, rfl⟩
theorem dX8_worth_69 : q_d cX8_worth 69 72 (.invokestatic 268) 3 := ⟨by decide +kernel, rfl⟩
theorem dX8_worth_72 : q_d cX8_worth 72 73 (.aload_n 0) 1 := ⟨by decide +kernel, rfl⟩
theorem dX8_worth_73 : q_d cX8_worth 73 74 (.iload_n 1) 1 := ⟨by decide +kernel, rfl⟩
theorem dX8_worth_74 : q_d cX8_worth 74 75 (.iload_n 2) 1 := ⟨by decide +kernel, rfl⟩
theorem dX8_worth_75 : q_d cX8_worth 75 78 (.invokevirtual 365) 3 := ⟨by decide +kernel, rfl⟩
theorem dX8_worth_78 : q_d cX8_worth 78 79 (.ladd) 1 := ⟨by decide +kernel, rfl⟩
theorem dX8_worth_79 : q_j cX8_worth 79 82 85 (fun o => .goto o) := ⟨6, by decide +kernel, rfl, rfl⟩
theorem dX8_worth_82 : q_d cX8_worth 82 85 (.ldc2_w 48) 3 := ⟨by decide +kernel, rfl⟩
theorem dX8_worth_85 : q_d cX8_worth 85 86 (.lreturn) 1 := ⟨by decide +kernel, rfl⟩
theorem dX8_row_0 : q_d cX8_row 0 1 (.aload_n 0) 1 := ⟨by decide +kernel, rfl⟩
theorem dX8_row_1 : q_d cX8_row 1 2 (.iconst 0) 1 := ⟨by decide +kernel, rfl⟩
theorem dX8_row_2 : q_d cX8_row 2 5 (.putfield 52) 3 := ⟨by decide +kernel, rfl⟩
theorem dX8_row_5 : q_d cX8_row 5 6 (.aload_n 0) 1 := ⟨by decide +kernel, rfl⟩
theorem dX8_row_6 : q_d cX8_row 6 7 (.iload_n 1) 1 := ⟨by decide +kernel, rfl⟩
theorem dX8_row_7 : q_d cX8_row 7 8 (.i2l) 1 := ⟨by decide +kernel, rfl⟩
theorem dX8_row_8 : q_d cX8_row 8 9 (.lconst 0) 1 := ⟨by decide +kernel, rfl⟩
theorem dX8_row_9 : q_d cX8_row 9 10 (.aload_n 0) 1 := ⟨by decide +kernel, rfl⟩
theorem dX8_row_10 : q_d cX8_row 10 13 (.getfield 20) 3 := ⟨by decide +kernel, rfl⟩
theorem dX8_row_13 : q_d cX8_row 13 15 (.bipush 6) 2 := ⟨by decide +kernel, rfl⟩
theorem dX8_row_15 : q_d cX8_row 15 16 (.laload) 1 := ⟨by decide +kernel, rfl⟩
theorem dX8_row_16 : q_d cX8_row 16 17 (.lconst 1) 1 := ⟨by decide +kernel, rfl⟩
theorem dX8_row_17 : q_d cX8_row 17 18 (.lsub) 1 := ⟨by decide +kernel, rfl⟩
theorem dX8_row_18 : q_d cX8_row 18 21 (.invokestatic 123) 3 := ⟨by decide +kernel, rfl⟩
theorem dX8_row_21 : q_j cX8_row 21 24 28 (fun o => .ifCond .ne o) := ⟨7, by decide +kernel, rfl, rfl⟩
theorem dX8_row_24 : q_d cX8_row 24 25 (.iconst 1) 1 := ⟨by decide +kernel, rfl⟩
theorem dX8_row_25 : q_j cX8_row 25 28 29 (fun o => .goto o) := ⟨4, by decide +kernel, rfl, rfl⟩
theorem dX8_row_28 : q_d cX8_row 28 29 (.iconst 0) 1 := ⟨by decide +kernel, rfl⟩
theorem dX8_row_29 : q_d cX8_row 29 30 (.iconst 1) 1 := ⟨by decide +kernel, rfl⟩
theorem dX8_row_30 : q_d cX8_row 30 31 (.iconst 0) 1 := ⟨by decide +kernel, rfl⟩
theorem dX8_row_31 : q_d cX8_row 31 34 (.invokevirtual 251) 3 := ⟨by decide +kernel, rfl⟩
theorem dX8_row_34 : q_j cX8_row 34 37 63 (fun o => .ifCond .ne o) := ⟨29, by decide +kernel, rfl, rfl⟩
theorem dX8_row_37 : q_d cX8_row 37 38 (.aload_n 0) 1 := ⟨by decide +kernel, rfl⟩
theorem dX8_row_38 : q_d cX8_row 38 39 (.iload_n 2) 1 := ⟨by decide +kernel, rfl⟩
theorem dX8_row_39 : q_d cX8_row 39 40 (.i2l) 1 := ⟨by decide +kernel, rfl⟩
theorem dX8_row_40 : q_d cX8_row 40 41 (.lconst 0) 1 := ⟨by decide +kernel, rfl⟩
theorem dX8_row_41 : q_d cX8_row 41 44 (.ldc2_w 346) 3 := ⟨by decide +kernel, rfl⟩
theorem dX8_row_44 : q_d cX8_row 44 47 (.invokestatic 123) 3 := ⟨by decide +kernel, rfl⟩
theorem dX8_row_47 : q_j cX8_row 47 50 54 (fun o => .ifCond .ne o) := ⟨7, by decide +kernel, rfl, rfl⟩
theorem dX8_row_50 : q_d cX8_row 50 51 (.iconst 1) 1 := ⟨by decide +kernel, rfl⟩
theorem dX8_row_51 : q_j cX8_row 51 54 55 (fun o => .goto o) := ⟨4, by decide +kernel, rfl, rfl⟩
theorem dX8_row_54 : q_d cX8_row 54 55 (.iconst 0) 1 := ⟨by decide +kernel, rfl⟩
theorem dX8_row_55 : q_d cX8_row 55 56 (.iconst 2) 1 := ⟨by decide +kernel, rfl⟩
theorem dX8_row_56 : q_d cX8_row 56 57 (.iconst 1) 1 := ⟨by decide +kernel, rfl⟩
theorem dX8_row_57 : q_d cX8_row 57 60 (.invokevirtual 251) 3 := ⟨by decide +kernel, rfl⟩
theorem dX8_row_60 : q_j cX8_row 60 63 65 (fun o => .ifCond .eq o) := ⟨5, by decide +kernel, rfl, rfl⟩
theorem dX8_row_63 : q_d cX8_row 63 64 (.iconst 0) 1 := ⟨by decide +kernel, rfl⟩
theorem dX8_row_64 : q_d cX8_row 64 65 (.ireturn) 1 := ⟨by decide +kernel, rfl⟩
theorem dX8_row_65 : q_d cX8_row 65 66 (.aload_n 0) 1 := ⟨by decide +kernel, rfl⟩
theorem dX8_row_66 : q_d cX8_row 66 69 (.getfield 20) 3 := ⟨by decide +kernel, rfl⟩
theorem dX8_row_69 : q_d cX8_row 69 72 (.sipush 1183) 3 := ⟨by decide +kernel, rfl⟩
theorem dX8_row_72 : q_d cX8_row 72 73 (.iconst 5) 1 := ⟨by decide +kernel, rfl⟩
theorem dX8_row_73 : q_d cX8_row 73 74 (.iload_n 1) 1 := ⟨by decide +kernel, rfl⟩
theorem dX8_row_74 : q_d cX8_row 74 75 (.imul) 1 := ⟨by decide +kernel, rfl⟩
theorem dX8_row_75 : q_d cX8_row 75 76 (.iadd) 1 := ⟨by decide +kernel, rfl⟩
theorem dX8_row_76 : q_d cX8_row 76 77 (.iload_n 2) 1 := ⟨by decide +kernel, rfl⟩
theorem dX8_row_77 : q_d cX8_row 77 78 (.iadd) 1 := ⟨by decide +kernel, rfl⟩
theorem dX8_row_78 : q_d cX8_row 78 79 (.laload) 1 := ⟨by decide +kernel, rfl⟩
theorem dX8_row_79 : q_d cX8_row 79 80 (.l2i) 1 := ⟨by decide +kernel, rfl⟩
