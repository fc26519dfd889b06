theorem dL_law_1234 : decode cL_law 1234 = .ok (.iinc 3 11, 3) := by decide +kernel
theorem dL_law_1237 : decode cL_law 1237 = .ok (.goto (-1219), 3) := by decide +kernel
theorem dL_law_18 : decode cL_law 18 = .ok (.iload_n 3, 1) := by decide +kernel
theorem dL_law_19 : decode cL_law 19 = .ok (.aload_n 0, 1) := by decide +kernel
theorem dL_law_20 : decode cL_law 20 = .ok (.arraylength, 1) := by decide +kernel
theorem dL_law_21 : decode cL_law 21 = .ok (.bipush 11, 2) := by decide +kernel
theorem dL_law_23 : decode cL_law 23 = .ok (.isub, 1) := by decide +kernel
theorem dL_law_24 : decode cL_law 24 = .ok (.if_icmp .gt 1216, 3) := by decide +kernel
theorem dL_law_1240 : decode cL_law 1240 = .ok (.iconst 1, 1) := by decide +kernel
theorem dL_law_1241 : decode cL_law 1241 = .ok (.ireturn, 1) := by decide +kernel
theorem dL_law_152 : decode cL_law 152 = .ok (.aload_n 1, 1) := by decide +kernel
theorem dL_law_153 : decode cL_law 153 = .ok (.aload_n 0, 1) := by decide +kernel
theorem dL_law_154 : decode cL_law 154 = .ok (.iload_n 3, 1) := by decide +kernel
theorem dL_law_155 : decode cL_law 155 = .ok (.iconst 1, 1) := by decide +kernel
theorem dL_law_156 : decode cL_law 156 = .ok (.iadd, 1) := by decide +kernel
theorem dL_law_157 : decode cL_law 157 = .ok (.iaload, 1) := by decide +kernel
set_option maxRecDepth 20000 in
theorem ggL_law_X8_now : GoodIn wsL_law wsX8_now := goodIn_r _ [135, 136, 137, 138, 2, 139, 140, 141, 142, 143, 144, 145, 146, 147, 148, 149, 885, 886, 887, 888, 889, 890, 891, 892, 893, 894, 895, 896, 897, 898, 899, 900, 901] (by decide +kernel) (by decide +kernel)
set_option maxRecDepth 20000 in
theorem gL_law_X8_now : GoodIn wsL_law (wsV RL 13 RX8 yX8_now wsX8_now) := goodIn_app (goodIn_of _ (by decide +kernel)) ggL_law_X8_now
theorem dL_law_158 : decode cL_law 158 = .ok (.invokevirtual 13, 3) := by decide +kernel
theorem dL_law_161 : decode cL_law 161 = .ok (.aload_n 2, 1) := by decide +kernel
theorem dL_law_162 : decode cL_law 162 = .ok (.aload_n 0, 1) := by decide +kernel
theorem dL_law_163 : decode cL_law 163 = .ok (.iload_n 3, 1) := by decide +kernel
theorem dL_law_164 : decode cL_law 164 = .ok (.iconst 1, 1) := by decide +kernel
theorem dL_law_165 : decode cL_law 165 = .ok (.iadd, 1) := by decide +kernel
theorem dL_law_166 : decode cL_law 166 = .ok (.iaload, 1) := by decide +kernel
set_option maxRecDepth 20000 in
theorem ggL_law_X9_now : GoodIn wsL_law wsX9_now := goodIn_r _ [153, 154, 155, 156, 157, 5, 158, 159, 160, 161, 162, 163, 902, 903, 904, 905, 906, 907, 908, 909, 910, 911, 912, 913, 914, 915, 916, 917, 918, 919, 920, 921, 922, 923, 924, 925, 926, 927, 928, 929, 930, 931, 932, 933, 934, 935, 936, 937, 938, 939, 940, 941, 942, 943, 944, 945, 946, 947, 948, 949, 950, 951, 952] (by decide +kernel) (by decide +kernel)
set_option maxRecDepth 20000 in
theorem gL_law_X9_now : GoodIn wsL_law (wsV RL 17 RX9 yX9_now wsX9_now) := goodIn_app (goodIn_of _ (by decide +kernel)) ggL_law_X9_now
theorem dL_law_167 : decode cL_law 167 = .ok (.invokevirtual 17, 3) := by decide +kernel
theorem dL_law_170 : decode cL_law 170 = .ok (.if_icmp .eq 1064, 3) := by decide +kernel
theorem dL_law_175 : decode cL_law 175 = .ok (.aload_n 1, 1) := by decide +kernel
theorem dL_law_176 : decode cL_law 176 = .ok (.aload_n 0, 1) := by decide +kernel
theorem dL_law_177 : decode cL_law 177 = .ok (.iload_n 3, 1) := by decide +kernel
theorem dL_law_178 : decode cL_law 178 = .ok (.iconst 1, 1) := by decide +kernel
theorem dL_law_179 : decode cL_law 179 = .ok (.iadd, 1) := by decide +kernel
theorem dL_law_180 : decode cL_law 180 = .ok (.iaload, 1) := by decide +kernel
theorem dL_law_181 : decode cL_law 181 = .ok (.aload_n 0, 1) := by decide +kernel
theorem dL_law_182 : decode cL_law 182 = .ok (.iload_n 3, 1) := by decide +kernel
theorem dL_law_183 : decode cL_law 183 = .ok (.iconst 2, 1) := by decide +kernel
theorem dL_law_184 : decode cL_law 184 = .ok (.iadd, 1) := by decide +kernel
theorem dL_law_185 : decode cL_law 185 = .ok (.iaload, 1) := by decide +kernel
theorem dL_law_186 : decode cL_law 186 = .ok (.aload_n 0, 1) := by decide +kernel
theorem dL_law_187 : decode cL_law 187 = .ok (.iload_n 3, 1) := by decide +kernel
theorem dL_law_188 : decode cL_law 188 = .ok (.iconst 3, 1) := by decide +kernel
theorem dL_law_189 : decode cL_law 189 = .ok (.iadd, 1) := by decide +kernel
theorem dL_law_190 : decode cL_law 190 = .ok (.iaload, 1) := by decide +kernel
theorem dL_law_191 : decode cL_law 191 = .ok (.aload_n 0, 1) := by decide +kernel
theorem dL_law_192 : decode cL_law 192 = .ok (.iload_n 3, 1) := by decide +kernel
theorem dL_law_193 : decode cL_law 193 = .ok (.iconst 4, 1) := by decide +kernel
theorem dL_law_194 : decode cL_law 194 = .ok (.iadd, 1) := by decide +kernel
theorem dL_law_195 : decode cL_law 195 = .ok (.iaload, 1) := by decide +kernel
theorem dL_law_196 : decode cL_law 196 = .ok (.aload_n 0, 1) := by decide +kernel
theorem dL_law_197 : decode cL_law 197 = .ok (.iload_n 3, 1) := by decide +kernel
theorem dL_law_198 : decode cL_law 198 = .ok (.iconst 5, 1) := by decide +kernel
theorem dL_law_199 : decode cL_law 199 = .ok (.iadd, 1) := by decide +kernel
theorem dL_law_200 : decode cL_law 200 = .ok (.iaload, 1) := by decide +kernel
set_option maxRecDepth 20000 in
theorem ggL_law_X8_row : GoodIn wsL_law wsX8_row := goodIn_r _ [167, 168, 169, 170, 2, 171, 16, 22, 172, 173, 174, 137, 138, 139, 140, 175, 176, 177, 178, 179, 180, 181, 182, 183, 15, 184, 185, 186, 187, 188, 189, 49, 50, 51, 52, 53, 190, 191, 141, 142, 143, 144, 145, 146, 147, 148, 149, 885, 886, 887, 888, 889, 890, 891, 892, 893, 894, 895, 896, 897, 898, 899, 900, 901, 953, 954, 955, 956, 957, 958, 959] (by decide +kernel) (by decide +kernel)
set_option maxRecDepth 20000 in
theorem gL_law_X8_row : GoodIn wsL_law (wsV RL 18 RX8 yX8_row wsX8_row) := goodIn_app (goodIn_of _ (by decide +kernel)) ggL_law_X8_row
theorem dL_law_201 : decode cL_law 201 = .ok (.invokevirtual 18, 3) := by decide +kernel
theorem dL_law_204 : decode cL_law 204 = .ok (.aload_n 2, 1) := by decide +kernel
theorem dL_law_205 : decode cL_law 205 = .ok (.aload_n 0, 1) := by decide +kernel
theorem dL_law_206 : decode cL_law 206 = .ok (.iload_n 3, 1) := by decide +kernel
theorem dL_law_207 : decode cL_law 207 = .ok (.iconst 1, 1) := by decide +kernel
theorem dL_law_208 : decode cL_law 208 = .ok (.iadd, 1) := by decide +kernel
theorem dL_law_209 : decode cL_law 209 = .ok (.iaload, 1) := by decide +kernel
theorem dL_law_210 : decode cL_law 210 = .ok (.aload_n 0, 1) := by decide +kernel
theorem dL_law_211 : decode cL_law 211 = .ok (.iload_n 3, 1) := by decide +kernel
theorem dL_law_212 : decode cL_law 212 = .ok (.iconst 2, 1) := by decide +kernel
theorem dL_law_213 : decode cL_law 213 = .ok (.iadd, 1) := by decide +kernel
theorem dL_law_214 : decode cL_law 214 = .ok (.iaload, 1) := by decide +kernel
theorem dL_law_215 : decode cL_law 215 = .ok (.aload_n 0, 1) := by decide +kernel
theorem dL_law_216 : decode cL_law 216 = .ok (.iload_n 3, 1) := by decide +kernel
theorem dL_law_217 : decode cL_law 217 = .ok (.iconst 3, 1) := by decide +kernel
theorem dL_law_218 : decode cL_law 218 = .ok (.iadd, 1) := by decide +kernel
theorem dL_law_219 : decode cL_law 219 = .ok (.iaload, 1) := by decide +kernel
theorem dL_law_220 : decode cL_law 220 = .ok (.aload_n 0, 1) := by decide +kernel
theorem dL_law_221 : decode cL_law 221 = .ok (.iload_n 3, 1) := by decide +kernel
theorem dL_law_222 : decode cL_law 222 = .ok (.iconst 4, 1) := by decide +kernel
theorem dL_law_223 : decode cL_law 223 = .ok (.iadd, 1) := by decide +kernel
theorem dL_law_224 : decode cL_law 224 = .ok (.iaload, 1) := by decide +kernel
theorem dL_law_225 : decode cL_law 225 = .ok (.aload_n 0, 1) := by decide +kernel
theorem dL_law_226 : decode cL_law 226 = .ok (.iload_n 3, 1) := by decide +kernel
theorem dL_law_227 : decode cL_law 227 = .ok (.iconst 5, 1) := by decide +kernel
theorem dL_law_228 : decode cL_law 228 = .ok (.iadd, 1) := by decide +kernel
theorem dL_law_229 : decode cL_law 229 = .ok (.iaload, 1) := by decide +kernel
set_option maxRecDepth 20000 in
theorem ggL_law_X9_row : GoodIn wsL_law wsX9_row := goodIn_r _ [195, 196, 155, 197, 198, 199, 103, 95, 96, 97, 98, 99, 156, 157, 5, 158, 200, 201, 202, 159, 160, 161, 162, 163, 203, 204, 205, 206, 902, 903, 904, 905, 906, 907, 908, 909, 910, 911, 912, 913, 914, 915, 916, 917, 918, 919, 920, 921, 922, 923, 924, 925, 926, 927, 928, 929, 930, 931, 932, 933, 934, 935, 936, 937, 938, 939, 940, 941, 942, 943, 944, 945, 946, 947, 948, 949, 950, 951, 952] (by decide +kernel) (by decide +kernel)
set_option maxRecDepth 20000 in
theorem gL_law_X9_row : GoodIn wsL_law (wsV RL 22 RX9 yX9_row wsX9_row) := goodIn_app (goodIn_of _ (by decide +kernel)) ggL_law_X9_row
theorem dL_law_230 : decode cL_law 230 = .ok (.invokevirtual 22, 3) := by decide +kernel
theorem dL_law_233 : decode cL_law 233 = .ok (.if_icmp .eq 1001, 3) := by decide +kernel
theorem dL_law_238 : decode cL_law 238 = .ok (.aload_n 1, 1) := by decide +kernel
theorem dL_law_239 : decode cL_law 239 = .ok (.aload_n 0, 1) := by decide +kernel
theorem dL_law_240 : decode cL_law 240 = .ok (.iload_n 3, 1) := by decide +kernel
theorem dL_law_241 : decode cL_law 241 = .ok (.iconst 1, 1) := by decide +kernel
theorem dL_law_242 : decode cL_law 242 = .ok (.iadd, 1) := by decide +kernel
theorem dL_law_243 : decode cL_law 243 = .ok (.iaload, 1) := by decide +kernel
theorem dL_law_244 : decode cL_law 244 = .ok (.aload_n 0, 1) := by decide +kernel
theorem dL_law_245 : decode cL_law 245 = .ok (.iload_n 3, 1) := by decide +kernel
theorem dL_law_246 : decode cL_law 246 = .ok (.iconst 2, 1) := by decide +kernel
theorem dL_law_247 : decode cL_law 247 = .ok (.iadd, 1) := by decide +kernel
theorem dL_law_248 : decode cL_law 248 = .ok (.iaload, 1) := by decide +kernel
theorem dL_law_249 : decode cL_law 249 = .ok (.aload_n 0, 1) := by decide +kernel
theorem dL_law_250 : decode cL_law 250 = .ok (.iload_n 3, 1) := by decide +kernel
theorem dL_law_251 : decode cL_law 251 = .ok (.iconst 3, 1) := by decide +kernel
theorem dL_law_252 : decode cL_law 252 = .ok (.iadd, 1) := by decide +kernel
theorem dL_law_253 : decode cL_law 253 = .ok (.iaload, 1) := by decide +kernel
set_option maxRecDepth 20000 in
theorem ggL_law_X8_merge : GoodIn wsL_law wsX8_merge := goodIn_r _ [210, 211, 212, 213, 2, 214, 20, 140, 137, 138, 139, 180, 181, 182, 215, 19, 216, 217, 57, 218, 219, 220, 58, 221, 222, 223, 224, 225, 141, 142, 143, 144, 145, 146, 147, 148, 149, 885, 886, 887, 888, 889, 890, 891, 892, 893, 894, 895, 896, 897, 898, 899, 900, 901, 960, 961, 962] (by decide +kernel) (by decide +kernel)
set_option maxRecDepth 20000 in
theorem gL_law_X8_merge : GoodIn wsL_law (wsV RL 23 RX8 yX8_merge wsX8_merge) := goodIn_app (goodIn_of _ (by decide +kernel)) ggL_law_X8_merge
theorem dL_law_254 : decode cL_law 254 = .ok (.invokevirtual 23, 3) := by decide +kernel
theorem dL_law_257 : decode cL_law 257 = .ok (.aload_n 2, 1) := by decide +kernel
theorem dL_law_258 : decode cL_law 258 = .ok (.aload_n 0, 1) := by decide +kernel
theorem dL_law_259 : decode cL_law 259 = .ok (.iload_n 3, 1) := by decide +kernel
theorem dL_law_260 : decode cL_law 260 = .ok (.iconst 1, 1) := by decide +kernel
theorem dL_law_261 : decode cL_law 261 = .ok (.iadd, 1) := by decide +kernel
theorem dL_law_262 : decode cL_law 262 = .ok (.iaload, 1) := by decide +kernel
theorem dL_law_263 : decode cL_law 263 = .ok (.aload_n 0, 1) := by decide +kernel
theorem dL_law_264 : decode cL_law 264 = .ok (.iload_n 3, 1) := by decide +kernel
theorem dL_law_265 : decode cL_law 265 = .ok (.iconst 2, 1) := by decide +kernel
theorem dL_law_266 : decode cL_law 266 = .ok (.iadd, 1) := by decide +kernel
theorem dL_law_267 : decode cL_law 267 = .ok (.iaload, 1) := by decide +kernel
theorem dL_law_268 : decode cL_law 268 = .ok (.aload_n 0, 1) := by decide +kernel
theorem dL_law_269 : decode cL_law 269 = .ok (.iload_n 3, 1) := by decide +kernel
theorem dL_law_270 : decode cL_law 270 = .ok (.iconst 3, 1) := by decide +kernel
theorem dL_law_271 : decode cL_law 271 = .ok (.iadd, 1) := by decide +kernel
theorem dL_law_272 : decode cL_law 272 = .ok (.iaload, 1) := by decide +kernel
set_option maxRecDepth 20000 in
theorem ggL_law_X9_merge : GoodIn wsL_law wsX9_merge := goodIn_r _ [229, 101, 230, 102, 231, 200, 201, 5, 202, 155, 156, 157, 158, 159, 160, 161, 162, 163, 203, 204, 205, 206, 232, 233, 234, 235, 902, 903, 904, 905, 906, 907, 908, 909, 910, 911, 912, 913, 914, 915, 916, 917, 918, 919, 920, 921, 922, 923, 924, 925, 926, 927, 928, 929, 930, 931, 932, 933, 934, 935, 936, 937, 938, 939, 940, 941, 942, 943, 944, 945, 946, 947, 948, 949, 950, 951, 952] (by decide +kernel) (by decide +kernel)
set_option maxRecDepth 20000 in
theorem gL_law_X9_merge : GoodIn wsL_law (wsV RL 27 RX9 yX9_merge wsX9_merge) := goodIn_app (goodIn_of _ (by decide +kernel)) ggL_law_X9_merge
theorem dL_law_273 : decode cL_law 273 = .ok (.invokevirtual 27, 3) := by decide +kernel
theorem dL_law_276 : decode cL_law 276 = .ok (.if_icmp .eq 958, 3) := by decide +kernel
theorem dL_law_281 : decode cL_law 281 = .ok (.aload_n 1, 1) := by decide +kernel
theorem dL_law_282 : decode cL_law 282 = .ok (.aload_n 0, 1) := by decide +kernel
theorem dL_law_283 : decode cL_law 283 = .ok (.iload_n 3, 1) := by decide +kernel
theorem dL_law_284 : decode cL_law 284 = .ok (.iconst 1, 1) := by decide +kernel
theorem dL_law_285 : decode cL_law 285 = .ok (.iadd, 1) := by decide +kernel
theorem dL_law_286 : decode cL_law 286 = .ok (.iaload, 1) := by decide +kernel
theorem dL_law_287 : decode cL_law 287 = .ok (.aload_n 0, 1) := by decide +kernel
theorem dL_law_288 : decode cL_law 288 = .ok (.iload_n 3, 1) := by decide +kernel
theorem dL_law_289 : decode cL_law 289 = .ok (.iconst 2, 1) := by decide +kernel
theorem dL_law_290 : decode cL_law 290 = .ok (.iadd, 1) := by decide +kernel
theorem dL_law_291 : decode cL_law 291 = .ok (.iaload, 1) := by decide +kernel
set_option maxRecDepth 20000 in
theorem ggL_law_X8_leads : GoodIn wsL_law wsX8_leads := goodIn_r _ [239, 20, 180, 181, 2, 182, 137, 138, 139, 140, 218, 19, 219, 220, 58, 57, 221, 215, 216, 217, 885, 886, 887, 888, 889, 890, 891, 892, 893, 894, 895, 896, 897, 898, 899, 900, 901, 960, 961, 962] (by decide +kernel) (by decide +kernel)
set_option maxRecDepth 20000 in
theorem gL_law_X8_leads : GoodIn wsL_law (wsV RL 28 RX8 yX8_leads wsX8_leads) := goodIn_app (goodIn_of _ (by decide +kernel)) ggL_law_X8_leads
theorem dL_law_292 : decode cL_law 292 = .ok (.invokevirtual 28, 3) := by decide +kernel
theorem dL_law_295 : decode cL_law 295 = .ok (.aload_n 2, 1) := by decide +kernel
theorem dL_law_296 : decode cL_law 296 = .ok (.aload_n 0, 1) := by decide +kernel
theorem dL_law_297 : decode cL_law 297 = .ok (.iload_n 3, 1) := by decide +kernel
theorem dL_law_298 : decode cL_law 298 = .ok (.iconst 1, 1) := by decide +kernel
theorem dL_law_299 : decode cL_law 299 = .ok (.iadd, 1) := by decide +kernel
theorem dL_law_300 : decode cL_law 300 = .ok (.iaload, 1) := by decide +kernel
theorem dL_law_301 : decode cL_law 301 = .ok (.aload_n 0, 1) := by decide +kernel
theorem dL_law_302 : decode cL_law 302 = .ok (.iload_n 3, 1) := by decide +kernel
theorem dL_law_303 : decode cL_law 303 = .ok (.iconst 2, 1) := by decide +kernel
theorem dL_law_304 : decode cL_law 304 = .ok (.iadd, 1) := by decide +kernel
theorem dL_law_305 : decode cL_law 305 = .ok (.iaload, 1) := by decide +kernel
set_option maxRecDepth 20000 in
theorem ggL_law_X9_leads : GoodIn wsL_law wsX9_leads := goodIn_r _ [243, 203, 204, 5, 205, 206, 156, 157, 158, 200, 201, 202, 155, 232, 233, 234, 235, 101, 102, 902, 903, 904, 905, 906, 907, 908, 909, 910, 911, 912, 913, 914, 915, 916, 917, 918, 919, 920, 921, 922, 923, 924, 925, 926, 927, 928, 929, 930, 931, 932, 933, 934, 935, 936, 937, 938, 939, 940, 941, 942, 943, 944, 945, 946, 947, 948, 949, 950, 951, 952] (by decide +kernel) (by decide +kernel)
set_option maxRecDepth 20000 in
theorem gL_law_X9_leads : GoodIn wsL_law (wsV RL 32 RX9 yX9_leads wsX9_leads) := goodIn_app (goodIn_of _ (by decide +kernel)) ggL_law_X9_leads
theorem dL_law_306 : decode cL_law 306 = .ok (.invokevirtual 32, 3) := by decide +kernel
theorem dL_law_309 : decode cL_law 309 = .ok (.if_icmp .eq 925, 3) := by decide +kernel
theorem dL_law_314 : decode cL_law 314 = .ok (.aload_n 1, 1) := by decide +kernel
theorem dL_law_315 : decode cL_law 315 = .ok (.aload_n 0, 1) := by decide +kernel
theorem dL_law_316 : decode cL_law 316 = .ok (.iload_n 3, 1) := by decide +kernel
theorem dL_law_317 : decode cL_law 317 = .ok (.iconst 1, 1) := by decide +kernel
theorem dL_law_318 : decode cL_law 318 = .ok (.iadd, 1) := by decide +kernel
theorem dL_law_319 : decode cL_law 319 = .ok (.iaload, 1) := by decide +kernel
set_option maxRecDepth 20000 in
theorem ggL_law_X8_erase : GoodIn wsL_law wsX8_erase := goodIn_r _ [247, 248, 249, 250, 2, 251, 22, 252, 40, 16, 180, 181, 182, 253, 254, 255, 256, 257, 32, 258, 259, 260, 261, 262, 263, 264, 265, 266, 267, 268, 269, 39, 270, 271, 272, 87, 90, 273, 274, 15, 275, 276, 186, 49, 277, 278, 279, 280, 50, 51, 52, 53, 141, 142, 143, 144, 145, 146, 147, 148, 149, 885, 886, 887, 888, 889, 890, 891, 892, 893, 894, 895, 896, 897, 898, 899, 900, 901, 989, 990, 991, 992, 993, 994, 995, 996, 984, 985, 986, 987, 988, 953, 954, 955, 956, 957, 958, 959] (by decide +kernel) (by decide +kernel)
set_option maxRecDepth 20000 in
theorem gL_law_X8_erase : GoodIn wsL_law (wsV RL 33 RX8 yX8_erase wsX8_erase) := goodIn_app (goodIn_of _ (by decide +kernel)) ggL_law_X8_erase
theorem dL_law_320 : decode cL_law 320 = .ok (.invokevirtual 33, 3) := by decide +kernel
theorem dL_law_323 : decode cL_law 323 = .ok (.aload_n 2, 1) := by decide +kernel
theorem dL_law_324 : decode cL_law 324 = .ok (.aload_n 0, 1) := by decide +kernel
theorem dL_law_325 : decode cL_law 325 = .ok (.iload_n 3, 1) := by decide +kernel
theorem dL_law_326 : decode cL_law 326 = .ok (.iconst 1, 1) := by decide +kernel
theorem dL_law_327 : decode cL_law 327 = .ok (.iadd, 1) := by decide +kernel
theorem dL_law_328 : decode cL_law 328 = .ok (.iaload, 1) := by decide +kernel
set_option maxRecDepth 20000 in
theorem ggL_law_X9_erase : GoodIn wsL_law wsX9_erase := goodIn_r _ [284, 103, 199, 95, 100, 121, 203, 204, 5, 205, 206, 156, 157, 158, 159, 160, 161, 162, 163, 902, 903, 904, 905, 906, 907, 908, 909, 910, 911, 912, 913, 914, 915, 916, 917, 918, 919, 920, 921, 922, 923, 924, 925, 926, 927, 928, 929, 930, 931, 932, 933, 934, 935, 936, 937, 938, 939, 940, 941, 942, 943, 944, 945, 946, 947, 948, 949, 950, 951, 952] (by decide +kernel) (by decide +kernel)
set_option maxRecDepth 20000 in
theorem gL_law_X9_erase : GoodIn wsL_law (wsV RL 36 RX9 yX9_erase wsX9_erase) := goodIn_app (goodIn_of _ (by decide +kernel)) ggL_law_X9_erase
theorem dL_law_329 : decode cL_law 329 = .ok (.invokevirtual 36, 3) := by decide +kernel
theorem dL_law_332 : decode cL_law 332 = .ok (.if_icmp .eq 902, 3) := by decide +kernel
theorem dL_law_337 : decode cL_law 337 = .ok (.aload_n 1, 1) := by decide +kernel
theorem dL_law_338 : decode cL_law 338 = .ok (.aload_n 0, 1) := by decide +kernel
theorem dL_law_339 : decode cL_law 339 = .ok (.iload_n 3, 1) := by decide +kernel
theorem dL_law_340 : decode cL_law 340 = .ok (.iconst 1, 1) := by decide +kernel
theorem dL_law_341 : decode cL_law 341 = .ok (.iadd, 1) := by decide +kernel
theorem dL_law_342 : decode cL_law 342 = .ok (.iaload, 1) := by decide +kernel
theorem dL_law_343 : decode cL_law 343 = .ok (.aload_n 0, 1) := by decide +kernel
theorem dL_law_344 : decode cL_law 344 = .ok (.iload_n 3, 1) := by decide +kernel
theorem dL_law_345 : decode cL_law 345 = .ok (.iconst 2, 1) := by decide +kernel
theorem dL_law_346 : decode cL_law 346 = .ok (.iadd, 1) := by decide +kernel
theorem dL_law_347 : decode cL_law 347 = .ok (.iaload, 1) := by decide +kernel
theorem dL_law_348 : decode cL_law 348 = .ok (.aload_n 0, 1) := by decide +kernel
theorem dL_law_349 : decode cL_law 349 = .ok (.iload_n 3, 1) := by decide +kernel
theorem dL_law_350 : decode cL_law 350 = .ok (.iconst 3, 1) := by decide +kernel
theorem dL_law_351 : decode cL_law 351 = .ok (.iadd, 1) := by decide +kernel
theorem dL_law_352 : decode cL_law 352 = .ok (.iaload, 1) := by decide +kernel
theorem dL_law_353 : decode cL_law 353 = .ok (.aload_n 0, 1) := by decide +kernel
theorem dL_law_354 : decode cL_law 354 = .ok (.iload_n 3, 1) := by decide +kernel
theorem dL_law_355 : decode cL_law 355 = .ok (.iconst 4, 1) := by decide +kernel
theorem dL_law_356 : decode cL_law 356 = .ok (.iadd, 1) := by decide +kernel
theorem dL_law_357 : decode cL_law 357 = .ok (.iaload, 1) := by decide +kernel
theorem dL_law_358 : decode cL_law 358 = .ok (.aload_n 0, 1) := by decide +kernel
theorem dL_law_359 : decode cL_law 359 = .ok (.iload_n 3, 1) := by decide +kernel
theorem dL_law_360 : decode cL_law 360 = .ok (.iconst 5, 1) := by decide +kernel
theorem dL_law_361 : decode cL_law 361 = .ok (.iadd, 1) := by decide +kernel
theorem dL_law_362 : decode cL_law 362 = .ok (.iaload, 1) := by decide +kernel
set_option maxRecDepth 20000 in
theorem ggL_law_X8_feed : GoodIn wsL_law wsX8_feed := goodIn_r _ [288, 26, 289, 25, 290, 291, 292, 66, 885, 886, 887, 888, 889, 890, 891, 892, 893, 894, 895, 896, 897, 898, 899, 900, 901, 963, 964] (by decide +kernel) (by decide +kernel)
set_option maxRecDepth 20000 in
theorem gL_law_X8_feed : GoodIn wsL_law (wsV RL 37 RX8 yX8_feed wsX8_feed) := goodIn_app (goodIn_of _ (by decide +kernel)) ggL_law_X8_feed
theorem dL_law_363 : decode cL_law 363 = .ok (.invokevirtual 37, 3) := by decide +kernel
theorem dL_law_366 : decode cL_law 366 = .ok (.aload_n 2, 1) := by decide +kernel
theorem dL_law_367 : decode cL_law 367 = .ok (.aload_n 0, 1) := by decide +kernel
theorem dL_law_368 : decode cL_law 368 = .ok (.iload_n 3, 1) := by decide +kernel
theorem dL_law_369 : decode cL_law 369 = .ok (.iconst 1, 1) := by decide +kernel
theorem dL_law_370 : decode cL_law 370 = .ok (.iadd, 1) := by decide +kernel
theorem dL_law_371 : decode cL_law 371 = .ok (.iaload, 1) := by decide +kernel
theorem dL_law_372 : decode cL_law 372 = .ok (.aload_n 0, 1) := by decide +kernel
theorem dL_law_373 : decode cL_law 373 = .ok (.iload_n 3, 1) := by decide +kernel
theorem dL_law_374 : decode cL_law 374 = .ok (.iconst 2, 1) := by decide +kernel
theorem dL_law_375 : decode cL_law 375 = .ok (.iadd, 1) := by decide +kernel
theorem dL_law_376 : decode cL_law 376 = .ok (.iaload, 1) := by decide +kernel
theorem dL_law_377 : decode cL_law 377 = .ok (.aload_n 0, 1) := by decide +kernel
theorem dL_law_378 : decode cL_law 378 = .ok (.iload_n 3, 1) := by decide +kernel
theorem dL_law_379 : decode cL_law 379 = .ok (.iconst 3, 1) := by decide +kernel
theorem dL_law_380 : decode cL_law 380 = .ok (.iadd, 1) := by decide +kernel
theorem dL_law_381 : decode cL_law 381 = .ok (.iaload, 1) := by decide +kernel
theorem dL_law_382 : decode cL_law 382 = .ok (.aload_n 0, 1) := by decide +kernel
theorem dL_law_383 : decode cL_law 383 = .ok (.iload_n 3, 1) := by decide +kernel
theorem dL_law_384 : decode cL_law 384 = .ok (.iconst 4, 1) := by decide +kernel
theorem dL_law_385 : decode cL_law 385 = .ok (.iadd, 1) := by decide +kernel
theorem dL_law_386 : decode cL_law 386 = .ok (.iaload, 1) := by decide +kernel
theorem dL_law_387 : decode cL_law 387 = .ok (.aload_n 0, 1) := by decide +kernel
theorem dL_law_388 : decode cL_law 388 = .ok (.iload_n 3, 1) := by decide +kernel
theorem dL_law_389 : decode cL_law 389 = .ok (.iconst 5, 1) := by decide +kernel
theorem dL_law_390 : decode cL_law 390 = .ok (.iadd, 1) := by decide +kernel
theorem dL_law_391 : decode cL_law 391 = .ok (.iaload, 1) := by decide +kernel
set_option maxRecDepth 20000 in
theorem ggL_law_X9_feed : GoodIn wsL_law wsX9_feed := goodIn_r _ [296, 297, 107, 105, 902, 903, 904, 905, 906, 907, 908, 909, 910, 911, 912, 913, 914, 915, 916, 917, 918, 919, 920, 921, 922, 923, 924, 925, 926, 927, 928, 929, 930, 931, 932, 933, 934, 935, 936, 937, 938, 939, 940, 941, 942, 943, 944, 945, 946, 947, 948, 949, 950, 951, 952] (by decide +kernel) (by decide +kernel)
set_option maxRecDepth 20000 in
theorem gL_law_X9_feed : GoodIn wsL_law (wsV RL 40 RX9 yX9_feed wsX9_feed) := goodIn_app (goodIn_of _ (by decide +kernel)) ggL_law_X9_feed
theorem dL_law_392 : decode cL_law 392 = .ok (.invokevirtual 40, 3) := by decide +kernel
theorem dL_law_395 : decode cL_law 395 = .ok (.if_icmp .eq 839, 3) := by decide +kernel
theorem dL_law_400 : decode cL_law 400 = .ok (.aload_n 1, 1) := by decide +kernel
theorem dL_law_401 : decode cL_law 401 = .ok (.aload_n 0, 1) := by decide +kernel
theorem dL_law_402 : decode cL_law 402 = .ok (.iload_n 3, 1) := by decide +kernel
theorem dL_law_403 : decode cL_law 403 = .ok (.iconst 1, 1) := by decide +kernel
theorem dL_law_404 : decode cL_law 404 = .ok (.iadd, 1) := by decide +kernel
theorem dL_law_405 : decode cL_law 405 = .ok (.iaload, 1) := by decide +kernel
set_option maxRecDepth 20000 in
theorem ggL_law_X8_end : GoodIn wsL_law wsX8_end := goodIn_r _ [301, 26, 885, 886, 887, 888, 889, 890, 891, 892, 893, 894, 895, 896, 897, 898, 899, 900, 901, 963, 964] (by decide +kernel) (by decide +kernel)
set_option maxRecDepth 20000 in
theorem gL_law_X8_end : GoodIn wsL_law (wsV RL 41 RX8 yX8_end wsX8_end) := goodIn_app (goodIn_of _ (by decide +kernel)) ggL_law_X8_end
theorem dL_law_406 : decode cL_law 406 = .ok (.invokevirtual 41, 3) := by decide +kernel
theorem dL_law_409 : decode cL_law 409 = .ok (.aload_n 2, 1) := by decide +kernel
theorem dL_law_410 : decode cL_law 410 = .ok (.aload_n 0, 1) := by decide +kernel
theorem dL_law_411 : decode cL_law 411 = .ok (.iload_n 3, 1) := by decide +kernel
theorem dL_law_412 : decode cL_law 412 = .ok (.iconst 1, 1) := by decide +kernel
theorem dL_law_413 : decode cL_law 413 = .ok (.iadd, 1) := by decide +kernel
theorem dL_law_414 : decode cL_law 414 = .ok (.iaload, 1) := by decide +kernel
set_option maxRecDepth 20000 in
theorem ggL_law_X9_end : GoodIn wsL_law wsX9_end := goodIn_r _ [305, 297, 902, 903, 904, 905, 906, 907, 908, 909, 910, 911, 912, 913, 914, 915, 916, 917, 918, 919, 920, 921, 922, 923, 924, 925, 926, 927, 928, 929, 930, 931, 932, 933, 934, 935, 936, 937, 938, 939, 940, 941, 942, 943, 944, 945, 946, 947, 948, 949, 950, 951, 952] (by decide +kernel) (by decide +kernel)
set_option maxRecDepth 20000 in
theorem gL_law_X9_end : GoodIn wsL_law (wsV RL 44 RX9 yX9_end wsX9_end) := goodIn_app (goodIn_of _ (by decide +kernel)) ggL_law_X9_end
theorem dL_law_415 : decode cL_law 415 = .ok (.invokevirtual 44, 3) := by decide +kernel
theorem dL_law_418 : decode cL_law 418 = .ok (.if_icmp .eq 816, 3) := by decide +kernel
theorem dL_law_423 : decode cL_law 423 = .ok (.aload_n 1, 1) := by decide +kernel
set_option maxRecDepth 20000 in
theorem ggL_law_X8_trait : GoodIn wsL_law wsX8_trait := goodIn_r _ [309, 257, 26, 310, 311, 312, 2, 313, 30, 45, 32, 31, 314, 259, 315, 29, 316, 317, 318, 319, 320, 321, 322, 323, 324, 72, 325, 326, 327, 328, 329, 146, 147, 148, 330, 331, 332, 333, 334, 335, 336, 337, 338, 339, 340, 341, 342, 343, 344, 345, 346, 347, 348, 349, 350, 351, 352, 353, 354, 355, 356, 357, 358, 359, 360, 361, 362, 363, 364, 365, 366, 367, 368, 369, 370, 371, 372, 373, 374, 375, 376, 377, 378, 379, 380, 381, 382, 383, 384, 385, 386, 387, 388, 389, 390, 391, 392, 393, 394, 395, 396, 397, 398, 399, 400, 401, 71, 70, 402, 403, 404, 405, 406, 11, 12, 407, 408, 409, 410, 411, 412, 413, 414, 415, 416, 417, 418, 419, 420, 421, 422, 423, 424, 425, 426, 427, 428, 429, 430, 431, 432, 433, 434, 435, 436, 437, 438, 439, 440, 441, 442, 443, 444, 445, 446, 447, 448, 449, 450, 451, 452, 453, 454, 455, 456, 253, 254, 255, 256, 457, 458, 459, 460, 461, 462, 78, 267, 41, 268, 463, 464, 465, 466, 467, 468, 469, 470, 262, 471, 472, 61, 473, 474, 60, 62, 141, 142, 143, 144, 145, 149, 885, 886, 887, 888, 889, 890, 891, 892, 893, 894, 895, 896, 897, 898, 899, 900, 901, 963, 964, 965, 966, 967, 968, 969, 970, 971, 972, 973, 989, 990, 991, 992, 993, 994, 995, 996, 997, 998, 999, 1000] (by decide +kernel) (by decide +kernel)
set_option maxRecDepth 20000 in
theorem gL_law_X8_trait : GoodIn wsL_law (wsV RL 45 RX8 yX8_trait wsX8_trait) := goodIn_app (goodIn_of _ (by decide +kernel)) ggL_law_X8_trait
theorem dL_law_424 : decode cL_law 424 = .ok (.invokevirtual 45, 3) := by decide +kernel
theorem dL_law_427 : decode cL_law 427 = .ok (.aload_n 2, 1) := by decide +kernel
set_option maxRecDepth 20000 in
theorem ggL_law_X9_trait : GoodIn wsL_law wsX9_trait := goodIn_r _ [478, 297, 479, 480, 481, 482, 483, 484, 485, 486, 106, 108, 119, 230, 118, 159, 160, 161, 5, 162, 163, 487, 488, 489, 490, 105, 491, 492, 493, 494, 495, 496, 497, 498, 499, 500, 501, 502, 503, 504, 505, 506, 507, 508, 509, 510, 511, 512, 513, 109, 110, 111, 112, 514, 515, 516, 517, 518, 519, 520, 521, 522, 523, 524, 525, 526, 527, 528, 529, 530, 531, 532, 533, 534, 535, 536, 537, 538, 539, 540, 541, 542, 543, 544, 545, 546, 547, 548, 549, 550, 551, 552, 553, 554, 555, 556, 557, 558, 902, 903, 904, 905, 906, 907, 908, 909, 910, 911, 912, 913, 914, 915, 916, 917, 918, 919, 920, 921, 922, 923, 924, 925, 926, 927, 928, 929, 930, 931, 932, 933, 934, 935, 936, 937, 938, 939, 940, 941, 942, 943, 944, 945, 946, 947, 948, 949, 950, 951, 952] (by decide +kernel) (by decide +kernel)
set_option maxRecDepth 20000 in
theorem gL_law_X9_trait : GoodIn wsL_law (wsV RL 49 RX9 yX9_trait wsX9_trait) := goodIn_app (goodIn_of _ (by decide +kernel)) ggL_law_X9_trait
theorem dL_law_428 : decode cL_law 428 = .ok (.invokevirtual 49, 3) := by decide +kernel
theorem dL_law_431 : decode cL_law 431 = .ok (.if_icmp .eq 803, 3) := by decide +kernel
theorem dL_law_436 : decode cL_law 436 = .ok (.aload_n 1, 1) := by decide +kernel
set_option maxRecDepth 20000 in
theorem ggL_law_X8_fault : GoodIn wsL_law wsX8_fault := goodIn_r _ [562, 45, 885, 886, 887, 888, 889, 890, 891, 892, 893, 894, 895, 896, 897, 898, 899, 900, 901] (by decide +kernel) (by decide +kernel)
set_option maxRecDepth 20000 in
theorem gL_law_X8_fault : GoodIn wsL_law (wsV RL 50 RX8 yX8_fault wsX8_fault) := goodIn_app (goodIn_of _ (by decide +kernel)) ggL_law_X8_fault
theorem dL_law_437 : decode cL_law 437 = .ok (.invokevirtual 50, 3) := by decide +kernel
theorem dL_law_440 : decode cL_law 440 = .ok (.aload_n 2, 1) := by decide +kernel
set_option maxRecDepth 20000 in
theorem ggL_law_X9_fault : GoodIn wsL_law wsX9_fault := goodIn_r _ [566, 106, 902, 903, 904, 905, 906, 907, 908, 909, 910, 911, 912, 913, 914, 915, 916, 917, 918, 919, 920, 921, 922, 923, 924, 925, 926, 927, 928, 929, 930, 931, 932, 933, 934, 935, 936, 937, 938, 939, 940, 941, 942, 943, 944, 945, 946, 947, 948, 949, 950, 951, 952] (by decide +kernel) (by decide +kernel)
set_option maxRecDepth 20000 in
theorem gL_law_X9_fault : GoodIn wsL_law (wsV RL 53 RX9 yX9_fault wsX9_fault) := goodIn_app (goodIn_of _ (by decide +kernel)) ggL_law_X9_fault
theorem dL_law_441 : decode cL_law 441 = .ok (.invokevirtual 53, 3) := by decide +kernel
theorem dL_law_444 : decode cL_law 444 = .ok (.if_icmp .eq 790, 3) := by decide +kernel
set_option maxHeartbeats 4000000 in
set_option maxRecDepth 100000 in
theorem law_tail {p : Program} {l : Launch} {e : Env} {s : State} {m : MethodId} {below : List Frame} {meth : Method} {c : Code} {dC : Nat → ClassId} {dI : Nat → Nat → Nat} {b L : Nat} {xs : Nat → Int32} (hL : L = 11) (C0 : lw_At p s m meth c b L xs) {H : Heap} {locs : List Loc} (hS : va_S (fun q : Nat => s.heap.size ≤ q) s.heap H locs) {ls : Array Slot} (hl : lv_has ls 4 [(3, .int 0), (0, .ref b)]) : W p l e room_1 s m #[Value.ref b] below meth c H locs 600000 7302250 (lw_Z below #[Value.ref b] s) (F0 m 1234 ls []) := by
  obtain ⟨hx, hb, hr, hml, hown, hts, hX, hbl, hlocks, hgv⟩ := id C0
  have hbA : ¬ (fun q : Nat => s.heap.size ≤ q) b := Nat.not_le.mpr hbl
  subst hL
  refine lv_iinc (v := 11) (lv' := [(3, .int 11), (0, .ref b)]) hx hb dL_law_1234 hl (k := 0) rfl (by decide) (by decide) rfl (fun ls hl => ?_)
  refine lv_goto (tgt := 18) hx hb dL_law_1237 (by decide) ?_
  refine lv_iload_n hx hb dL_law_18 rfl (lv_at hl 0 rfl) ?_
  refine lv_aload_n hx hb dL_law_19 rfl (lv_at hl 1 rfl) ?_
  refine va_slen hx hb hX hbl hbA hS dL_law_20 ?_
  refine lv_bipush (v := 11) hx hb dL_law_21 (by decide) ?_
  refine lv_isub hx hb dL_law_23 ?_
  refine lv_icmp_gt (tgt := 1240) hx hb dL_law_24 (by decide) (fun c_1 => ?_) (fun c_1 => absurd (by decide) c_1)
  refine lv_iconst (v := 1) hx hb dL_law_1240 (by decide) ?_
  refine va_forget (fun q hq => hS.2.2 q hq) ?_
  exact lw_ret hx hb hr hlocks dL_law_1241
set_option maxHeartbeats 4000000 in
set_option maxRecDepth 100000 in
theorem law_now {p : Program} {l : Launch} {e : Env} {s : State} {m : MethodId} {below : List Frame} {meth : Method} {c : Code} {dC : Nat → ClassId} {dI : Nat → Nat → Nat} {b L : Nat} {xs : Nat → Int32} (hL : L = 11) (C0 : lw_At p s m meth c b L xs) (hN : nw_ok s) (h0 : Nat) (hRows : Nat) (hMer : Nat) (hEra : Nat) (hTape : Nat) (hRea : Nat) (hTra : Nat) (hWor : Nat) (hPla : Nat) (hMod : Nat) (hHe1 : Nat) (hHe2 : Nat) (m0 : Nat) (m_rowPerson : Nat) (m_rowStream : Nat) (m_rowMoment : Nat) (m_rowKnown : Nat) (m_rowValue : Nat) (m_isGone : Nat) (m_mergeTo : Nat) (m_mergeKnown : Nat) (m_isErased : Nat) (m_tape : Nat) (m_five : Nat) (m_size0 : Nat) (m_step : Nat) (m_stepA : Nat) (m_stepB : Nat) (m_stepC : Nat) (m_values : Nat) (m_heap : Nat) (m_isOne : Nat) (m_lawFrom : Nat) (m_lawTo : Nat) (m_hasLaw : Nat) (m_limits : Nat) (m_held : Nat) (m_hasKept : Nat) (m_kept : Nat) (m_keptAt : Nat) (m_placeTrait : Nat) (m_placePerson : Nat) (m_placeMoment : Nat) (m_placeValue : Nat) (m_isFilled : Nat) (m_uses : Nat) (m_heapsOne : Nat) (m_heapsOther : Nat)  (H : Heap) (locs : List Loc) (hK : va_K (dC, dI) vwCl [] s) (hP : va_P (dC, dI) vwCl [(h0, .inr (8, [.ref hRows, .ref hMer, .ref hEra, .ref hTape, .ref hRea, .ref hTra, .ref hWor, .ref hPla, .ref hMod, .ref hHe1, .ref hHe2, .int 0, .int 0, .int 0, .int 0, .int (-1), .int 0])), (m0, .inr (9, [.int 0, .int 0, .int 0, .ref m_rowPerson, .ref m_rowStream, .ref m_rowMoment, .ref m_rowKnown, .ref m_rowValue, .ref m_isGone, .ref m_mergeTo, .ref m_mergeKnown, .int 0, .ref m_isErased, .ref m_tape, .int 0, .int 0, .int 0, .int 0, .int (-1), .int 0, .ref m_five, .int 0, .int 0, .int 0, .int 0, .ref m_size0, .ref m_step, .ref m_stepA, .ref m_stepB, .ref m_stepC, .ref m_values, .ref m_heap, .ref m_isOne, .ref m_lawFrom, .ref m_lawTo, .ref m_hasLaw, .ref m_limits, .ref m_held, .ref m_hasKept, .ref m_kept, .ref m_keptAt, .int 0, .ref m_placeTrait, .ref m_placePerson, .ref m_placeMoment, .ref m_placeValue, .ref m_isFilled, .int 0, .ref m_uses, .ref m_heapsOne, .ref m_heapsOther]))] H) (hD : va_D (fun q : Nat => s.heap.size ≤ q) [(h0, .inr (8, [.ref hRows, .ref hMer, .ref hEra, .ref hTape, .ref hRea, .ref hTra, .ref hWor, .ref hPla, .ref hMod, .ref hHe1, .ref hHe2, .int 0, .int 0, .int 0, .int 0, .int (-1), .int 0])), (m0, .inr (9, [.int 0, .int 0, .int 0, .ref m_rowPerson, .ref m_rowStream, .ref m_rowMoment, .ref m_rowKnown, .ref m_rowValue, .ref m_isGone, .ref m_mergeTo, .ref m_mergeKnown, .int 0, .ref m_isErased, .ref m_tape, .int 0, .int 0, .int 0, .int 0, .int (-1), .int 0, .ref m_five, .int 0, .int 0, .int 0, .int 0, .ref m_size0, .ref m_step, .ref m_stepA, .ref m_stepB, .ref m_stepC, .ref m_values, .ref m_heap, .ref m_isOne, .ref m_lawFrom, .ref m_lawTo, .ref m_hasLaw, .ref m_limits, .ref m_held, .ref m_hasKept, .ref m_kept, .ref m_keptAt, .int 0, .ref m_placeTrait, .ref m_placePerson, .ref m_placeMoment, .ref m_placeValue, .ref m_isFilled, .int 0, .ref m_uses, .ref m_heapsOne, .ref m_heapsOther]))]) (hS : va_S (fun q : Nat => s.heap.size ≤ q) s.heap H locs) (ls : Array Slot) (hl : lv_has ls 4 [(3, .int 0), (2, .ref m0), (1, .ref h0), (0, .ref b)]) : W p l e room_1 s m #[Value.ref b] below meth c H locs 600000 7302250 (lw_Z below #[Value.ref b] s) (F0 m 152 ls []) := by
  obtain ⟨hx, hb, hr, hml, hown, hts, hX, hbl, hlocks, hgv⟩ := id C0
  have hts := fun w h => hts w (wsL_law_in w h)
  have hown : s.vm.findClass RL = some m.cls := hown
  have hA : ∀ q : Nat, s.heap.size ≤ q → (fun q : Nat => s.heap.size ≤ q) q := fun _ h => h
  have hbA : ¬ (fun q : Nat => s.heap.size ≤ q) b := Nat.not_le.mpr hbl
  obtain ⟨z1, ez1⟩ : ∃ z : Int32, z = xs (1 : Int32).toNatClampNeg := ⟨_, rfl⟩
  refine lv_aload_n hx hb dL_law_152 rfl (lv_at hl 2 rfl) ?_
  refine lv_aload_n hx hb dL_law_153 rfl (lv_at hl 3 rfl) ?_
  refine lv_iload_n hx hb dL_law_154 rfl (lv_at hl 0 rfl) ?_
  refine lv_iconst (v := 1) hx hb dL_law_155 (by decide) ?_
  refine lv_iadd hx hb dL_law_156 ?_
  refine lv_topi (fun x_1 ex_1 => ?_)
  obtain rfl : x_1 = 1 := ex_1.trans (by decide)
  refine va_sld hx hb hX hbl hbA hS (vp_in_iff.mpr ⟨by decide, by rw [hL]; decide⟩) dL_law_157 ?_
  refine lv_topi (fun x_2 ex_2 => ?_)
  obtain rfl : z1 = x_2 := ez1.trans ex_2.symm
  have hPc := hP.sub (ws' := [(h0, .inr (8, [.ref hRows, .ref hMer, .ref hEra, .ref hTape, .ref hRea, .ref hTra, .ref hWor, .ref hPla, .ref hMod, .ref hHe1, .ref hHe2, .int 0, .int 0, .int 0, .int 0, .int (-1), .int 0]))]) [0] rfl
  have hDc := hD.sub (ws' := [(h0, .inr (8, [.ref hRows, .ref hMer, .ref hEra, .ref hTape, .ref hRea, .ref hTra, .ref hWor, .ref hPla, .ref hMod, .ref hHe1, .ref hHe2, .int 0, .int 0, .int 0, .int 0, .int (-1), .int 0]))]) [0] (by decide) rfl
  have hKc := hK.sub (tys' := []) [] rfl
  have hFc := va_free (wc := [(h0, .inr (8, [.ref hRows, .ref hMer, .ref hEra, .ref hTape, .ref hRea, .ref hTra, .ref hWor, .ref hPla, .ref hMod, .ref hHe1, .ref hHe2, .int 0, .int 0, .int 0, .int 0, .int (-1), .int 0]))]) hD hS hA [0] rfl
  refine va_calli (va_runV (As := [.int z1]) (rest := []) ⟨hx, hb, hml, hown, hts⟩ (c_X8_now l dC dI H.size h0 hRows hMer hEra hTape hRea hTra hWor hPla hMod hHe1 hHe2 z1 ) (cwV 1 hts gL_law_X8_now rfl rfl rfl (by decide +kernel) ⟨Nat.le_of_ble_eq_true rfl, Nat.le_of_ble_eq_true rfl⟩) ⟨fun a U g mk q => by obtain ⟨q0, q1, qP, qK, qD, qN⟩ := q; exact ⟨q0, q1, qP, va_K.moved (u := U) (U := U.calling g mk a) (Vm.Alike.refl U.vm) qK, qD, qN.same rfl⟩, va_recv hKc hPc (ci := 8) (q0 := 0) rfl rfl, fun U hU hW => ⟨rfl, by rw [hU], by rw [hU]; exact hPc, va_K.moved hW.alike hKc, hDc.weaken (fun _ _ _ _ => trivial), hN.warm hW⟩⟩ rfl rfl hl.1 rfl (lv_room (Nat.le_of_ble_eq_true rfl)) dL_law_158 ⟨Nat.le_of_ble_eq_true rfl, Nat.le_of_ble_eq_true rfl⟩) hS (fun q _ h => hFc q h) hFc (fun r_3 u_4 t H1 locs ht hvm hw_5 hB hz1 hk1 hS => ?_)
  try dsimp only at hw_5
  have hP1 : va_P (dC, dI) vwCl [] H1 := fun k q h => by simp at h
  have hD1 : va_D (va_A [(h0, .inr (8, [.ref hRows, .ref hMer, .ref hEra, .ref hTape, .ref hRea, .ref hTra, .ref hWor, .ref hPla, .ref hMod, .ref hHe1, .ref hHe2, .int 0, .int 0, .int 0, .int 0, .int (-1), .int 0]))] H.size) [] := ⟨fun i j p q h => by simp at h, fun k q h => by simp at h⟩
  have hK1 : va_K (dC, dI) vwCl [] s := hK.sub [] rfl
  obtain ⟨hP, hD⟩ := va_join (wr := [(m0, .inr (9, [.int 0, .int 0, .int 0, .ref m_rowPerson, .ref m_rowStream, .ref m_rowMoment, .ref m_rowKnown, .ref m_rowValue, .ref m_isGone, .ref m_mergeTo, .ref m_mergeKnown, .int 0, .ref m_isErased, .ref m_tape, .int 0, .int 0, .int 0, .int 0, .int (-1), .int 0, .ref m_five, .int 0, .int 0, .int 0, .int 0, .ref m_size0, .ref m_step, .ref m_stepA, .ref m_stepB, .ref m_stepC, .ref m_values, .ref m_heap, .ref m_isOne, .ref m_lawFrom, .ref m_lawTo, .ref m_hasLaw, .ref m_limits, .ref m_held, .ref m_hasKept, .ref m_kept, .ref m_keptAt, .int 0, .ref m_placeTrait, .ref m_placePerson, .ref m_placeMoment, .ref m_placeValue, .ref m_isFilled, .int 0, .ref m_uses, .ref m_heapsOne, .ref m_heapsOther]))]) (w1 := []) hP hD [0] [1] rfl rfl (by decide) (by decide) hk1 hFc hP1 hD1
  have hK := (hK.sub (tys' := []) [] rfl).app hK1
  generalize H1 = H at hP hS ⊢
  have hP : va_P (dC, dI) vwCl [(m0, .inr (9, [.int 0, .int 0, .int 0, .ref m_rowPerson, .ref m_rowStream, .ref m_rowMoment, .ref m_rowKnown, .ref m_rowValue, .ref m_isGone, .ref m_mergeTo, .ref m_mergeKnown, .int 0, .ref m_isErased, .ref m_tape, .int 0, .int 0, .int 0, .int 0, .int (-1), .int 0, .ref m_five, .int 0, .int 0, .int 0, .int 0, .ref m_size0, .ref m_step, .ref m_stepA, .ref m_stepB, .ref m_stepC, .ref m_values, .ref m_heap, .ref m_isOne, .ref m_lawFrom, .ref m_lawTo, .ref m_hasLaw, .ref m_limits, .ref m_held, .ref m_hasKept, .ref m_kept, .ref m_keptAt, .int 0, .ref m_placeTrait, .ref m_placePerson, .ref m_placeMoment, .ref m_placeValue, .ref m_isFilled, .int 0, .ref m_uses, .ref m_heapsOne, .ref m_heapsOther]))] H := hP
  have hD : va_D (fun q : Nat => s.heap.size ≤ q) [(m0, .inr (9, [.int 0, .int 0, .int 0, .ref m_rowPerson, .ref m_rowStream, .ref m_rowMoment, .ref m_rowKnown, .ref m_rowValue, .ref m_isGone, .ref m_mergeTo, .ref m_mergeKnown, .int 0, .ref m_isErased, .ref m_tape, .int 0, .int 0, .int 0, .int 0, .int (-1), .int 0, .ref m_five, .int 0, .int 0, .int 0, .int 0, .ref m_size0, .ref m_step, .ref m_stepA, .ref m_stepB, .ref m_stepC, .ref m_values, .ref m_heap, .ref m_isOne, .ref m_lawFrom, .ref m_lawTo, .ref m_hasLaw, .ref m_limits, .ref m_held, .ref m_hasKept, .ref m_kept, .ref m_keptAt, .int 0, .ref m_placeTrait, .ref m_placePerson, .ref m_placeMoment, .ref m_placeValue, .ref m_isFilled, .int 0, .ref m_uses, .ref m_heapsOne, .ref m_heapsOther]))] := hD
  have hK : va_K (dC, dI) vwCl [] s := hK
  refine lv_aload_n hx hb dL_law_161 rfl (lv_at hl 1 rfl) ?_
  refine lv_aload_n hx hb dL_law_162 rfl (lv_at hl 3 rfl) ?_
  refine lv_iload_n hx hb dL_law_163 rfl (lv_at hl 0 rfl) ?_
  refine lv_iconst (v := 1) hx hb dL_law_164 (by decide) ?_
  refine lv_iadd hx hb dL_law_165 ?_
  refine lv_topi (fun x_6 ex_6 => ?_)
  obtain rfl : x_6 = 1 := ex_6.trans (by decide)
  refine va_sld hx hb hX hbl hbA hS (vp_in_iff.mpr ⟨by decide, by rw [hL]; decide⟩) dL_law_166 ?_
  refine lv_topi (fun x_7 ex_7 => ?_)
  obtain rfl : z1 = x_7 := ez1.trans ex_7.symm
  have hPc := hP.sub (ws' := [(m0, .inr (9, [.int 0, .int 0, .int 0, .ref m_rowPerson, .ref m_rowStream, .ref m_rowMoment, .ref m_rowKnown, .ref m_rowValue, .ref m_isGone, .ref m_mergeTo, .ref m_mergeKnown, .int 0, .ref m_isErased, .ref m_tape, .int 0, .int 0, .int 0, .int 0, .int (-1), .int 0, .ref m_five, .int 0, .int 0, .int 0, .int 0, .ref m_size0, .ref m_step, .ref m_stepA, .ref m_stepB, .ref m_stepC, .ref m_values, .ref m_heap, .ref m_isOne, .ref m_lawFrom, .ref m_lawTo, .ref m_hasLaw, .ref m_limits, .ref m_held, .ref m_hasKept, .ref m_kept, .ref m_keptAt, .int 0, .ref m_placeTrait, .ref m_placePerson, .ref m_placeMoment, .ref m_placeValue, .ref m_isFilled, .int 0, .ref m_uses, .ref m_heapsOne, .ref m_heapsOther]))]) [0] rfl
  have hDc := hD.sub (ws' := [(m0, .inr (9, [.int 0, .int 0, .int 0, .ref m_rowPerson, .ref m_rowStream, .ref m_rowMoment, .ref m_rowKnown, .ref m_rowValue, .ref m_isGone, .ref m_mergeTo, .ref m_mergeKnown, .int 0, .ref m_isErased, .ref m_tape, .int 0, .int 0, .int 0, .int 0, .int (-1), .int 0, .ref m_five, .int 0, .int 0, .int 0, .int 0, .ref m_size0, .ref m_step, .ref m_stepA, .ref m_stepB, .ref m_stepC, .ref m_values, .ref m_heap, .ref m_isOne, .ref m_lawFrom, .ref m_lawTo, .ref m_hasLaw, .ref m_limits, .ref m_held, .ref m_hasKept, .ref m_kept, .ref m_keptAt, .int 0, .ref m_placeTrait, .ref m_placePerson, .ref m_placeMoment, .ref m_placeValue, .ref m_isFilled, .int 0, .ref m_uses, .ref m_heapsOne, .ref m_heapsOther]))]) [0] (by decide) rfl
  have hKc := hK.sub (tys' := []) [] rfl
  have hFc := va_free (wc := [(m0, .inr (9, [.int 0, .int 0, .int 0, .ref m_rowPerson, .ref m_rowStream, .ref m_rowMoment, .ref m_rowKnown, .ref m_rowValue, .ref m_isGone, .ref m_mergeTo, .ref m_mergeKnown, .int 0, .ref m_isErased, .ref m_tape, .int 0, .int 0, .int 0, .int 0, .int (-1), .int 0, .ref m_five, .int 0, .int 0, .int 0, .int 0, .ref m_size0, .ref m_step, .ref m_stepA, .ref m_stepB, .ref m_stepC, .ref m_values, .ref m_heap, .ref m_isOne, .ref m_lawFrom, .ref m_lawTo, .ref m_hasLaw, .ref m_limits, .ref m_held, .ref m_hasKept, .ref m_kept, .ref m_keptAt, .int 0, .ref m_placeTrait, .ref m_placePerson, .ref m_placeMoment, .ref m_placeValue, .ref m_isFilled, .int 0, .ref m_uses, .ref m_heapsOne, .ref m_heapsOther]))]) hD hS hA [0] rfl
  refine va_calli (va_runV (As := [.int z1]) (rest := [.int r_3]) ⟨hx, hb, hml, hown, hts⟩ (c_X9_now l dC dI H.size m0 m_rowPerson m_rowStream m_rowMoment m_rowKnown m_rowValue m_isGone m_mergeTo m_mergeKnown m_isErased m_tape m_five m_size0 m_step m_stepA m_stepB m_stepC m_values m_heap m_isOne m_lawFrom m_lawTo m_hasLaw m_limits m_held m_hasKept m_kept m_keptAt m_placeTrait m_placePerson m_placeMoment m_placeValue m_isFilled m_uses m_heapsOne m_heapsOther z1 ) (cwV 1 hts gL_law_X9_now rfl rfl rfl (by decide +kernel) ⟨Nat.le_of_ble_eq_true rfl, Nat.le_of_ble_eq_true rfl⟩) ⟨fun a U g mk q => by obtain ⟨q0, q1, qP, qK, qD, qN⟩ := q; exact ⟨q0, q1, qP, va_K.moved (u := U) (U := U.calling g mk a) (Vm.Alike.refl U.vm) qK, qD, qN.same rfl⟩, va_recv hKc hPc (ci := 9) (q0 := 0) rfl rfl, fun U hU hW => ⟨rfl, by rw [hU], by rw [hU]; exact hPc, va_K.moved hW.alike hKc, hDc.weaken (fun _ _ _ _ => trivial), hN.warm hW⟩⟩ rfl rfl hl.1 rfl (lv_room (Nat.le_of_ble_eq_true rfl)) dL_law_167 ⟨Nat.le_of_ble_eq_true rfl, Nat.le_of_ble_eq_true rfl⟩) hS (fun q _ h => hFc q h) hFc (fun r_8 u_9 t H1 locs ht hvm hw_10 hB hz1 hk1 hS => ?_)
  try dsimp only at hw_10
  have hP1 : va_P (dC, dI) vwCl [] H1 := fun k q h => by simp at h
  have hD1 : va_D (va_A [(m0, .inr (9, [.int 0, .int 0, .int 0, .ref m_rowPerson, .ref m_rowStream, .ref m_rowMoment, .ref m_rowKnown, .ref m_rowValue, .ref m_isGone, .ref m_mergeTo, .ref m_mergeKnown, .int 0, .ref m_isErased, .ref m_tape, .int 0, .int 0, .int 0, .int 0, .int (-1), .int 0, .ref m_five, .int 0, .int 0, .int 0, .int 0, .ref m_size0, .ref m_step, .ref m_stepA, .ref m_stepB, .ref m_stepC, .ref m_values, .ref m_heap, .ref m_isOne, .ref m_lawFrom, .ref m_lawTo, .ref m_hasLaw, .ref m_limits, .ref m_held, .ref m_hasKept, .ref m_kept, .ref m_keptAt, .int 0, .ref m_placeTrait, .ref m_placePerson, .ref m_placeMoment, .ref m_placeValue, .ref m_isFilled, .int 0, .ref m_uses, .ref m_heapsOne, .ref m_heapsOther]))] H.size) [] := ⟨fun i j p q h => by simp at h, fun k q h => by simp at h⟩
  have hK1 : va_K (dC, dI) vwCl [] s := hK.sub [] rfl
  obtain ⟨hP, hD⟩ := va_join (wr := []) (w1 := []) hP hD [0] [] rfl rfl (by decide) (by decide) hk1 hFc hP1 hD1
  have hK := (hK.sub (tys' := []) [] rfl).app hK1
  generalize H1 = H at hP hS ⊢
  have hP : va_P (dC, dI) vwCl [] H := hP
  have hD : va_D (fun q : Nat => s.heap.size ≤ q) [] := hD
  have hK : va_K (dC, dI) vwCl [] s := hK
  refine lv_icmp_eq (tgt := 1234) hx hb dL_law_170 (by decide) (fun c_11 => ?_) (fun c_11 => ?_)
  · exact law_tail hL C0 hS (lv_sub hl [0, 3] rfl)
  · have dc_11 : ¬ r_3.toInt = r_8.toInt := jI_ne c_11 rfl rfl
    exfalso; omega

set_option maxHeartbeats 4000000 in
set_option maxRecDepth 100000 in
theorem law_row {p : Program} {l : Launch} {e : Env} {s : State} {m : MethodId} {below : List Frame} {meth : Method} {c : Code} {dC : Nat → ClassId} {dI : Nat → Nat → Nat} {b L : Nat} {xs : Nat → Int32} (hL : L = 11) (C0 : lw_At p s m meth c b L xs) (hN : nw_ok s) (h0 : Nat) (hRows : Nat) (hMer : Nat) (hEra : Nat) (hTape : Nat) (hRea : Nat) (hTra : Nat) (hWor : Nat) (hPla : Nat) (hMod : Nat) (hHe1 : Nat) (hHe2 : Nat) (aP : Nat) (aS : Nat) (aM : Nat) (aK : Nat) (aV : Nat) (cP : ClassId) (cS : ClassId) (cM : ClassId) (cK : ClassId) (cV : ClassId) (cE : ClassId) (m0 : Nat) (m_rowPerson : Nat) (m_rowStream : Nat) (m_rowMoment : Nat) (m_rowKnown : Nat) (m_rowValue : Nat) (m_isGone : Nat) (m_mergeTo : Nat) (m_mergeKnown : Nat) (m_isErased : Nat) (m_tape : Nat) (m_five : Nat) (m_size0 : Nat) (m_step : Nat) (m_stepA : Nat) (m_stepB : Nat) (m_stepC : Nat) (m_values : Nat) (m_heap : Nat) (m_isOne : Nat) (m_lawFrom : Nat) (m_lawTo : Nat) (m_hasLaw : Nat) (m_limits : Nat) (m_held : Nat) (m_hasKept : Nat) (m_kept : Nat) (m_keptAt : Nat) (m_placeTrait : Nat) (m_placePerson : Nat) (m_placeMoment : Nat) (m_placeValue : Nat) (m_isFilled : Nat) (m_uses : Nat) (m_heapsOne : Nat) (m_heapsOther : Nat) (k_rowPerson : ClassId) (k_rowStream : ClassId) (k_rowMoment : ClassId) (k_rowKnown : ClassId) (k_rowValue : ClassId) (k_isErased : ClassId)  (H : Heap) (locs : List Loc) (hK : va_K (dC, dI) vwCl [(cP, .int), (cS, .int), (cM, .int), (cK, .int), (cV, .int), (cE, .boolean), (k_rowPerson, .int), (k_rowStream, .int), (k_rowMoment, .int), (k_rowKnown, .int), (k_rowValue, .int), (k_isErased, .boolean)] s) (hP : va_P (dC, dI) vwCl [(h0, .inr (8, [.ref hRows, .ref hMer, .ref hEra, .ref hTape, .ref hRea, .ref hTra, .ref hWor, .ref hPla, .ref hMod, .ref hHe1, .ref hHe2, .int 0, .int 0, .int 0, .int 0, .int (-1), .int 0])), (hRows, .inr (3, [.ref aP, .ref aS, .ref aM, .ref aK, .ref aV, .int 0, .int 0])), (aP, .inl (cP, 400, .inl (fun _ => 0))), (aS, .inl (cS, 400, .inl (fun _ => 0))), (aM, .inl (cM, 400, .inl (fun _ => 0))), (aK, .inl (cK, 400, .inl (fun _ => 0))), (aV, .inl (cV, 400, .inl (fun _ => 0))), (hEra, .inl (cE, 20, .inl (fun _ => 0))), (m0, .inr (9, [.int 0, .int 0, .int 0, .ref m_rowPerson, .ref m_rowStream, .ref m_rowMoment, .ref m_rowKnown, .ref m_rowValue, .ref m_isGone, .ref m_mergeTo, .ref m_mergeKnown, .int 0, .ref m_isErased, .ref m_tape, .int 0, .int 0, .int 0, .int 0, .int (-1), .int 0, .ref m_five, .int 0, .int 0, .int 0, .int 0, .ref m_size0, .ref m_step, .ref m_stepA, .ref m_stepB, .ref m_stepC, .ref m_values, .ref m_heap, .ref m_isOne, .ref m_lawFrom, .ref m_lawTo, .ref m_hasLaw, .ref m_limits, .ref m_held, .ref m_hasKept, .ref m_kept, .ref m_keptAt, .int 0, .ref m_placeTrait, .ref m_placePerson, .ref m_placeMoment, .ref m_placeValue, .ref m_isFilled, .int 0, .ref m_uses, .ref m_heapsOne, .ref m_heapsOther])), (m_rowPerson, .inl (k_rowPerson, 400, .inl (fun _ => 0))), (m_rowStream, .inl (k_rowStream, 400, .inl (fun _ => 0))), (m_rowMoment, .inl (k_rowMoment, 400, .inl (fun _ => 0))), (m_rowKnown, .inl (k_rowKnown, 400, .inl (fun _ => 0))), (m_rowValue, .inl (k_rowValue, 400, .inl (fun _ => 0))), (m_isErased, .inl (k_isErased, 20, .inl (fun _ => 0)))] H) (hD : va_D (fun q : Nat => s.heap.size ≤ q) [(h0, .inr (8, [.ref hRows, .ref hMer, .ref hEra, .ref hTape, .ref hRea, .ref hTra, .ref hWor, .ref hPla, .ref hMod, .ref hHe1, .ref hHe2, .int 0, .int 0, .int 0, .int 0, .int (-1), .int 0])), (hRows, .inr (3, [.ref aP, .ref aS, .ref aM, .ref aK, .ref aV, .int 0, .int 0])), (aP, .inl (cP, 400, .inl (fun _ => 0))), (aS, .inl (cS, 400, .inl (fun _ => 0))), (aM, .inl (cM, 400, .inl (fun _ => 0))), (aK, .inl (cK, 400, .inl (fun _ => 0))), (aV, .inl (cV, 400, .inl (fun _ => 0))), (hEra, .inl (cE, 20, .inl (fun _ => 0))), (m0, .inr (9, [.int 0, .int 0, .int 0, .ref m_rowPerson, .ref m_rowStream, .ref m_rowMoment, .ref m_rowKnown, .ref m_rowValue, .ref m_isGone, .ref m_mergeTo, .ref m_mergeKnown, .int 0, .ref m_isErased, .ref m_tape, .int 0, .int 0, .int 0, .int 0, .int (-1), .int 0, .ref m_five, .int 0, .int 0, .int 0, .int 0, .ref m_size0, .ref m_step, .ref m_stepA, .ref m_stepB, .ref m_stepC, .ref m_values, .ref m_heap, .ref m_isOne, .ref m_lawFrom, .ref m_lawTo, .ref m_hasLaw, .ref m_limits, .ref m_held, .ref m_hasKept, .ref m_kept, .ref m_keptAt, .int 0, .ref m_placeTrait, .ref m_placePerson, .ref m_placeMoment, .ref m_placeValue, .ref m_isFilled, .int 0, .ref m_uses, .ref m_heapsOne, .ref m_heapsOther])), (m_rowPerson, .inl (k_rowPerson, 400, .inl (fun _ => 0))), (m_rowStream, .inl (k_rowStream, 400, .inl (fun _ => 0))), (m_rowMoment, .inl (k_rowMoment, 400, .inl (fun _ => 0))), (m_rowKnown, .inl (k_rowKnown, 400, .inl (fun _ => 0))), (m_rowValue, .inl (k_rowValue, 400, .inl (fun _ => 0))), (m_isErased, .inl (k_isErased, 20, .inl (fun _ => 0)))]) (hS : va_S (fun q : Nat => s.heap.size ≤ q) s.heap H locs) (ls : Array Slot) (hl : lv_has ls 4 [(3, .int 0), (2, .ref m0), (1, .ref h0), (0, .ref b)]) : W p l e room_1 s m #[Value.ref b] below meth c H locs 600000 7302250 (lw_Z below #[Value.ref b] s) (F0 m 175 ls []) := by
  obtain ⟨hx, hb, hr, hml, hown, hts, hX, hbl, hlocks, hgv⟩ := id C0
  have hts := fun w h => hts w (wsL_law_in w h)
  have hown : s.vm.findClass RL = some m.cls := hown
  have hA : ∀ q : Nat, s.heap.size ≤ q → (fun q : Nat => s.heap.size ≤ q) q := fun _ h => h
  have hbA : ¬ (fun q : Nat => s.heap.size ≤ q) b := Nat.not_le.mpr hbl
  obtain ⟨z1, ez1⟩ : ∃ z : Int32, z = xs (1 : Int32).toNatClampNeg := ⟨_, rfl⟩
  obtain ⟨z2, ez2⟩ : ∃ z : Int32, z = xs (2 : Int32).toNatClampNeg := ⟨_, rfl⟩
  obtain ⟨z3, ez3⟩ : ∃ z : Int32, z = xs (3 : Int32).toNatClampNeg := ⟨_, rfl⟩
  obtain ⟨z4, ez4⟩ : ∃ z : Int32, z = xs (4 : Int32).toNatClampNeg := ⟨_, rfl⟩
  obtain ⟨z5, ez5⟩ : ∃ z : Int32, z = xs (5 : Int32).toNatClampNeg := ⟨_, rfl⟩
  refine lv_aload_n hx hb dL_law_175 rfl (lv_at hl 2 rfl) ?_
  refine lv_aload_n hx hb dL_law_176 rfl (lv_at hl 3 rfl) ?_
  refine lv_iload_n hx hb dL_law_177 rfl (lv_at hl 0 rfl) ?_
  refine lv_iconst (v := 1) hx hb dL_law_178 (by decide) ?_
  refine lv_iadd hx hb dL_law_179 ?_
  refine lv_topi (fun x_1 ex_1 => ?_)
  obtain rfl : x_1 = 1 := ex_1.trans (by decide)
  refine va_sld hx hb hX hbl hbA hS (vp_in_iff.mpr ⟨by decide, by rw [hL]; decide⟩) dL_law_180 ?_
  refine lv_topi (fun x_2 ex_2 => ?_)
  obtain rfl : z1 = x_2 := ez1.trans ex_2.symm
  refine lv_aload_n hx hb dL_law_181 rfl (lv_at hl 3 rfl) ?_
  refine lv_iload_n hx hb dL_law_182 rfl (lv_at hl 0 rfl) ?_
  refine lv_iconst (v := 2) hx hb dL_law_183 (by decide) ?_
  refine lv_iadd hx hb dL_law_184 ?_
  refine lv_topi (fun x_3 ex_3 => ?_)
  obtain rfl : x_3 = 2 := ex_3.trans (by decide)
  refine va_sld hx hb hX hbl hbA hS (vp_in_iff.mpr ⟨by decide, by rw [hL]; decide⟩) dL_law_185 ?_
  refine lv_topi (fun x_4 ex_4 => ?_)
  obtain rfl : z2 = x_4 := ez2.trans ex_4.symm
  refine lv_aload_n hx hb dL_law_186 rfl (lv_at hl 3 rfl) ?_
  refine lv_iload_n hx hb dL_law_187 rfl (lv_at hl 0 rfl) ?_
  refine lv_iconst (v := 3) hx hb dL_law_188 (by decide) ?_
  refine lv_iadd hx hb dL_law_189 ?_
  refine lv_topi (fun x_5 ex_5 => ?_)
  obtain rfl : x_5 = 3 := ex_5.trans (by decide)
  refine va_sld hx hb hX hbl hbA hS (vp_in_iff.mpr ⟨by decide, by rw [hL]; decide⟩) dL_law_190 ?_
  refine lv_topi (fun x_6 ex_6 => ?_)
  obtain rfl : z3 = x_6 := ez3.trans ex_6.symm
  refine lv_aload_n hx hb dL_law_191 rfl (lv_at hl 3 rfl) ?_
  refine lv_iload_n hx hb dL_law_192 rfl (lv_at hl 0 rfl) ?_
  refine lv_iconst (v := 4) hx hb dL_law_193 (by decide) ?_
  refine lv_iadd hx hb dL_law_194 ?_
  refine lv_topi (fun x_7 ex_7 => ?_)
  obtain rfl : x_7 = 4 := ex_7.trans (by decide)
  refine va_sld hx hb hX hbl hbA hS (vp_in_iff.mpr ⟨by decide, by rw [hL]; decide⟩) dL_law_195 ?_
  refine lv_topi (fun x_8 ex_8 => ?_)
  obtain rfl : z4 = x_8 := ez4.trans ex_8.symm
  refine lv_aload_n hx hb dL_law_196 rfl (lv_at hl 3 rfl) ?_
  refine lv_iload_n hx hb dL_law_197 rfl (lv_at hl 0 rfl) ?_
  refine lv_iconst (v := 5) hx hb dL_law_198 (by decide) ?_
  refine lv_iadd hx hb dL_law_199 ?_
  refine lv_topi (fun x_9 ex_9 => ?_)
  obtain rfl : x_9 = 5 := ex_9.trans (by decide)
  refine va_sld hx hb hX hbl hbA hS (vp_in_iff.mpr ⟨by decide, by rw [hL]; decide⟩) dL_law_200 ?_
  refine lv_topi (fun x_10 ex_10 => ?_)
  obtain rfl : z5 = x_10 := ez5.trans ex_10.symm
  have hPc := hP.sub (ws' := [(h0, .inr (8, [.ref hRows, .ref hMer, .ref hEra, .ref hTape, .ref hRea, .ref hTra, .ref hWor, .ref hPla, .ref hMod, .ref hHe1, .ref hHe2, .int 0, .int 0, .int 0, .int 0, .int (-1), .int 0])), (hRows, .inr (3, [.ref aP, .ref aS, .ref aM, .ref aK, .ref aV, .int 0, .int 0])), (aP, .inl (cP, 400, .inl (fun _ => 0))), (aS, .inl (cS, 400, .inl (fun _ => 0))), (aM, .inl (cM, 400, .inl (fun _ => 0))), (aK, .inl (cK, 400, .inl (fun _ => 0))), (aV, .inl (cV, 400, .inl (fun _ => 0))), (hEra, .inl (cE, 20, .inl (fun _ => 0)))]) [0, 1, 2, 3, 4, 5, 6, 7] rfl
  have hDc := hD.sub (ws' := [(h0, .inr (8, [.ref hRows, .ref hMer, .ref hEra, .ref hTape, .ref hRea, .ref hTra, .ref hWor, .ref hPla, .ref hMod, .ref hHe1, .ref hHe2, .int 0, .int 0, .int 0, .int 0, .int (-1), .int 0])), (hRows, .inr (3, [.ref aP, .ref aS, .ref aM, .ref aK, .ref aV, .int 0, .int 0])), (aP, .inl (cP, 400, .inl (fun _ => 0))), (aS, .inl (cS, 400, .inl (fun _ => 0))), (aM, .inl (cM, 400, .inl (fun _ => 0))), (aK, .inl (cK, 400, .inl (fun _ => 0))), (aV, .inl (cV, 400, .inl (fun _ => 0))), (hEra, .inl (cE, 20, .inl (fun _ => 0)))]) [0, 1, 2, 3, 4, 5, 6, 7] (by decide) rfl
  have hKc := hK.sub (tys' := [(cP, .int), (cS, .int), (cM, .int), (cK, .int), (cV, .int), (cE, .boolean)]) [0, 1, 2, 3, 4, 5] rfl
  have hFc := va_free (wc := [(h0, .inr (8, [.ref hRows, .ref hMer, .ref hEra, .ref hTape, .ref hRea, .ref hTra, .ref hWor, .ref hPla, .ref hMod, .ref hHe1, .ref hHe2, .int 0, .int 0, .int 0, .int 0, .int (-1), .int 0])), (hRows, .inr (3, [.ref aP, .ref aS, .ref aM, .ref aK, .ref aV, .int 0, .int 0])), (aP, .inl (cP, 400, .inl (fun _ => 0))), (aS, .inl (cS, 400, .inl (fun _ => 0))), (aM, .inl (cM, 400, .inl (fun _ => 0))), (aK, .inl (cK, 400, .inl (fun _ => 0))), (aV, .inl (cV, 400, .inl (fun _ => 0))), (hEra, .inl (cE, 20, .inl (fun _ => 0)))]) hD hS hA [0, 1, 2, 3, 4, 5, 6, 7] rfl
  refine va_calli (va_runV (As := [.int z1, .int z2, .int z3, .int z4, .int z5]) (rest := []) ⟨hx, hb, hml, hown, hts⟩ (c_X8_row l dC dI H.size h0 hRows hMer hEra hTape hRea hTra hWor hPla hMod hHe1 hHe2 aP aS aM aK aV cP cS cM cK cV cE z1 z2 z3 z4 z5 ) (cwV 5 hts gL_law_X8_row rfl rfl rfl (by decide +kernel) ⟨Nat.le_of_ble_eq_true rfl, Nat.le_of_ble_eq_true rfl⟩) ⟨fun a U g mk q => by obtain ⟨q0, q1, qP, qK, qD, qN⟩ := q; exact ⟨q0, q1, qP, va_K.moved (u := U) (U := U.calling g mk a) (Vm.Alike.refl U.vm) qK, qD, qN.same rfl⟩, va_recv hKc hPc (ci := 8) (q0 := 0) rfl rfl, fun U hU hW => ⟨rfl, by rw [hU], by rw [hU]; exact hPc, va_K.moved hW.alike hKc, hDc.weaken (fun _ _ _ _ => trivial), hN.warm hW⟩⟩ rfl rfl hl.1 rfl (lv_room (Nat.le_of_ble_eq_true rfl)) dL_law_201 ⟨Nat.le_of_ble_eq_true rfl, Nat.le_of_ble_eq_true rfl⟩) hS (fun q _ h => hFc q h) hFc (fun r_11 u_12 t H1 locs ht hvm hw_13 hB hz1 hk1 hS => ?_)
  try dsimp only at hw_13
  have hP1 : va_P (dC, dI) vwCl [] H1 := fun k q h => by simp at h
  have hD1 : va_D (va_A [(h0, .inr (8, [.ref hRows, .ref hMer, .ref hEra, .ref hTape, .ref hRea, .ref hTra, .ref hWor, .ref hPla, .ref hMod, .ref hHe1, .ref hHe2, .int 0, .int 0, .int 0, .int 0, .int (-1), .int 0])), (hRows, .inr (3, [.ref aP, .ref aS, .ref aM, .ref aK, .ref aV, .int 0, .int 0])), (aP, .inl (cP, 400, .inl (fun _ => 0))), (aS, .inl (cS, 400, .inl (fun _ => 0))), (aM, .inl (cM, 400, .inl (fun _ => 0))), (aK, .inl (cK, 400, .inl (fun _ => 0))), (aV, .inl (cV, 400, .inl (fun _ => 0))), (hEra, .inl (cE, 20, .inl (fun _ => 0)))] H.size) [] := ⟨fun i j p q h => by simp at h, fun k q h => by simp at h⟩
  have hK1 : va_K (dC, dI) vwCl [] s := hK.sub [] rfl
  obtain ⟨hP, hD⟩ := va_join (wr := [(m0, .inr (9, [.int 0, .int 0, .int 0, .ref m_rowPerson, .ref m_rowStream, .ref m_rowMoment, .ref m_rowKnown, .ref m_rowValue, .ref m_isGone, .ref m_mergeTo, .ref m_mergeKnown, .int 0, .ref m_isErased, .ref m_tape, .int 0, .int 0, .int 0, .int 0, .int (-1), .int 0, .ref m_five, .int 0, .int 0, .int 0, .int 0, .ref m_size0, .ref m_step, .ref m_stepA, .ref m_stepB, .ref m_stepC, .ref m_values, .ref m_heap, .ref m_isOne, .ref m_lawFrom, .ref m_lawTo, .ref m_hasLaw, .ref m_limits, .ref m_held, .ref m_hasKept, .ref m_kept, .ref m_keptAt, .int 0, .ref m_placeTrait, .ref m_placePerson, .ref m_placeMoment, .ref m_placeValue, .ref m_isFilled, .int 0, .ref m_uses, .ref m_heapsOne, .ref m_heapsOther])), (m_rowPerson, .inl (k_rowPerson, 400, .inl (fun _ => 0))), (m_rowStream, .inl (k_rowStream, 400, .inl (fun _ => 0))), (m_rowMoment, .inl (k_rowMoment, 400, .inl (fun _ => 0))), (m_rowKnown, .inl (k_rowKnown, 400, .inl (fun _ => 0))), (m_rowValue, .inl (k_rowValue, 400, .inl (fun _ => 0))), (m_isErased, .inl (k_isErased, 20, .inl (fun _ => 0)))]) (w1 := []) hP hD [0, 1, 2, 3, 4, 5, 6, 7] [8, 9, 10, 11, 12, 13, 14] rfl rfl (by decide) (by decide) hk1 hFc hP1 hD1
  have hK := (hK.sub (tys' := [(cP, .int), (cS, .int), (cM, .int), (cK, .int), (cV, .int), (cE, .boolean), (k_rowPerson, .int), (k_rowStream, .int), (k_rowMoment, .int), (k_rowKnown, .int), (k_rowValue, .int), (k_isErased, .boolean)]) [0, 1, 2, 3, 4, 5, 6, 7, 8, 9, 10, 11] rfl).app hK1
  generalize H1 = H at hP hS ⊢
  have hP : va_P (dC, dI) vwCl [(m0, .inr (9, [.int 0, .int 0, .int 0, .ref m_rowPerson, .ref m_rowStream, .ref m_rowMoment, .ref m_rowKnown, .ref m_rowValue, .ref m_isGone, .ref m_mergeTo, .ref m_mergeKnown, .int 0, .ref m_isErased, .ref m_tape, .int 0, .int 0, .int 0, .int 0, .int (-1), .int 0, .ref m_five, .int 0, .int 0, .int 0, .int 0, .ref m_size0, .ref m_step, .ref m_stepA, .ref m_stepB, .ref m_stepC, .ref m_values, .ref m_heap, .ref m_isOne, .ref m_lawFrom, .ref m_lawTo, .ref m_hasLaw, .ref m_limits, .ref m_held, .ref m_hasKept, .ref m_kept, .ref m_keptAt, .int 0, .ref m_placeTrait, .ref m_placePerson, .ref m_placeMoment, .ref m_placeValue, .ref m_isFilled, .int 0, .ref m_uses, .ref m_heapsOne, .ref m_heapsOther])), (m_rowPerson, .inl (k_rowPerson, 400, .inl (fun _ => 0))), (m_rowStream, .inl (k_rowStream, 400, .inl (fun _ => 0))), (m_rowMoment, .inl (k_rowMoment, 400, .inl (fun _ => 0))), (m_rowKnown, .inl (k_rowKnown, 400, .inl (fun _ => 0))), (m_rowValue, .inl (k_rowValue, 400, .inl (fun _ => 0))), (m_isErased, .inl (k_isErased, 20, .inl (fun _ => 0)))] H := hP
  have hD : va_D (fun q : Nat => s.heap.size ≤ q) [(m0, .inr (9, [.int 0, .int 0, .int 0, .ref m_rowPerson, .ref m_rowStream, .ref m_rowMoment, .ref m_rowKnown, .ref m_rowValue, .ref m_isGone, .ref m_mergeTo, .ref m_mergeKnown, .int 0, .ref m_isErased, .ref m_tape, .int 0, .int 0, .int 0, .int 0, .int (-1), .int 0, .ref m_five, .int 0, .int 0, .int 0, .int 0, .ref m_size0, .ref m_step, .ref m_stepA, .ref m_stepB, .ref m_stepC, .ref m_values, .ref m_heap, .ref m_isOne, .ref m_lawFrom, .ref m_lawTo, .ref m_hasLaw, .ref m_limits, .ref m_held, .ref m_hasKept, .ref m_kept, .ref m_keptAt, .int 0, .ref m_placeTrait, .ref m_placePerson, .ref m_placeMoment, .ref m_placeValue, .ref m_isFilled, .int 0, .ref m_uses, .ref m_heapsOne, .ref m_heapsOther])), (m_rowPerson, .inl (k_rowPerson, 400, .inl (fun _ => 0))), (m_rowStream, .inl (k_rowStream, 400, .inl (fun _ => 0))), (m_rowMoment, .inl (k_rowMoment, 400, .inl (fun _ => 0))), (m_rowKnown, .inl (k_rowKnown, 400, .inl (fun _ => 0))), (m_rowValue, .inl (k_rowValue, 400, .inl (fun _ => 0))), (m_isErased, .inl (k_isErased, 20, .inl (fun _ => 0)))] := hD
  have hK : va_K (dC, dI) vwCl [(cP, .int), (cS, .int), (cM, .int), (cK, .int), (cV, .int), (cE, .boolean), (k_rowPerson, .int), (k_rowStream, .int), (k_rowMoment, .int), (k_rowKnown, .int), (k_rowValue, .int), (k_isErased, .boolean)] s := hK
  refine lv_aload_n hx hb dL_law_204 rfl (lv_at hl 1 rfl) ?_
  refine lv_aload_n hx hb dL_law_205 rfl (lv_at hl 3 rfl) ?_
  refine lv_iload_n hx hb dL_law_206 rfl (lv_at hl 0 rfl) ?_
  refine lv_iconst (v := 1) hx hb dL_law_207 (by decide) ?_
  refine lv_iadd hx hb dL_law_208 ?_
  refine lv_topi (fun x_14 ex_14 => ?_)
  obtain rfl : x_14 = 1 := ex_14.trans (by decide)
  refine va_sld hx hb hX hbl hbA hS (vp_in_iff.mpr ⟨by decide, by rw [hL]; decide⟩) dL_law_209 ?_
  refine lv_topi (fun x_15 ex_15 => ?_)
  obtain rfl : z1 = x_15 := ez1.trans ex_15.symm
  refine lv_aload_n hx hb dL_law_210 rfl (lv_at hl 3 rfl) ?_
  refine lv_iload_n hx hb dL_law_211 rfl (lv_at hl 0 rfl) ?_
  refine lv_iconst (v := 2) hx hb dL_law_212 (by decide) ?_
  refine lv_iadd hx hb dL_law_213 ?_
  refine lv_topi (fun x_16 ex_16 => ?_)
  obtain rfl : x_16 = 2 := ex_16.trans (by decide)
  refine va_sld hx hb hX hbl hbA hS (vp_in_iff.mpr ⟨by decide, by rw [hL]; decide⟩) dL_law_214 ?_
  refine lv_topi (fun x_17 ex_17 => ?_)
  obtain rfl : z2 = x_17 := ez2.trans ex_17.symm
  refine lv_aload_n hx hb dL_law_215 rfl (lv_at hl 3 rfl) ?_
  refine lv_iload_n hx hb dL_law_216 rfl (lv_at hl 0 rfl) ?_
  refine lv_iconst (v := 3) hx hb dL_law_217 (by decide) ?_
  refine lv_iadd hx hb dL_law_218 ?_
  refine lv_topi (fun x_18 ex_18 => ?_)
  obtain rfl : x_18 = 3 := ex_18.trans (by decide)
  refine va_sld hx hb hX hbl hbA hS (vp_in_iff.mpr ⟨by decide, by rw [hL]; decide⟩) dL_law_219 ?_
  refine lv_topi (fun x_19 ex_19 => ?_)
  obtain rfl : z3 = x_19 := ez3.trans ex_19.symm
  refine lv_aload_n hx hb dL_law_220 rfl (lv_at hl 3 rfl) ?_
  refine lv_iload_n hx hb dL_law_221 rfl (lv_at hl 0 rfl) ?_
  refine lv_iconst (v := 4) hx hb dL_law_222 (by decide) ?_
  refine lv_iadd hx hb dL_law_223 ?_
  refine lv_topi (fun x_20 ex_20 => ?_)
  obtain rfl : x_20 = 4 := ex_20.trans (by decide)
  refine va_sld hx hb hX hbl hbA hS (vp_in_iff.mpr ⟨by decide, by rw [hL]; decide⟩) dL_law_224 ?_
  refine lv_topi (fun x_21 ex_21 => ?_)
  obtain rfl : z4 = x_21 := ez4.trans ex_21.symm
  refine lv_aload_n hx hb dL_law_225 rfl (lv_at hl 3 rfl) ?_
  refine lv_iload_n hx hb dL_law_226 rfl (lv_at hl 0 rfl) ?_
  refine lv_iconst (v := 5) hx hb dL_law_227 (by decide) ?_
  refine lv_iadd hx hb dL_law_228 ?_
  refine lv_topi (fun x_22 ex_22 => ?_)
  obtain rfl : x_22 = 5 := ex_22.trans (by decide)
  refine va_sld hx hb hX hbl hbA hS (vp_in_iff.mpr ⟨by decide, by rw [hL]; decide⟩) dL_law_229 ?_
  refine lv_topi (fun x_23 ex_23 => ?_)
  obtain rfl : z5 = x_23 := ez5.trans ex_23.symm
  have hPc := hP.sub (ws' := [(m0, .inr (9, [.int 0, .int 0, .int 0, .ref m_rowPerson, .ref m_rowStream, .ref m_rowMoment, .ref m_rowKnown, .ref m_rowValue, .ref m_isGone, .ref m_mergeTo, .ref m_mergeKnown, .int 0, .ref m_isErased, .ref m_tape, .int 0, .int 0, .int 0, .int 0, .int (-1), .int 0, .ref m_five, .int 0, .int 0, .int 0, .int 0, .ref m_size0, .ref m_step, .ref m_stepA, .ref m_stepB, .ref m_stepC, .ref m_values, .ref m_heap, .ref m_isOne, .ref m_lawFrom, .ref m_lawTo, .ref m_hasLaw, .ref m_limits, .ref m_held, .ref m_hasKept, .ref m_kept, .ref m_keptAt, .int 0, .ref m_placeTrait, .ref m_placePerson, .ref m_placeMoment, .ref m_placeValue, .ref m_isFilled, .int 0, .ref m_uses, .ref m_heapsOne, .ref m_heapsOther])), (m_rowPerson, .inl (k_rowPerson, 400, .inl (fun _ => 0))), (m_rowStream, .inl (k_rowStream, 400, .inl (fun _ => 0))), (m_rowMoment, .inl (k_rowMoment, 400, .inl (fun _ => 0))), (m_rowKnown, .inl (k_rowKnown, 400, .inl (fun _ => 0))), (m_rowValue, .inl (k_rowValue, 400, .inl (fun _ => 0))), (m_isErased, .inl (k_isErased, 20, .inl (fun _ => 0)))]) [0, 1, 2, 3, 4, 5, 6] rfl
  have hDc := hD.sub (ws' := [(m0, .inr (9, [.int 0, .int 0, .int 0, .ref m_rowPerson, .ref m_rowStream, .ref m_rowMoment, .ref m_rowKnown, .ref m_rowValue, .ref m_isGone, .ref m_mergeTo, .ref m_mergeKnown, .int 0, .ref m_isErased, .ref m_tape, .int 0, .int 0, .int 0, .int 0, .int (-1), .int 0, .ref m_five, .int 0, .int 0, .int 0, .int 0, .ref m_size0, .ref m_step, .ref m_stepA, .ref m_stepB, .ref m_stepC, .ref m_values, .ref m_heap, .ref m_isOne, .ref m_lawFrom, .ref m_lawTo, .ref m_hasLaw, .ref m_limits, .ref m_held, .ref m_hasKept, .ref m_kept, .ref m_keptAt, .int 0, .ref m_placeTrait, .ref m_placePerson, .ref m_placeMoment, .ref m_placeValue, .ref m_isFilled, .int 0, .ref m_uses, .ref m_heapsOne, .ref m_heapsOther])), (m_rowPerson, .inl (k_rowPerson, 400, .inl (fun _ => 0))), (m_rowStream, .inl (k_rowStream, 400, .inl (fun _ => 0))), (m_rowMoment, .inl (k_rowMoment, 400, .inl (fun _ => 0))), (m_rowKnown, .inl (k_rowKnown, 400, .inl (fun _ => 0))), (m_rowValue, .inl (k_rowValue, 400, .inl (fun _ => 0))), (m_isErased, .inl (k_isErased, 20, .inl (fun _ => 0)))]) [0, 1, 2, 3, 4, 5, 6] (by decide) rfl
  have hKc := hK.sub (tys' := [(k_rowPerson, .int), (k_rowStream, .int), (k_rowMoment, .int), (k_rowKnown, .int), (k_rowValue, .int), (k_isErased, .boolean)]) [6, 7, 8, 9, 10, 11] rfl
  have hFc := va_free (wc := [(m0, .inr (9, [.int 0, .int 0, .int 0, .ref m_rowPerson, .ref m_rowStream, .ref m_rowMoment, .ref m_rowKnown, .ref m_rowValue, .ref m_isGone, .ref m_mergeTo, .ref m_mergeKnown, .int 0, .ref m_isErased, .ref m_tape, .int 0, .int 0, .int 0, .int 0, .int (-1), .int 0, .ref m_five, .int 0, .int 0, .int 0, .int 0, .ref m_size0, .ref m_step, .ref m_stepA, .ref m_stepB, .ref m_stepC, .ref m_values, .ref m_heap, .ref m_isOne, .ref m_lawFrom, .ref m_lawTo, .ref m_hasLaw, .ref m_limits, .ref m_held, .ref m_hasKept, .ref m_kept, .ref m_keptAt, .int 0, .ref m_placeTrait, .ref m_placePerson, .ref m_placeMoment, .ref m_placeValue, .ref m_isFilled, .int 0, .ref m_uses, .ref m_heapsOne, .ref m_heapsOther])), (m_rowPerson, .inl (k_rowPerson, 400, .inl (fun _ => 0))), (m_rowStream, .inl (k_rowStream, 400, .inl (fun _ => 0))), (m_rowMoment, .inl (k_rowMoment, 400, .inl (fun _ => 0))), (m_rowKnown, .inl (k_rowKnown, 400, .inl (fun _ => 0))), (m_rowValue, .inl (k_rowValue, 400, .inl (fun _ => 0))), (m_isErased, .inl (k_isErased, 20, .inl (fun _ => 0)))]) hD hS hA [0, 1, 2, 3, 4, 5, 6] rfl
  refine va_calli (va_runV (As := [.int z1, .int z2, .int z3, .int z4, .int z5]) (rest := [.int r_11]) ⟨hx, hb, hml, hown, hts⟩ (c_X9_row l dC dI H.size m0 m_rowPerson m_rowStream m_rowMoment m_rowKnown m_rowValue m_isGone m_mergeTo m_mergeKnown m_isErased m_tape m_five m_size0 m_step m_stepA m_stepB m_stepC m_values m_heap m_isOne m_lawFrom m_lawTo m_hasLaw m_limits m_held m_hasKept m_kept m_keptAt m_placeTrait m_placePerson m_placeMoment m_placeValue m_isFilled m_uses m_heapsOne m_heapsOther k_rowPerson k_rowStream k_rowMoment k_rowKnown k_rowValue k_isErased z1 z2 z3 z4 z5 ) (cwV 5 hts gL_law_X9_row rfl rfl rfl (by decide +kernel) ⟨Nat.le_of_ble_eq_true rfl, Nat.le_of_ble_eq_true rfl⟩) ⟨fun a U g mk q => by obtain ⟨q0, q1, qP, qK, qD, qN⟩ := q; exact ⟨q0, q1, qP, va_K.moved (u := U) (U := U.calling g mk a) (Vm.Alike.refl U.vm) qK, qD, qN.same rfl⟩, va_recv hKc hPc (ci := 9) (q0 := 0) rfl rfl, fun U hU hW => ⟨rfl, by rw [hU], by rw [hU]; exact hPc, va_K.moved hW.alike hKc, hDc.weaken (fun _ _ _ _ => trivial), hN.warm hW⟩⟩ rfl rfl hl.1 rfl (lv_room (Nat.le_of_ble_eq_true rfl)) dL_law_230 ⟨Nat.le_of_ble_eq_true rfl, Nat.le_of_ble_eq_true rfl⟩) hS (fun q _ h => hFc q h) hFc (fun r_24 u_25 t H1 locs ht hvm hw_26 hB hz1 hk1 hS => ?_)
  try dsimp only at hw_26
  have hP1 : va_P (dC, dI) vwCl [] H1 := fun k q h => by simp at h
  have hD1 : va_D (va_A [(m0, .inr (9, [.int 0, .int 0, .int 0, .ref m_rowPerson, .ref m_rowStream, .ref m_rowMoment, .ref m_rowKnown, .ref m_rowValue, .ref m_isGone, .ref m_mergeTo, .ref m_mergeKnown, .int 0, .ref m_isErased, .ref m_tape, .int 0, .int 0, .int 0, .int 0, .int (-1), .int 0, .ref m_five, .int 0, .int 0, .int 0, .int 0, .ref m_size0, .ref m_step, .ref m_stepA, .ref m_stepB, .ref m_stepC, .ref m_values, .ref m_heap, .ref m_isOne, .ref m_lawFrom, .ref m_lawTo, .ref m_hasLaw, .ref m_limits, .ref m_held, .ref m_hasKept, .ref m_kept, .ref m_keptAt, .int 0, .ref m_placeTrait, .ref m_placePerson, .ref m_placeMoment, .ref m_placeValue, .ref m_isFilled, .int 0, .ref m_uses, .ref m_heapsOne, .ref m_heapsOther])), (m_rowPerson, .inl (k_rowPerson, 400, .inl (fun _ => 0))), (m_rowStream, .inl (k_rowStream, 400, .inl (fun _ => 0))), (m_rowMoment, .inl (k_rowMoment, 400, .inl (fun _ => 0))), (m_rowKnown, .inl (k_rowKnown, 400, .inl (fun _ => 0))), (m_rowValue, .inl (k_rowValue, 400, .inl (fun _ => 0))), (m_isErased, .inl (k_isErased, 20, .inl (fun _ => 0)))] H.size) [] := ⟨fun i j p q h => by simp at h, fun k q h => by simp at h⟩
  have hK1 : va_K (dC, dI) vwCl [] s := hK.sub [] rfl
  obtain ⟨hP, hD⟩ := va_join (wr := []) (w1 := []) hP hD [0, 1, 2, 3, 4, 5, 6] [] rfl rfl (by decide) (by decide) hk1 hFc hP1 hD1
  have hK := (hK.sub (tys' := [(cP, .int), (cS, .int), (cM, .int), (cK, .int), (cV, .int), (cE, .boolean), (k_rowPerson, .int), (k_rowStream, .int), (k_rowMoment, .int), (k_rowKnown, .int), (k_rowValue, .int), (k_isErased, .boolean)]) [0, 1, 2, 3, 4, 5, 6, 7, 8, 9, 10, 11] rfl).app hK1
  generalize H1 = H at hP hS ⊢
  have hP : va_P (dC, dI) vwCl [] H := hP
  have hD : va_D (fun q : Nat => s.heap.size ≤ q) [] := hD
  have hK : va_K (dC, dI) vwCl [(cP, .int), (cS, .int), (cM, .int), (cK, .int), (cV, .int), (cE, .boolean), (k_rowPerson, .int), (k_rowStream, .int), (k_rowMoment, .int), (k_rowKnown, .int), (k_rowValue, .int), (k_isErased, .boolean)] s := hK
  refine lv_icmp_eq (tgt := 1234) hx hb dL_law_233 (by decide) (fun c_27 => ?_) (fun c_27 => ?_)
  · exact law_tail hL C0 hS (lv_sub hl [0, 3] rfl)
  · have dc_27 : ¬ r_11.toInt = r_24.toInt := jI_ne c_27 rfl rfl
    exfalso; omega

set_option maxHeartbeats 4000000 in
set_option maxRecDepth 100000 in
theorem law_merge {p : Program} {l : Launch} {e : Env} {s : State} {m : MethodId} {below : List Frame} {meth : Method} {c : Code} {dC : Nat → ClassId} {dI : Nat → Nat → Nat} {b L : Nat} {xs : Nat → Int32} (hL : L = 11) (C0 : lw_At p s m meth c b L xs) (hN : nw_ok s) (h0 : Nat) (hRows : Nat) (hMer : Nat) (hEra : Nat) (hTape : Nat) (hRea : Nat) (hTra : Nat) (hWor : Nat) (hPla : Nat) (hMod : Nat) (hHe1 : Nat) (hHe2 : Nat) (aT : Nat) (aN : Nat) (cT : ClassId) (cN : ClassId) (fT : Nat → Int32) (m0 : Nat) (m_rowPerson : Nat) (m_rowStream : Nat) (m_rowMoment : Nat) (m_rowKnown : Nat) (m_rowValue : Nat) (m_isGone : Nat) (m_mergeTo : Nat) (m_mergeKnown : Nat) (m_isErased : Nat) (m_tape : Nat) (m_five : Nat) (m_size0 : Nat) (m_step : Nat) (m_stepA : Nat) (m_stepB : Nat) (m_stepC : Nat) (m_values : Nat) (m_heap : Nat) (m_isOne : Nat) (m_lawFrom : Nat) (m_lawTo : Nat) (m_hasLaw : Nat) (m_limits : Nat) (m_held : Nat) (m_hasKept : Nat) (m_kept : Nat) (m_keptAt : Nat) (m_placeTrait : Nat) (m_placePerson : Nat) (m_placeMoment : Nat) (m_placeValue : Nat) (m_isFilled : Nat) (m_uses : Nat) (m_heapsOne : Nat) (m_heapsOther : Nat) (k_mergeTo : ClassId) (k_mergeKnown : ClassId) (fM : Nat → Int32) (hT : ∀ k : Nat, k < 20 → fT k = (-1)) (hM : ∀ k : Nat, k < 20 → fM k = (-1)) (H : Heap) (locs : List Loc) (hK : va_K (dC, dI) vwCl [(cT, .int), (cN, .int), (k_mergeTo, .int), (k_mergeKnown, .int)] s) (hP : va_P (dC, dI) vwCl [(h0, .inr (8, [.ref hRows, .ref hMer, .ref hEra, .ref hTape, .ref hRea, .ref hTra, .ref hWor, .ref hPla, .ref hMod, .ref hHe1, .ref hHe2, .int 0, .int 0, .int 0, .int 0, .int (-1), .int 0])), (hMer, .inr (0, [.ref aT, .ref aN, .int 0])), (aT, .inl (cT, 20, .inl fT)), (aN, .inl (cN, 20, .inl (fun _ => 0))), (m0, .inr (9, [.int 0, .int 0, .int 0, .ref m_rowPerson, .ref m_rowStream, .ref m_rowMoment, .ref m_rowKnown, .ref m_rowValue, .ref m_isGone, .ref m_mergeTo, .ref m_mergeKnown, .int 0, .ref m_isErased, .ref m_tape, .int 0, .int 0, .int 0, .int 0, .int (-1), .int 0, .ref m_five, .int 0, .int 0, .int 0, .int 0, .ref m_size0, .ref m_step, .ref m_stepA, .ref m_stepB, .ref m_stepC, .ref m_values, .ref m_heap, .ref m_isOne, .ref m_lawFrom, .ref m_lawTo, .ref m_hasLaw, .ref m_limits, .ref m_held, .ref m_hasKept, .ref m_kept, .ref m_keptAt, .int 0, .ref m_placeTrait, .ref m_placePerson, .ref m_placeMoment, .ref m_placeValue, .ref m_isFilled, .int 0, .ref m_uses, .ref m_heapsOne, .ref m_heapsOther])), (m_mergeTo, .inl (k_mergeTo, 20, .inl fM)), (m_mergeKnown, .inl (k_mergeKnown, 20, .inl (fun _ => 0)))] H) (hD : va_D (fun q : Nat => s.heap.size ≤ q) [(h0, .inr (8, [.ref hRows, .ref hMer, .ref hEra, .ref hTape, .ref hRea, .ref hTra, .ref hWor, .ref hPla, .ref hMod, .ref hHe1, .ref hHe2, .int 0, .int 0, .int 0, .int 0, .int (-1), .int 0])), (hMer, .inr (0, [.ref aT, .ref aN, .int 0])), (aT, .inl (cT, 20, .inl fT)), (aN, .inl (cN, 20, .inl (fun _ => 0))), (m0, .inr (9, [.int 0, .int 0, .int 0, .ref m_rowPerson, .ref m_rowStream, .ref m_rowMoment, .ref m_rowKnown, .ref m_rowValue, .ref m_isGone, .ref m_mergeTo, .ref m_mergeKnown, .int 0, .ref m_isErased, .ref m_tape, .int 0, .int 0, .int 0, .int 0, .int (-1), .int 0, .ref m_five, .int 0, .int 0, .int 0, .int 0, .ref m_size0, .ref m_step, .ref m_stepA, .ref m_stepB, .ref m_stepC, .ref m_values, .ref m_heap, .ref m_isOne, .ref m_lawFrom, .ref m_lawTo, .ref m_hasLaw, .ref m_limits, .ref m_held, .ref m_hasKept, .ref m_kept, .ref m_keptAt, .int 0, .ref m_placeTrait, .ref m_placePerson, .ref m_placeMoment, .ref m_placeValue, .ref m_isFilled, .int 0, .ref m_uses, .ref m_heapsOne, .ref m_heapsOther])), (m_mergeTo, .inl (k_mergeTo, 20, .inl fM)), (m_mergeKnown, .inl (k_mergeKnown, 20, .inl (fun _ => 0)))]) (hS : va_S (fun q : Nat => s.heap.size ≤ q) s.heap H locs) (ls : Array Slot) (hl : lv_has ls 4 [(3, .int 0), (2, .ref m0), (1, .ref h0), (0, .ref b)]) : W p l e room_1 s m #[Value.ref b] below meth c H locs 600000 7302250 (lw_Z below #[Value.ref b] s) (F0 m 238 ls []) := by
  obtain ⟨hx, hb, hr, hml, hown, hts, hX, hbl, hlocks, hgv⟩ := id C0
  have hts := fun w h => hts w (wsL_law_in w h)
  have hown : s.vm.findClass RL = some m.cls := hown
  have hA : ∀ q : Nat, s.heap.size ≤ q → (fun q : Nat => s.heap.size ≤ q) q := fun _ h => h
  have hbA : ¬ (fun q : Nat => s.heap.size ≤ q) b := Nat.not_le.mpr hbl
  obtain ⟨z1, ez1⟩ : ∃ z : Int32, z = xs (1 : Int32).toNatClampNeg := ⟨_, rfl⟩
  obtain ⟨z2, ez2⟩ : ∃ z : Int32, z = xs (2 : Int32).toNatClampNeg := ⟨_, rfl⟩
  obtain ⟨z3, ez3⟩ : ∃ z : Int32, z = xs (3 : Int32).toNatClampNeg := ⟨_, rfl⟩
  refine lv_aload_n hx hb dL_law_238 rfl (lv_at hl 2 rfl) ?_
  refine lv_aload_n hx hb dL_law_239 rfl (lv_at hl 3 rfl) ?_
  refine lv_iload_n hx hb dL_law_240 rfl (lv_at hl 0 rfl) ?_
  refine lv_iconst (v := 1) hx hb dL_law_241 (by decide) ?_
  refine lv_iadd hx hb dL_law_242 ?_
  refine lv_topi (fun x_1 ex_1 => ?_)
  obtain rfl : x_1 = 1 := ex_1.trans (by decide)
  refine va_sld hx hb hX hbl hbA hS (vp_in_iff.mpr ⟨by decide, by rw [hL]; decide⟩) dL_law_243 ?_
  refine lv_topi (fun x_2 ex_2 => ?_)
  obtain rfl : z1 = x_2 := ez1.trans ex_2.symm
  refine lv_aload_n hx hb dL_law_244 rfl (lv_at hl 3 rfl) ?_
  refine lv_iload_n hx hb dL_law_245 rfl (lv_at hl 0 rfl) ?_
  refine lv_iconst (v := 2) hx hb dL_law_246 (by decide) ?_
  refine lv_iadd hx hb dL_law_247 ?_
  refine lv_topi (fun x_3 ex_3 => ?_)
  obtain rfl : x_3 = 2 := ex_3.trans (by decide)
  refine va_sld hx hb hX hbl hbA hS (vp_in_iff.mpr ⟨by decide, by rw [hL]; decide⟩) dL_law_248 ?_
  refine lv_topi (fun x_4 ex_4 => ?_)
  obtain rfl : z2 = x_4 := ez2.trans ex_4.symm
  refine lv_aload_n hx hb dL_law_249 rfl (lv_at hl 3 rfl) ?_
  refine lv_iload_n hx hb dL_law_250 rfl (lv_at hl 0 rfl) ?_
  refine lv_iconst (v := 3) hx hb dL_law_251 (by decide) ?_
  refine lv_iadd hx hb dL_law_252 ?_
  refine lv_topi (fun x_5 ex_5 => ?_)
  obtain rfl : x_5 = 3 := ex_5.trans (by decide)
  refine va_sld hx hb hX hbl hbA hS (vp_in_iff.mpr ⟨by decide, by rw [hL]; decide⟩) dL_law_253 ?_
  refine lv_topi (fun x_6 ex_6 => ?_)
  obtain rfl : z3 = x_6 := ez3.trans ex_6.symm
  have hk_7 : (0 : Int32).toInt = 0 := by decide
  have hk_8 : ((-1) : Int32).toInt = (-1) := by decide
  have hPc := hP.sub (ws' := [(h0, .inr (8, [.ref hRows, .ref hMer, .ref hEra, .ref hTape, .ref hRea, .ref hTra, .ref hWor, .ref hPla, .ref hMod, .ref hHe1, .ref hHe2, .int 0, .int 0, .int 0, .int 0, .int (-1), .int 0])), (hMer, .inr (0, [.ref aT, .ref aN, .int 0])), (aT, .inl (cT, 20, .inl fT)), (aN, .inl (cN, 20, .inl (fun _ => 0)))]) [0, 1, 2, 3] rfl
  have hDc := hD.sub (ws' := [(h0, .inr (8, [.ref hRows, .ref hMer, .ref hEra, .ref hTape, .ref hRea, .ref hTra, .ref hWor, .ref hPla, .ref hMod, .ref hHe1, .ref hHe2, .int 0, .int 0, .int 0, .int 0, .int (-1), .int 0])), (hMer, .inr (0, [.ref aT, .ref aN, .int 0])), (aT, .inl (cT, 20, .inl fT)), (aN, .inl (cN, 20, .inl (fun _ => 0)))]) [0, 1, 2, 3] (by decide) rfl
  have hKc := hK.sub (tys' := [(cT, .int), (cN, .int)]) [0, 1] rfl
  have hFc := va_free (wc := [(h0, .inr (8, [.ref hRows, .ref hMer, .ref hEra, .ref hTape, .ref hRea, .ref hTra, .ref hWor, .ref hPla, .ref hMod, .ref hHe1, .ref hHe2, .int 0, .int 0, .int 0, .int 0, .int (-1), .int 0])), (hMer, .inr (0, [.ref aT, .ref aN, .int 0])), (aT, .inl (cT, 20, .inl fT)), (aN, .inl (cN, 20, .inl (fun _ => 0)))]) hD hS hA [0, 1, 2, 3] rfl
  refine va_calli (va_runV (As := [.int z1, .int z2, .int z3]) (rest := []) ⟨hx, hb, hml, hown, hts⟩ (c_X8_merge l dC dI H.size h0 hRows hMer hEra hTape hRea hTra hWor hPla hMod hHe1 hHe2 aT aN cT cN fT z1 z2 z3 hT) (cwV 3 hts gL_law_X8_merge rfl rfl rfl (by decide +kernel) ⟨Nat.le_of_ble_eq_true rfl, Nat.le_of_ble_eq_true rfl⟩) ⟨fun a U g mk q => by obtain ⟨q0, q1, qP, qK, qD, qN⟩ := q; exact ⟨q0, q1, qP, va_K.moved (u := U) (U := U.calling g mk a) (Vm.Alike.refl U.vm) qK, qD, qN.same rfl⟩, va_recv hKc hPc (ci := 8) (q0 := 0) rfl rfl, fun U hU hW => ⟨rfl, by rw [hU], by rw [hU]; exact hPc, va_K.moved hW.alike hKc, hDc.weaken (fun _ _ _ _ => trivial), hN.warm hW⟩⟩ rfl rfl hl.1 rfl (lv_room (Nat.le_of_ble_eq_true rfl)) dL_law_254 ⟨Nat.le_of_ble_eq_true rfl, Nat.le_of_ble_eq_true rfl⟩) hS (fun q _ h => hFc q h) hFc (fun r_9 u_10 t H1 locs ht hvm hw_11 hB hz1 hk1 hS => ?_)
  try dsimp only at hw_11
  have hP1 : va_P (dC, dI) vwCl [] H1 := fun k q h => by simp at h
  have hD1 : va_D (va_A [(h0, .inr (8, [.ref hRows, .ref hMer, .ref hEra, .ref hTape, .ref hRea, .ref hTra, .ref hWor, .ref hPla, .ref hMod, .ref hHe1, .ref hHe2, .int 0, .int 0, .int 0, .int 0, .int (-1), .int 0])), (hMer, .inr (0, [.ref aT, .ref aN, .int 0])), (aT, .inl (cT, 20, .inl fT)), (aN, .inl (cN, 20, .inl (fun _ => 0)))] H.size) [] := ⟨fun i j p q h => by simp at h, fun k q h => by simp at h⟩
  have hK1 : va_K (dC, dI) vwCl [] s := hK.sub [] rfl
  obtain ⟨hP, hD⟩ := va_join (wr := [(m0, .inr (9, [.int 0, .int 0, .int 0, .ref m_rowPerson, .ref m_rowStream, .ref m_rowMoment, .ref m_rowKnown, .ref m_rowValue, .ref m_isGone, .ref m_mergeTo, .ref m_mergeKnown, .int 0, .ref m_isErased, .ref m_tape, .int 0, .int 0, .int 0, .int 0, .int (-1), .int 0, .ref m_five, .int 0, .int 0, .int 0, .int 0, .ref m_size0, .ref m_step, .ref m_stepA, .ref m_stepB, .ref m_stepC, .ref m_values, .ref m_heap, .ref m_isOne, .ref m_lawFrom, .ref m_lawTo, .ref m_hasLaw, .ref m_limits, .ref m_held, .ref m_hasKept, .ref m_kept, .ref m_keptAt, .int 0, .ref m_placeTrait, .ref m_placePerson, .ref m_placeMoment, .ref m_placeValue, .ref m_isFilled, .int 0, .ref m_uses, .ref m_heapsOne, .ref m_heapsOther])), (m_mergeTo, .inl (k_mergeTo, 20, .inl fM)), (m_mergeKnown, .inl (k_mergeKnown, 20, .inl (fun _ => 0)))]) (w1 := []) hP hD [0, 1, 2, 3] [4, 5, 6] rfl rfl (by decide) (by decide) hk1 hFc hP1 hD1
  have hK := (hK.sub (tys' := [(cT, .int), (cN, .int), (k_mergeTo, .int), (k_mergeKnown, .int)]) [0, 1, 2, 3] rfl).app hK1
  generalize H1 = H at hP hS ⊢
  have hP : va_P (dC, dI) vwCl [(m0, .inr (9, [.int 0, .int 0, .int 0, .ref m_rowPerson, .ref m_rowStream, .ref m_rowMoment, .ref m_rowKnown, .ref m_rowValue, .ref m_isGone, .ref m_mergeTo, .ref m_mergeKnown, .int 0, .ref m_isErased, .ref m_tape, .int 0, .int 0, .int 0, .int 0, .int (-1), .int 0, .ref m_five, .int 0, .int 0, .int 0, .int 0, .ref m_size0, .ref m_step, .ref m_stepA, .ref m_stepB, .ref m_stepC, .ref m_values, .ref m_heap, .ref m_isOne, .ref m_lawFrom, .ref m_lawTo, .ref m_hasLaw, .ref m_limits, .ref m_held, .ref m_hasKept, .ref m_kept, .ref m_keptAt, .int 0, .ref m_placeTrait, .ref m_placePerson, .ref m_placeMoment, .ref m_placeValue, .ref m_isFilled, .int 0, .ref m_uses, .ref m_heapsOne, .ref m_heapsOther])), (m_mergeTo, .inl (k_mergeTo, 20, .inl fM)), (m_mergeKnown, .inl (k_mergeKnown, 20, .inl (fun _ => 0)))] H := hP
  have hD : va_D (fun q : Nat => s.heap.size ≤ q) [(m0, .inr (9, [.int 0, .int 0, .int 0, .ref m_rowPerson, .ref m_rowStream, .ref m_rowMoment, .ref m_rowKnown, .ref m_rowValue, .ref m_isGone, .ref m_mergeTo, .ref m_mergeKnown, .int 0, .ref m_isErased, .ref m_tape, .int 0, .int 0, .int 0, .int 0, .int (-1), .int 0, .ref m_five, .int 0, .int 0, .int 0, .int 0, .ref m_size0, .ref m_step, .ref m_stepA, .ref m_stepB, .ref m_stepC, .ref m_values, .ref m_heap, .ref m_isOne, .ref m_lawFrom, .ref m_lawTo, .ref m_hasLaw, .ref m_limits, .ref m_held, .ref m_hasKept, .ref m_kept, .ref m_keptAt, .int 0, .ref m_placeTrait, .ref m_placePerson, .ref m_placeMoment, .ref m_placeValue, .ref m_isFilled, .int 0, .ref m_uses, .ref m_heapsOne, .ref m_heapsOther])), (m_mergeTo, .inl (k_mergeTo, 20, .inl fM)), (m_mergeKnown, .inl (k_mergeKnown, 20, .inl (fun _ => 0)))] := hD
  have hK : va_K (dC, dI) vwCl [(cT, .int), (cN, .int), (k_mergeTo, .int), (k_mergeKnown, .int)] s := hK
  refine lv_aload_n hx hb dL_law_257 rfl (lv_at hl 1 rfl) ?_
  refine lv_aload_n hx hb dL_law_258 rfl (lv_at hl 3 rfl) ?_
  refine lv_iload_n hx hb dL_law_259 rfl (lv_at hl 0 rfl) ?_
  refine lv_iconst (v := 1) hx hb dL_law_260 (by decide) ?_
  refine lv_iadd hx hb dL_law_261 ?_
  refine lv_topi (fun x_12 ex_12 => ?_)
  obtain rfl : x_12 = 1 := ex_12.trans (by decide)
  refine va_sld hx hb hX hbl hbA hS (vp_in_iff.mpr ⟨by decide, by rw [hL]; decide⟩) dL_law_262 ?_
  refine lv_topi (fun x_13 ex_13 => ?_)
  obtain rfl : z1 = x_13 := ez1.trans ex_13.symm
  refine lv_aload_n hx hb dL_law_263 rfl (lv_at hl 3 rfl) ?_
  refine lv_iload_n hx hb dL_law_264 rfl (lv_at hl 0 rfl) ?_
  refine lv_iconst (v := 2) hx hb dL_law_265 (by decide) ?_
  refine lv_iadd hx hb dL_law_266 ?_
  refine lv_topi (fun x_14 ex_14 => ?_)
  obtain rfl : x_14 = 2 := ex_14.trans (by decide)
  refine va_sld hx hb hX hbl hbA hS (vp_in_iff.mpr ⟨by decide, by rw [hL]; decide⟩) dL_law_267 ?_
  refine lv_topi (fun x_15 ex_15 => ?_)
  obtain rfl : z2 = x_15 := ez2.trans ex_15.symm
  refine lv_aload_n hx hb dL_law_268 rfl (lv_at hl 3 rfl) ?_
  refine lv_iload_n hx hb dL_law_269 rfl (lv_at hl 0 rfl) ?_
  refine lv_iconst (v := 3) hx hb dL_law_270 (by decide) ?_
  refine lv_iadd hx hb dL_law_271 ?_
  refine lv_topi (fun x_16 ex_16 => ?_)
  obtain rfl : x_16 = 3 := ex_16.trans (by decide)
  refine va_sld hx hb hX hbl hbA hS (vp_in_iff.mpr ⟨by decide, by rw [hL]; decide⟩) dL_law_272 ?_
  refine lv_topi (fun x_17 ex_17 => ?_)
  obtain rfl : z3 = x_17 := ez3.trans ex_17.symm
  have hk_18 : (0 : Int32).toInt = 0 := by decide
  have hk_19 : ((-1) : Int32).toInt = (-1) := by decide
  have hPc := hP.sub (ws' := [(m0, .inr (9, [.int 0, .int 0, .int 0, .ref m_rowPerson, .ref m_rowStream, .ref m_rowMoment, .ref m_rowKnown, .ref m_rowValue, .ref m_isGone, .ref m_mergeTo, .ref m_mergeKnown, .int 0, .ref m_isErased, .ref m_tape, .int 0, .int 0, .int 0, .int 0, .int (-1), .int 0, .ref m_five, .int 0, .int 0, .int 0, .int 0, .ref m_size0, .ref m_step, .ref m_stepA, .ref m_stepB, .ref m_stepC, .ref m_values, .ref m_heap, .ref m_isOne, .ref m_lawFrom, .ref m_lawTo, .ref m_hasLaw, .ref m_limits, .ref m_held, .ref m_hasKept, .ref m_kept, .ref m_keptAt, .int 0, .ref m_placeTrait, .ref m_placePerson, .ref m_placeMoment, .ref m_placeValue, .ref m_isFilled, .int 0, .ref m_uses, .ref m_heapsOne, .ref m_heapsOther])), (m_mergeTo, .inl (k_mergeTo, 20, .inl fM)), (m_mergeKnown, .inl (k_mergeKnown, 20, .inl (fun _ => 0)))]) [0, 1, 2] rfl
  have hDc := hD.sub (ws' := [(m0, .inr (9, [.int 0, .int 0, .int 0, .ref m_rowPerson, .ref m_rowStream, .ref m_rowMoment, .ref m_rowKnown, .ref m_rowValue, .ref m_isGone, .ref m_mergeTo, .ref m_mergeKnown, .int 0, .ref m_isErased, .ref m_tape, .int 0, .int 0, .int 0, .int 0, .int (-1), .int 0, .ref m_five, .int 0, .int 0, .int 0, .int 0, .ref m_size0, .ref m_step, .ref m_stepA, .ref m_stepB, .ref m_stepC, .ref m_values, .ref m_heap, .ref m_isOne, .ref m_lawFrom, .ref m_lawTo, .ref m_hasLaw, .ref m_limits, .ref m_held, .ref m_hasKept, .ref m_kept, .ref m_keptAt, .int 0, .ref m_placeTrait, .ref m_placePerson, .ref m_placeMoment, .ref m_placeValue, .ref m_isFilled, .int 0, .ref m_uses, .ref m_heapsOne, .ref m_heapsOther])), (m_mergeTo, .inl (k_mergeTo, 20, .inl fM)), (m_mergeKnown, .inl (k_mergeKnown, 20, .inl (fun _ => 0)))]) [0, 1, 2] (by decide) rfl
  have hKc := hK.sub (tys' := [(k_mergeTo, .int), (k_mergeKnown, .int)]) [2, 3] rfl
  have hFc := va_free (wc := [(m0, .inr (9, [.int 0, .int 0, .int 0, .ref m_rowPerson, .ref m_rowStream, .ref m_rowMoment, .ref m_rowKnown, .ref m_rowValue, .ref m_isGone, .ref m_mergeTo, .ref m_mergeKnown, .int 0, .ref m_isErased, .ref m_tape, .int 0, .int 0, .int 0, .int 0, .int (-1), .int 0, .ref m_five, .int 0, .int 0, .int 0, .int 0, .ref m_size0, .ref m_step, .ref m_stepA, .ref m_stepB, .ref m_stepC, .ref m_values, .ref m_heap, .ref m_isOne, .ref m_lawFrom, .ref m_lawTo, .ref m_hasLaw, .ref m_limits, .ref m_held, .ref m_hasKept, .ref m_kept, .ref m_keptAt, .int 0, .ref m_placeTrait, .ref m_placePerson, .ref m_placeMoment, .ref m_placeValue, .ref m_isFilled, .int 0, .ref m_uses, .ref m_heapsOne, .ref m_heapsOther])), (m_mergeTo, .inl (k_mergeTo, 20, .inl fM)), (m_mergeKnown, .inl (k_mergeKnown, 20, .inl (fun _ => 0)))]) hD hS hA [0, 1, 2] rfl
  refine va_calli (va_runV (As := [.int z1, .int z2, .int z3]) (rest := [.int r_9]) ⟨hx, hb, hml, hown, hts⟩ (c_X9_merge l dC dI H.size m0 m_rowPerson m_rowStream m_rowMoment m_rowKnown m_rowValue m_isGone m_mergeTo m_mergeKnown m_isErased m_tape m_five m_size0 m_step m_stepA m_stepB m_stepC m_values m_heap m_isOne m_lawFrom m_lawTo m_hasLaw m_limits m_held m_hasKept m_kept m_keptAt m_placeTrait m_placePerson m_placeMoment m_placeValue m_isFilled m_uses m_heapsOne m_heapsOther k_mergeTo k_mergeKnown fM z1 z2 z3 hM) (cwV 3 hts gL_law_X9_merge rfl rfl rfl (by decide +kernel) ⟨Nat.le_of_ble_eq_true rfl, Nat.le_of_ble_eq_true rfl⟩) ⟨fun a U g mk q => by obtain ⟨q0, q1, qP, qK, qD, qN⟩ := q; exact ⟨q0, q1, qP, va_K.moved (u := U) (U := U.calling g mk a) (Vm.Alike.refl U.vm) qK, qD, qN.same rfl⟩, va_recv hKc hPc (ci := 9) (q0 := 0) rfl rfl, fun U hU hW => ⟨rfl, by rw [hU], by rw [hU]; exact hPc, va_K.moved hW.alike hKc, hDc.weaken (fun _ _ _ _ => trivial), hN.warm hW⟩⟩ rfl rfl hl.1 rfl (lv_room (Nat.le_of_ble_eq_true rfl)) dL_law_273 ⟨Nat.le_of_ble_eq_true rfl, Nat.le_of_ble_eq_true rfl⟩) hS (fun q _ h => hFc q h) hFc (fun r_20 u_21 t H1 locs ht hvm hw_22 hB hz1 hk1 hS => ?_)
  try dsimp only at hw_22
  have hP1 : va_P (dC, dI) vwCl [] H1 := fun k q h => by simp at h
  have hD1 : va_D (va_A [(m0, .inr (9, [.int 0, .int 0, .int 0, .ref m_rowPerson, .ref m_rowStream, .ref m_rowMoment, .ref m_rowKnown, .ref m_rowValue, .ref m_isGone, .ref m_mergeTo, .ref m_mergeKnown, .int 0, .ref m_isErased, .ref m_tape, .int 0, .int 0, .int 0, .int 0, .int (-1), .int 0, .ref m_five, .int 0, .int 0, .int 0, .int 0, .ref m_size0, .ref m_step, .ref m_stepA, .ref m_stepB, .ref m_stepC, .ref m_values, .ref m_heap, .ref m_isOne, .ref m_lawFrom, .ref m_lawTo, .ref m_hasLaw, .ref m_limits, .ref m_held, .ref m_hasKept, .ref m_kept, .ref m_keptAt, .int 0, .ref m_placeTrait, .ref m_placePerson, .ref m_placeMoment, .ref m_placeValue, .ref m_isFilled, .int 0, .ref m_uses, .ref m_heapsOne, .ref m_heapsOther])), (m_mergeTo, .inl (k_mergeTo, 20, .inl fM)), (m_mergeKnown, .inl (k_mergeKnown, 20, .inl (fun _ => 0)))] H.size) [] := ⟨fun i j p q h => by simp at h, fun k q h => by simp at h⟩
  have hK1 : va_K (dC, dI) vwCl [] s := hK.sub [] rfl
  obtain ⟨hP, hD⟩ := va_join (wr := []) (w1 := []) hP hD [0, 1, 2] [] rfl rfl (by decide) (by decide) hk1 hFc hP1 hD1
  have hK := (hK.sub (tys' := [(cT, .int), (cN, .int), (k_mergeTo, .int), (k_mergeKnown, .int)]) [0, 1, 2, 3] rfl).app hK1
  generalize H1 = H at hP hS ⊢
  have hP : va_P (dC, dI) vwCl [] H := hP
  have hD : va_D (fun q : Nat => s.heap.size ≤ q) [] := hD
  have hK : va_K (dC, dI) vwCl [(cT, .int), (cN, .int), (k_mergeTo, .int), (k_mergeKnown, .int)] s := hK
  refine lv_icmp_eq (tgt := 1234) hx hb dL_law_276 (by decide) (fun c_23 => ?_) (fun c_23 => ?_)
  · exact law_tail hL C0 hS (lv_sub hl [0, 3] rfl)
  · have dc_23 : ¬ r_9.toInt = r_20.toInt := jI_ne c_23 rfl rfl
    exfalso; omega

set_option maxHeartbeats 4000000 in
set_option maxRecDepth 100000 in
theorem law_leads {p : Program} {l : Launch} {e : Env} {s : State} {m : MethodId} {below : List Frame} {meth : Method} {c : Code} {dC : Nat → ClassId} {dI : Nat → Nat → Nat} {b L : Nat} {xs : Nat → Int32} (hL : L = 11) (C0 : lw_At p s m meth c b L xs) (hN : nw_ok s) (h0 : Nat) (hRows : Nat) (hMer : Nat) (hEra : Nat) (hTape : Nat) (hRea : Nat) (hTra : Nat) (hWor : Nat) (hPla : Nat) (hMod : Nat) (hHe1 : Nat) (hHe2 : Nat) (aT : Nat) (aN : Nat) (cT : ClassId) (cN : ClassId) (fT : Nat → Int32) (m0 : Nat) (m_rowPerson : Nat) (m_rowStream : Nat) (m_rowMoment : Nat) (m_rowKnown : Nat) (m_rowValue : Nat) (m_isGone : Nat) (m_mergeTo : Nat) (m_mergeKnown : Nat) (m_isErased : Nat) (m_tape : Nat) (m_five : Nat) (m_size0 : Nat) (m_step : Nat) (m_stepA : Nat) (m_stepB : Nat) (m_stepC : Nat) (m_values : Nat) (m_heap : Nat) (m_isOne : Nat) (m_lawFrom : Nat) (m_lawTo : Nat) (m_hasLaw : Nat) (m_limits : Nat) (m_held : Nat) (m_hasKept : Nat) (m_kept : Nat) (m_keptAt : Nat) (m_placeTrait : Nat) (m_placePerson : Nat) (m_placeMoment : Nat) (m_placeValue : Nat) (m_isFilled : Nat) (m_uses : Nat) (m_heapsOne : Nat) (m_heapsOther : Nat) (k_mergeTo : ClassId) (k_mergeKnown : ClassId) (fM : Nat → Int32) (hT : ∀ k : Nat, k < 20 → fT k = (-1)) (hM : ∀ k : Nat, k < 20 → fM k = (-1)) (H : Heap) (locs : List Loc) (hK : va_K (dC, dI) vwCl [(cT, .int), (cN, .int), (k_mergeTo, .int), (k_mergeKnown, .int)] s) (hP : va_P (dC, dI) vwCl [(h0, .inr (8, [.ref hRows, .ref hMer, .ref hEra, .ref hTape, .ref hRea, .ref hTra, .ref hWor, .ref hPla, .ref hMod, .ref hHe1, .ref hHe2, .int 0, .int 0, .int 0, .int 0, .int (-1), .int 0])), (hMer, .inr (0, [.ref aT, .ref aN, .int 0])), (aT, .inl (cT, 20, .inl fT)), (aN, .inl (cN, 20, .inl (fun _ => 0))), (m0, .inr (9, [.int 0, .int 0, .int 0, .ref m_rowPerson, .ref m_rowStream, .ref m_rowMoment, .ref m_rowKnown, .ref m_rowValue, .ref m_isGone, .ref m_mergeTo, .ref m_mergeKnown, .int 0, .ref m_isErased, .ref m_tape, .int 0, .int 0, .int 0, .int 0, .int (-1), .int 0, .ref m_five, .int 0, .int 0, .int 0, .int 0, .ref m_size0, .ref m_step, .ref m_stepA, .ref m_stepB, .ref m_stepC, .ref m_values, .ref m_heap, .ref m_isOne, .ref m_lawFrom, .ref m_lawTo, .ref m_hasLaw, .ref m_limits, .ref m_held, .ref m_hasKept, .ref m_kept, .ref m_keptAt, .int 0, .ref m_placeTrait, .ref m_placePerson, .ref m_placeMoment, .ref m_placeValue, .ref m_isFilled, .int 0, .ref m_uses, .ref m_heapsOne, .ref m_heapsOther])), (m_mergeTo, .inl (k_mergeTo, 20, .inl fM)), (m_mergeKnown, .inl (k_mergeKnown, 20, .inl (fun _ => 0)))] H) (hD : va_D (fun q : Nat => s.heap.size ≤ q) [(h0, .inr (8, [.ref hRows, .ref hMer, .ref hEra, .ref hTape, .ref hRea, .ref hTra, .ref hWor, .ref hPla, .ref hMod, .ref hHe1, .ref hHe2, .int 0, .int 0, .int 0, .int 0, .int (-1), .int 0])), (hMer, .inr (0, [.ref aT, .ref aN, .int 0])), (aT, .inl (cT, 20, .inl fT)), (aN, .inl (cN, 20, .inl (fun _ => 0))), (m0, .inr (9, [.int 0, .int 0, .int 0, .ref m_rowPerson, .ref m_rowStream, .ref m_rowMoment, .ref m_rowKnown, .ref m_rowValue, .ref m_isGone, .ref m_mergeTo, .ref m_mergeKnown, .int 0, .ref m_isErased, .ref m_tape, .int 0, .int 0, .int 0, .int 0, .int (-1), .int 0, .ref m_five, .int 0, .int 0, .int 0, .int 0, .ref m_size0, .ref m_step, .ref m_stepA, .ref m_stepB, .ref m_stepC, .ref m_values, .ref m_heap, .ref m_isOne, .ref m_lawFrom, .ref m_lawTo, .ref m_hasLaw, .ref m_limits, .ref m_held, .ref m_hasKept, .ref m_kept, .ref m_keptAt, .int 0, .ref m_placeTrait, .ref m_placePerson, .ref m_placeMoment, .ref m_placeValue, .ref m_isFilled, .int 0, .ref m_uses, .ref m_heapsOne, .ref m_heapsOther])), (m_mergeTo, .inl (k_mergeTo, 20, .inl fM)), (m_mergeKnown, .inl (k_mergeKnown, 20, .inl (fun _ => 0)))]) (hS : va_S (fun q : Nat => s.heap.size ≤ q) s.heap H locs) (ls : Array Slot) (hl : lv_has ls 4 [(3, .int 0), (2, .ref m0), (1, .ref h0), (0, .ref b)]) : W p l e room_1 s m #[Value.ref b] below meth c H locs 600000 7302250 (lw_Z below #[Value.ref b] s) (F0 m 281 ls []) := by
  obtain ⟨hx, hb, hr, hml, hown, hts, hX, hbl, hlocks, hgv⟩ := id C0
  have hts := fun w h => hts w (wsL_law_in w h)
  have hown : s.vm.findClass RL = some m.cls := hown
  have hA : ∀ q : Nat, s.heap.size ≤ q → (fun q : Nat => s.heap.size ≤ q) q := fun _ h => h
  have hbA : ¬ (fun q : Nat => s.heap.size ≤ q) b := Nat.not_le.mpr hbl
  obtain ⟨z1, ez1⟩ : ∃ z : Int32, z = xs (1 : Int32).toNatClampNeg := ⟨_, rfl⟩
  obtain ⟨z2, ez2⟩ : ∃ z : Int32, z = xs (2 : Int32).toNatClampNeg := ⟨_, rfl⟩
  refine lv_aload_n hx hb dL_law_281 rfl (lv_at hl 2 rfl) ?_
  refine lv_aload_n hx hb dL_law_282 rfl (lv_at hl 3 rfl) ?_
  refine lv_iload_n hx hb dL_law_283 rfl (lv_at hl 0 rfl) ?_
  refine lv_iconst (v := 1) hx hb dL_law_284 (by decide) ?_
  refine lv_iadd hx hb dL_law_285 ?_
  refine lv_topi (fun x_1 ex_1 => ?_)
  obtain rfl : x_1 = 1 := ex_1.trans (by decide)
  refine va_sld hx hb hX hbl hbA hS (vp_in_iff.mpr ⟨by decide, by rw [hL]; decide⟩) dL_law_286 ?_
  refine lv_topi (fun x_2 ex_2 => ?_)
  obtain rfl : z1 = x_2 := ez1.trans ex_2.symm
  refine lv_aload_n hx hb dL_law_287 rfl (lv_at hl 3 rfl) ?_
  refine lv_iload_n hx hb dL_law_288 rfl (lv_at hl 0 rfl) ?_
  refine lv_iconst (v := 2) hx hb dL_law_289 (by decide) ?_
  refine lv_iadd hx hb dL_law_290 ?_
  refine lv_topi (fun x_3 ex_3 => ?_)
  obtain rfl : x_3 = 2 := ex_3.trans (by decide)
  refine va_sld hx hb hX hbl hbA hS (vp_in_iff.mpr ⟨by decide, by rw [hL]; decide⟩) dL_law_291 ?_
  refine lv_topi (fun x_4 ex_4 => ?_)
  obtain rfl : z2 = x_4 := ez2.trans ex_4.symm
  have hk_5 : (0 : Int32).toInt = 0 := by decide
  have hk_6 : ((-1) : Int32).toInt = (-1) := by decide
  have hPc := hP.sub (ws' := [(h0, .inr (8, [.ref hRows, .ref hMer, .ref hEra, .ref hTape, .ref hRea, .ref hTra, .ref hWor, .ref hPla, .ref hMod, .ref hHe1, .ref hHe2, .int 0, .int 0, .int 0, .int 0, .int (-1), .int 0])), (hMer, .inr (0, [.ref aT, .ref aN, .int 0])), (aT, .inl (cT, 20, .inl fT)), (aN, .inl (cN, 20, .inl (fun _ => 0)))]) [0, 1, 2, 3] rfl
  have hDc := hD.sub (ws' := [(h0, .inr (8, [.ref hRows, .ref hMer, .ref hEra, .ref hTape, .ref hRea, .ref hTra, .ref hWor, .ref hPla, .ref hMod, .ref hHe1, .ref hHe2, .int 0, .int 0, .int 0, .int 0, .int (-1), .int 0])), (hMer, .inr (0, [.ref aT, .ref aN, .int 0])), (aT, .inl (cT, 20, .inl fT)), (aN, .inl (cN, 20, .inl (fun _ => 0)))]) [0, 1, 2, 3] (by decide) rfl
  have hKc := hK.sub (tys' := [(cT, .int), (cN, .int)]) [0, 1] rfl
  have hFc := va_free (wc := [(h0, .inr (8, [.ref hRows, .ref hMer, .ref hEra, .ref hTape, .ref hRea, .ref hTra, .ref hWor, .ref hPla, .ref hMod, .ref hHe1, .ref hHe2, .int 0, .int 0, .int 0, .int 0, .int (-1), .int 0])), (hMer, .inr (0, [.ref aT, .ref aN, .int 0])), (aT, .inl (cT, 20, .inl fT)), (aN, .inl (cN, 20, .inl (fun _ => 0)))]) hD hS hA [0, 1, 2, 3] rfl
  refine va_calli (va_runV (As := [.int z1, .int z2]) (rest := []) ⟨hx, hb, hml, hown, hts⟩ (c_X8_leads l dC dI H.size h0 hRows hMer hEra hTape hRea hTra hWor hPla hMod hHe1 hHe2 aT aN cT cN fT z1 z2 hT) (cwV 2 hts gL_law_X8_leads rfl rfl rfl (by decide +kernel) ⟨Nat.le_of_ble_eq_true rfl, Nat.le_of_ble_eq_true rfl⟩) ⟨fun a U g mk q => by obtain ⟨q0, q1, qP, qK, qD, qN⟩ := q; exact ⟨q0, q1, qP, va_K.moved (u := U) (U := U.calling g mk a) (Vm.Alike.refl U.vm) qK, qD, qN.same rfl⟩, va_recv hKc hPc (ci := 8) (q0 := 0) rfl rfl, fun U hU hW => ⟨rfl, by rw [hU], by rw [hU]; exact hPc, va_K.moved hW.alike hKc, hDc.weaken (fun _ _ _ _ => trivial), hN.warm hW⟩⟩ rfl rfl hl.1 rfl (lv_room (Nat.le_of_ble_eq_true rfl)) dL_law_292 ⟨Nat.le_of_ble_eq_true rfl, Nat.le_of_ble_eq_true rfl⟩) hS (fun q _ h => hFc q h) hFc (fun r_7 u_8 t H1 locs ht hvm hw_9 hB hz1 hk1 hS => ?_)
  try dsimp only at hw_9
  have hP1 : va_P (dC, dI) vwCl [] H1 := fun k q h => by simp at h
  have hD1 : va_D (va_A [(h0, .inr (8, [.ref hRows, .ref hMer, .ref hEra, .ref hTape, .ref hRea, .ref hTra, .ref hWor, .ref hPla, .ref hMod, .ref hHe1, .ref hHe2, .int 0, .int 0, .int 0, .int 0, .int (-1), .int 0])), (hMer, .inr (0, [.ref aT, .ref aN, .int 0])), (aT, .inl (cT, 20, .inl fT)), (aN, .inl (cN, 20, .inl (fun _ => 0)))] H.size) [] := ⟨fun i j p q h => by simp at h, fun k q h => by simp at h⟩
  have hK1 : va_K (dC, dI) vwCl [] s := hK.sub [] rfl
  obtain ⟨hP, hD⟩ := va_join (wr := [(m0, .inr (9, [.int 0, .int 0, .int 0, .ref m_rowPerson, .ref m_rowStream, .ref m_rowMoment, .ref m_rowKnown, .ref m_rowValue, .ref m_isGone, .ref m_mergeTo, .ref m_mergeKnown, .int 0, .ref m_isErased, .ref m_tape, .int 0, .int 0, .int 0, .int 0, .int (-1), .int 0, .ref m_five, .int 0, .int 0, .int 0, .int 0, .ref m_size0, .ref m_step, .ref m_stepA, .ref m_stepB, .ref m_stepC, .ref m_values, .ref m_heap, .ref m_isOne, .ref m_lawFrom, .ref m_lawTo, .ref m_hasLaw, .ref m_limits, .ref m_held, .ref m_hasKept, .ref m_kept, .ref m_keptAt, .int 0, .ref m_placeTrait, .ref m_placePerson, .ref m_placeMoment, .ref m_placeValue, .ref m_isFilled, .int 0, .ref m_uses, .ref m_heapsOne, .ref m_heapsOther])), (m_mergeTo, .inl (k_mergeTo, 20, .inl fM)), (m_mergeKnown, .inl (k_mergeKnown, 20, .inl (fun _ => 0)))]) (w1 := []) hP hD [0, 1, 2, 3] [4, 5, 6] rfl rfl (by decide) (by decide) hk1 hFc hP1 hD1
  have hK := (hK.sub (tys' := [(cT, .int), (cN, .int), (k_mergeTo, .int), (k_mergeKnown, .int)]) [0, 1, 2, 3] rfl).app hK1
  generalize H1 = H at hP hS ⊢
  have hP : va_P (dC, dI) vwCl [(m0, .inr (9, [.int 0, .int 0, .int 0, .ref m_rowPerson, .ref m_rowStream, .ref m_rowMoment, .ref m_rowKnown, .ref m_rowValue, .ref m_isGone, .ref m_mergeTo, .ref m_mergeKnown, .int 0, .ref m_isErased, .ref m_tape, .int 0, .int 0, .int 0, .int 0, .int (-1), .int 0, .ref m_five, .int 0, .int 0, .int 0, .int 0, .ref m_size0, .ref m_step, .ref m_stepA, .ref m_stepB, .ref m_stepC, .ref m_values, .ref m_heap, .ref m_isOne, .ref m_lawFrom, .ref m_lawTo, .ref m_hasLaw, .ref m_limits, .ref m_held, .ref m_hasKept, .ref m_kept, .ref m_keptAt, .int 0, .ref m_placeTrait, .ref m_placePerson, .ref m_placeMoment, .ref m_placeValue, .ref m_isFilled, .int 0, .ref m_uses, .ref m_heapsOne, .ref m_heapsOther])), (m_mergeTo, .inl (k_mergeTo, 20, .inl fM)), (m_mergeKnown, .inl (k_mergeKnown, 20, .inl (fun _ => 0)))] H := hP
  have hD : va_D (fun q : Nat => s.heap.size ≤ q) [(m0, .inr (9, [.int 0, .int 0, .int 0, .ref m_rowPerson, .ref m_rowStream, .ref m_rowMoment, .ref m_rowKnown, .ref m_rowValue, .ref m_isGone, .ref m_mergeTo, .ref m_mergeKnown, .int 0, .ref m_isErased, .ref m_tape, .int 0, .int 0, .int 0, .int 0, .int (-1), .int 0, .ref m_five, .int 0, .int 0, .int 0, .int 0, .ref m_size0, .ref m_step, .ref m_stepA, .ref m_stepB, .ref m_stepC, .ref m_values, .ref m_heap, .ref m_isOne, .ref m_lawFrom, .ref m_lawTo, .ref m_hasLaw, .ref m_limits, .ref m_held, .ref m_hasKept, .ref m_kept, .ref m_keptAt, .int 0, .ref m_placeTrait, .ref m_placePerson, .ref m_placeMoment, .ref m_placeValue, .ref m_isFilled, .int 0, .ref m_uses, .ref m_heapsOne, .ref m_heapsOther])), (m_mergeTo, .inl (k_mergeTo, 20, .inl fM)), (m_mergeKnown, .inl (k_mergeKnown, 20, .inl (fun _ => 0)))] := hD
  have hK : va_K (dC, dI) vwCl [(cT, .int), (cN, .int), (k_mergeTo, .int), (k_mergeKnown, .int)] s := hK
  refine lv_aload_n hx hb dL_law_295 rfl (lv_at hl 1 rfl) ?_
  refine lv_aload_n hx hb dL_law_296 rfl (lv_at hl 3 rfl) ?_
  refine lv_iload_n hx hb dL_law_297 rfl (lv_at hl 0 rfl) ?_
  refine lv_iconst (v := 1) hx hb dL_law_298 (by decide) ?_
  refine lv_iadd hx hb dL_law_299 ?_
  refine lv_topi (fun x_10 ex_10 => ?_)
  obtain rfl : x_10 = 1 := ex_10.trans (by decide)
  refine va_sld hx hb hX hbl hbA hS (vp_in_iff.mpr ⟨by decide, by rw [hL]; decide⟩) dL_law_300 ?_
  refine lv_topi (fun x_11 ex_11 => ?_)
  obtain rfl : z1 = x_11 := ez1.trans ex_11.symm
  refine lv_aload_n hx hb dL_law_301 rfl (lv_at hl 3 rfl) ?_
  refine lv_iload_n hx hb dL_law_302 rfl (lv_at hl 0 rfl) ?_
  refine lv_iconst (v := 2) hx hb dL_law_303 (by decide) ?_
  refine lv_iadd hx hb dL_law_304 ?_
  refine lv_topi (fun x_12 ex_12 => ?_)
  obtain rfl : x_12 = 2 := ex_12.trans (by decide)
  refine va_sld hx hb hX hbl hbA hS (vp_in_iff.mpr ⟨by decide, by rw [hL]; decide⟩) dL_law_305 ?_
  refine lv_topi (fun x_13 ex_13 => ?_)
  obtain rfl : z2 = x_13 := ez2.trans ex_13.symm
  have hk_14 : (0 : Int32).toInt = 0 := by decide
  have hk_15 : ((-1) : Int32).toInt = (-1) := by decide
  have hPc := hP.sub (ws' := [(m0, .inr (9, [.int 0, .int 0, .int 0, .ref m_rowPerson, .ref m_rowStream, .ref m_rowMoment, .ref m_rowKnown, .ref m_rowValue, .ref m_isGone, .ref m_mergeTo, .ref m_mergeKnown, .int 0, .ref m_isErased, .ref m_tape, .int 0, .int 0, .int 0, .int 0, .int (-1), .int 0, .ref m_five, .int 0, .int 0, .int 0, .int 0, .ref m_size0, .ref m_step, .ref m_stepA, .ref m_stepB, .ref m_stepC, .ref m_values, .ref m_heap, .ref m_isOne, .ref m_lawFrom, .ref m_lawTo, .ref m_hasLaw, .ref m_limits, .ref m_held, .ref m_hasKept, .ref m_kept, .ref m_keptAt, .int 0, .ref m_placeTrait, .ref m_placePerson, .ref m_placeMoment, .ref m_placeValue, .ref m_isFilled, .int 0, .ref m_uses, .ref m_heapsOne, .ref m_heapsOther])), (m_mergeTo, .inl (k_mergeTo, 20, .inl fM)), (m_mergeKnown, .inl (k_mergeKnown, 20, .inl (fun _ => 0)))]) [0, 1, 2] rfl
  have hDc := hD.sub (ws' := [(m0, .inr (9, [.int 0, .int 0, .int 0, .ref m_rowPerson, .ref m_rowStream, .ref m_rowMoment, .ref m_rowKnown, .ref m_rowValue, .ref m_isGone, .ref m_mergeTo, .ref m_mergeKnown, .int 0, .ref m_isErased, .ref m_tape, .int 0, .int 0, .int 0, .int 0, .int (-1), .int 0, .ref m_five, .int 0, .int 0, .int 0, .int 0, .ref m_size0, .ref m_step, .ref m_stepA, .ref m_stepB, .ref m_stepC, .ref m_values, .ref m_heap, .ref m_isOne, .ref m_lawFrom, .ref m_lawTo, .ref m_hasLaw, .ref m_limits, .ref m_held, .ref m_hasKept, .ref m_kept, .ref m_keptAt, .int 0, .ref m_placeTrait, .ref m_placePerson, .ref m_placeMoment, .ref m_placeValue, .ref m_isFilled, .int 0, .ref m_uses, .ref m_heapsOne, .ref m_heapsOther])), (m_mergeTo, .inl (k_mergeTo, 20, .inl fM)), (m_mergeKnown, .inl (k_mergeKnown, 20, .inl (fun _ => 0)))]) [0, 1, 2] (by decide) rfl
  have hKc := hK.sub (tys' := [(k_mergeTo, .int), (k_mergeKnown, .int)]) [2, 3] rfl
  have hFc := va_free (wc := [(m0, .inr (9, [.int 0, .int 0, .int 0, .ref m_rowPerson, .ref m_rowStream, .ref m_rowMoment, .ref m_rowKnown, .ref m_rowValue, .ref m_isGone, .ref m_mergeTo, .ref m_mergeKnown, .int 0, .ref m_isErased, .ref m_tape, .int 0, .int 0, .int 0, .int 0, .int (-1), .int 0, .ref m_five, .int 0, .int 0, .int 0, .int 0, .ref m_size0, .ref m_step, .ref m_stepA, .ref m_stepB, .ref m_stepC, .ref m_values, .ref m_heap, .ref m_isOne, .ref m_lawFrom, .ref m_lawTo, .ref m_hasLaw, .ref m_limits, .ref m_held, .ref m_hasKept, .ref m_kept, .ref m_keptAt, .int 0, .ref m_placeTrait, .ref m_placePerson, .ref m_placeMoment, .ref m_placeValue, .ref m_isFilled, .int 0, .ref m_uses, .ref m_heapsOne, .ref m_heapsOther])), (m_mergeTo, .inl (k_mergeTo, 20, .inl fM)), (m_mergeKnown, .inl (k_mergeKnown, 20, .inl (fun _ => 0)))]) hD hS hA [0, 1, 2] rfl
  refine va_calli (va_runV (As := [.int z1, .int z2]) (rest := [.int r_7]) ⟨hx, hb, hml, hown, hts⟩ (c_X9_leads l dC dI H.size m0 m_rowPerson m_rowStream m_rowMoment m_rowKnown m_rowValue m_isGone m_mergeTo m_mergeKnown m_isErased m_tape m_five m_size0 m_step m_stepA m_stepB m_stepC m_values m_heap m_isOne m_lawFrom m_lawTo m_hasLaw m_limits m_held m_hasKept m_kept m_keptAt m_placeTrait m_placePerson m_placeMoment m_placeValue m_isFilled m_uses m_heapsOne m_heapsOther k_mergeTo k_mergeKnown fM z1 z2 hM) (cwV 2 hts gL_law_X9_leads rfl rfl rfl (by decide +kernel) ⟨Nat.le_of_ble_eq_true rfl, Nat.le_of_ble_eq_true rfl⟩) ⟨fun a U g mk q => by obtain ⟨q0, q1, qP, qK, qD, qN⟩ := q; exact ⟨q0, q1, qP, va_K.moved (u := U) (U := U.calling g mk a) (Vm.Alike.refl U.vm) qK, qD, qN.same rfl⟩, va_recv hKc hPc (ci := 9) (q0 := 0) rfl rfl, fun U hU hW => ⟨rfl, by rw [hU], by rw [hU]; exact hPc, va_K.moved hW.alike hKc, hDc.weaken (fun _ _ _ _ => trivial), hN.warm hW⟩⟩ rfl rfl hl.1 rfl (lv_room (Nat.le_of_ble_eq_true rfl)) dL_law_306 ⟨Nat.le_of_ble_eq_true rfl, Nat.le_of_ble_eq_true rfl⟩) hS (fun q _ h => hFc q h) hFc (fun r_16 u_17 t H1 locs ht hvm hw_18 hB hz1 hk1 hS => ?_)
  try dsimp only at hw_18
  have hP1 : va_P (dC, dI) vwCl [] H1 := fun k q h => by simp at h
  have hD1 : va_D (va_A [(m0, .inr (9, [.int 0, .int 0, .int 0, .ref m_rowPerson, .ref m_rowStream, .ref m_rowMoment, .ref m_rowKnown, .ref m_rowValue, .ref m_isGone, .ref m_mergeTo, .ref m_mergeKnown, .int 0, .ref m_isErased, .ref m_tape, .int 0, .int 0, .int 0, .int 0, .int (-1), .int 0, .ref m_five, .int 0, .int 0, .int 0, .int 0, .ref m_size0, .ref m_step, .ref m_stepA, .ref m_stepB, .ref m_stepC, .ref m_values, .ref m_heap, .ref m_isOne, .ref m_lawFrom, .ref m_lawTo, .ref m_hasLaw, .ref m_limits, .ref m_held, .ref m_hasKept, .ref m_kept, .ref m_keptAt, .int 0, .ref m_placeTrait, .ref m_placePerson, .ref m_placeMoment, .ref m_placeValue, .ref m_isFilled, .int 0, .ref m_uses, .ref m_heapsOne, .ref m_heapsOther])), (m_mergeTo, .inl (k_mergeTo, 20, .inl fM)), (m_mergeKnown, .inl (k_mergeKnown, 20, .inl (fun _ => 0)))] H.size) [] := ⟨fun i j p q h => by simp at h, fun k q h => by simp at h⟩
  have hK1 : va_K (dC, dI) vwCl [] s := hK.sub [] rfl
  obtain ⟨hP, hD⟩ := va_join (wr := []) (w1 := []) hP hD [0, 1, 2] [] rfl rfl (by decide) (by decide) hk1 hFc hP1 hD1
  have hK := (hK.sub (tys' := [(cT, .int), (cN, .int), (k_mergeTo, .int), (k_mergeKnown, .int)]) [0, 1, 2, 3] rfl).app hK1
  generalize H1 = H at hP hS ⊢
  have hP : va_P (dC, dI) vwCl [] H := hP
  have hD : va_D (fun q : Nat => s.heap.size ≤ q) [] := hD
  have hK : va_K (dC, dI) vwCl [(cT, .int), (cN, .int), (k_mergeTo, .int), (k_mergeKnown, .int)] s := hK
  refine lv_icmp_eq (tgt := 1234) hx hb dL_law_309 (by decide) (fun c_19 => ?_) (fun c_19 => ?_)
  · exact law_tail hL C0 hS (lv_sub hl [0, 3] rfl)
  · have dc_19 : ¬ r_7.toInt = r_16.toInt := jI_ne c_19 rfl rfl
    exfalso; omega

set_option maxHeartbeats 4000000 in
set_option maxRecDepth 100000 in
theorem law_erase {p : Program} {l : Launch} {e : Env} {s : State} {m : MethodId} {below : List Frame} {meth : Method} {c : Code} {dC : Nat → ClassId} {dI : Nat → Nat → Nat} {b L : Nat} {xs : Nat → Int32} (hL : L = 11) (C0 : lw_At p s m meth c b L xs) (hN : nw_ok s) (h0 : Nat) (hRows : Nat) (hMer : Nat) (hEra : Nat) (hTape : Nat) (hRea : Nat) (hTra : Nat) (hWor : Nat) (hPla : Nat) (hMod : Nat) (hHe1 : Nat) (hHe2 : Nat) (aO : Nat) (aQ : Nat) (aF : Nat) (aW : Nat) (aP : Nat) (aS : Nat) (aM : Nat) (aK : Nat) (aV : Nat) (cE : ClassId) (m0 : Nat) (m_rowPerson : Nat) (m_rowStream : Nat) (m_rowMoment : Nat) (m_rowKnown : Nat) (m_rowValue : Nat) (m_isGone : Nat) (m_mergeTo : Nat) (m_mergeKnown : Nat) (m_isErased : Nat) (m_tape : Nat) (m_five : Nat) (m_size0 : Nat) (m_step : Nat) (m_stepA : Nat) (m_stepB : Nat) (m_stepC : Nat) (m_values : Nat) (m_heap : Nat) (m_isOne : Nat) (m_lawFrom : Nat) (m_lawTo : Nat) (m_hasLaw : Nat) (m_limits : Nat) (m_held : Nat) (m_hasKept : Nat) (m_kept : Nat) (m_keptAt : Nat) (m_placeTrait : Nat) (m_placePerson : Nat) (m_placeMoment : Nat) (m_placeValue : Nat) (m_isFilled : Nat) (m_uses : Nat) (m_heapsOne : Nat) (m_heapsOther : Nat) (k_isErased : ClassId) (k_hasKept : ClassId)  (H : Heap) (locs : List Loc) (hK : va_K (dC, dI) vwCl [(cE, .boolean), (k_isErased, .boolean), (k_hasKept, .boolean)] s) (hP : va_P (dC, dI) vwCl [(h0, .inr (8, [.ref hRows, .ref hMer, .ref hEra, .ref hTape, .ref hRea, .ref hTra, .ref hWor, .ref hPla, .ref hMod, .ref hHe1, .ref hHe2, .int 0, .int 0, .int 0, .int 0, .int (-1), .int 0])), (hEra, .inl (cE, 20, .inl (fun _ => 0))), (hPla, .inr (1, [.ref aO, .ref aQ, .ref aF, .ref aW, .int 0])), (hRows, .inr (3, [.ref aP, .ref aS, .ref aM, .ref aK, .ref aV, .int 0, .int 0])), (m0, .inr (9, [.int 0, .int 0, .int 0, .ref m_rowPerson, .ref m_rowStream, .ref m_rowMoment, .ref m_rowKnown, .ref m_rowValue, .ref m_isGone, .ref m_mergeTo, .ref m_mergeKnown, .int 0, .ref m_isErased, .ref m_tape, .int 0, .int 0, .int 0, .int 0, .int (-1), .int 0, .ref m_five, .int 0, .int 0, .int 0, .int 0, .ref m_size0, .ref m_step, .ref m_stepA, .ref m_stepB, .ref m_stepC, .ref m_values, .ref m_heap, .ref m_isOne, .ref m_lawFrom, .ref m_lawTo, .ref m_hasLaw, .ref m_limits, .ref m_held, .ref m_hasKept, .ref m_kept, .ref m_keptAt, .int 0, .ref m_placeTrait, .ref m_placePerson, .ref m_placeMoment, .ref m_placeValue, .ref m_isFilled, .int 0, .ref m_uses, .ref m_heapsOne, .ref m_heapsOther])), (m_isErased, .inl (k_isErased, 20, .inl (fun _ => 0))), (m_hasKept, .inl (k_hasKept, 400, .inl (fun _ => 0)))] H) (hD : va_D (fun q : Nat => s.heap.size ≤ q) [(h0, .inr (8, [.ref hRows, .ref hMer, .ref hEra, .ref hTape, .ref hRea, .ref hTra, .ref hWor, .ref hPla, .ref hMod, .ref hHe1, .ref hHe2, .int 0, .int 0, .int 0, .int 0, .int (-1), .int 0])), (hEra, .inl (cE, 20, .inl (fun _ => 0))), (hPla, .inr (1, [.ref aO, .ref aQ, .ref aF, .ref aW, .int 0])), (hRows, .inr (3, [.ref aP, .ref aS, .ref aM, .ref aK, .ref aV, .int 0, .int 0])), (m0, .inr (9, [.int 0, .int 0, .int 0, .ref m_rowPerson, .ref m_rowStream, .ref m_rowMoment, .ref m_rowKnown, .ref m_rowValue, .ref m_isGone, .ref m_mergeTo, .ref m_mergeKnown, .int 0, .ref m_isErased, .ref m_tape, .int 0, .int 0, .int 0, .int 0, .int (-1), .int 0, .ref m_five, .int 0, .int 0, .int 0, .int 0, .ref m_size0, .ref m_step, .ref m_stepA, .ref m_stepB, .ref m_stepC, .ref m_values, .ref m_heap, .ref m_isOne, .ref m_lawFrom, .ref m_lawTo, .ref m_hasLaw, .ref m_limits, .ref m_held, .ref m_hasKept, .ref m_kept, .ref m_keptAt, .int 0, .ref m_placeTrait, .ref m_placePerson, .ref m_placeMoment, .ref m_placeValue, .ref m_isFilled, .int 0, .ref m_uses, .ref m_heapsOne, .ref m_heapsOther])), (m_isErased, .inl (k_isErased, 20, .inl (fun _ => 0))), (m_hasKept, .inl (k_hasKept, 400, .inl (fun _ => 0)))]) (hS : va_S (fun q : Nat => s.heap.size ≤ q) s.heap H locs) (ls : Array Slot) (hl : lv_has ls 4 [(3, .int 0), (2, .ref m0), (1, .ref h0), (0, .ref b)]) : W p l e room_1 s m #[Value.ref b] below meth c H locs 600000 7302250 (lw_Z below #[Value.ref b] s) (F0 m 314 ls []) := by
  obtain ⟨hx, hb, hr, hml, hown, hts, hX, hbl, hlocks, hgv⟩ := id C0
  have hts := fun w h => hts w (wsL_law_in w h)
  have hown : s.vm.findClass RL = some m.cls := hown
  have hA : ∀ q : Nat, s.heap.size ≤ q → (fun q : Nat => s.heap.size ≤ q) q := fun _ h => h
  have hbA : ¬ (fun q : Nat => s.heap.size ≤ q) b := Nat.not_le.mpr hbl
  obtain ⟨z1, ez1⟩ : ∃ z : Int32, z = xs (1 : Int32).toNatClampNeg := ⟨_, rfl⟩
  refine lv_aload_n hx hb dL_law_314 rfl (lv_at hl 2 rfl) ?_
  refine lv_aload_n hx hb dL_law_315 rfl (lv_at hl 3 rfl) ?_
  refine lv_iload_n hx hb dL_law_316 rfl (lv_at hl 0 rfl) ?_
  refine lv_iconst (v := 1) hx hb dL_law_317 (by decide) ?_
  refine lv_iadd hx hb dL_law_318 ?_
  refine lv_topi (fun x_1 ex_1 => ?_)
  obtain rfl : x_1 = 1 := ex_1.trans (by decide)
  refine va_sld hx hb hX hbl hbA hS (vp_in_iff.mpr ⟨by decide, by rw [hL]; decide⟩) dL_law_319 ?_
  refine lv_topi (fun x_2 ex_2 => ?_)
  obtain rfl : z1 = x_2 := ez1.trans ex_2.symm
  have hPc := hP.sub (ws' := [(h0, .inr (8, [.ref hRows, .ref hMer, .ref hEra, .ref hTape, .ref hRea, .ref hTra, .ref hWor, .ref hPla, .ref hMod, .ref hHe1, .ref hHe2, .int 0, .int 0, .int 0, .int 0, .int (-1), .int 0])), (hEra, .inl (cE, 20, .inl (fun _ => 0))), (hPla, .inr (1, [.ref aO, .ref aQ, .ref aF, .ref aW, .int 0])), (hRows, .inr (3, [.ref aP, .ref aS, .ref aM, .ref aK, .ref aV, .int 0, .int 0]))]) [0, 1, 2, 3] rfl
  have hDc := hD.sub (ws' := [(h0, .inr (8, [.ref hRows, .ref hMer, .ref hEra, .ref hTape, .ref hRea, .ref hTra, .ref hWor, .ref hPla, .ref hMod, .ref hHe1, .ref hHe2, .int 0, .int 0, .int 0, .int 0, .int (-1), .int 0])), (hEra, .inl (cE, 20, .inl (fun _ => 0))), (hPla, .inr (1, [.ref aO, .ref aQ, .ref aF, .ref aW, .int 0])), (hRows, .inr (3, [.ref aP, .ref aS, .ref aM, .ref aK, .ref aV, .int 0, .int 0]))]) [0, 1, 2, 3] (by decide) rfl
  have hKc := hK.sub (tys' := [(cE, .boolean)]) [0] rfl
  have hFc := va_free (wc := [(h0, .inr (8, [.ref hRows, .ref hMer, .ref hEra, .ref hTape, .ref hRea, .ref hTra, .ref hWor, .ref hPla, .ref hMod, .ref hHe1, .ref hHe2, .int 0, .int 0, .int 0, .int 0, .int (-1), .int 0])), (hEra, .inl (cE, 20, .inl (fun _ => 0))), (hPla, .inr (1, [.ref aO, .ref aQ, .ref aF, .ref aW, .int 0])), (hRows, .inr (3, [.ref aP, .ref aS, .ref aM, .ref aK, .ref aV, .int 0, .int 0]))]) hD hS hA [0, 1, 2, 3] rfl
  refine va_calli (va_runV (As := [.int z1]) (rest := []) ⟨hx, hb, hml, hown, hts⟩ (c_X8_erase l dC dI H.size h0 hRows hMer hEra hTape hRea hTra hWor hPla hMod hHe1 hHe2 aO aQ aF aW aP aS aM aK aV cE z1 ) (cwV 1 hts gL_law_X8_erase rfl rfl rfl (by decide +kernel) ⟨Nat.le_of_ble_eq_true rfl, Nat.le_of_ble_eq_true rfl⟩) ⟨fun a U g mk q => by obtain ⟨q0, q1, qP, qK, qD, qN⟩ := q; exact ⟨q0, q1, qP, va_K.moved (u := U) (U := U.calling g mk a) (Vm.Alike.refl U.vm) qK, qD, qN.same rfl⟩, va_recv hKc hPc (ci := 8) (q0 := 0) rfl rfl, fun U hU hW => ⟨rfl, by rw [hU], by rw [hU]; exact hPc, va_K.moved hW.alike hKc, hDc.weaken (fun _ _ _ _ => trivial), hN.warm hW⟩⟩ rfl rfl hl.1 rfl (lv_room (Nat.le_of_ble_eq_true rfl)) dL_law_320 ⟨Nat.le_of_ble_eq_true rfl, Nat.le_of_ble_eq_true rfl⟩) hS (fun q _ h => hFc q h) hFc (fun r_3 u_4 t H1 locs ht hvm hw_5 hB hz1 hk1 hS => ?_)
  try dsimp only at hw_5
  have hP1 : va_P (dC, dI) vwCl [] H1 := fun k q h => by simp at h
  have hD1 : va_D (va_A [(h0, .inr (8, [.ref hRows, .ref hMer, .ref hEra, .ref hTape, .ref hRea, .ref hTra, .ref hWor, .ref hPla, .ref hMod, .ref hHe1, .ref hHe2, .int 0, .int 0, .int 0, .int 0, .int (-1), .int 0])), (hEra, .inl (cE, 20, .inl (fun _ => 0))), (hPla, .inr (1, [.ref aO, .ref aQ, .ref aF, .ref aW, .int 0])), (hRows, .inr (3, [.ref aP, .ref aS, .ref aM, .ref aK, .ref aV, .int 0, .int 0]))] H.size) [] := ⟨fun i j p q h => by simp at h, fun k q h => by simp at h⟩
  have hK1 : va_K (dC, dI) vwCl [] s := hK.sub [] rfl
  obtain ⟨hP, hD⟩ := va_join (wr := [(m0, .inr (9, [.int 0, .int 0, .int 0, .ref m_rowPerson, .ref m_rowStream, .ref m_rowMoment, .ref m_rowKnown, .ref m_rowValue, .ref m_isGone, .ref m_mergeTo, .ref m_mergeKnown, .int 0, .ref m_isErased, .ref m_tape, .int 0, .int 0, .int 0, .int 0, .int (-1), .int 0, .ref m_five, .int 0, .int 0, .int 0, .int 0, .ref m_size0, .ref m_step, .ref m_stepA, .ref m_stepB, .ref m_stepC, .ref m_values, .ref m_heap, .ref m_isOne, .ref m_lawFrom, .ref m_lawTo, .ref m_hasLaw, .ref m_limits, .ref m_held, .ref m_hasKept, .ref m_kept, .ref m_keptAt, .int 0, .ref m_placeTrait, .ref m_placePerson, .ref m_placeMoment, .ref m_placeValue, .ref m_isFilled, .int 0, .ref m_uses, .ref m_heapsOne, .ref m_heapsOther])), (m_isErased, .inl (k_isErased, 20, .inl (fun _ => 0))), (m_hasKept, .inl (k_hasKept, 400, .inl (fun _ => 0)))]) (w1 := []) hP hD [0, 1, 2, 3] [4, 5, 6] rfl rfl (by decide) (by decide) hk1 hFc hP1 hD1
  have hK := (hK.sub (tys' := [(cE, .boolean), (k_isErased, .boolean), (k_hasKept, .boolean)]) [0, 1, 2] rfl).app hK1
  generalize H1 = H at hP hS ⊢
  have hP : va_P (dC, dI) vwCl [(m0, .inr (9, [.int 0, .int 0, .int 0, .ref m_rowPerson, .ref m_rowStream, .ref m_rowMoment, .ref m_rowKnown, .ref m_rowValue, .ref m_isGone, .ref m_mergeTo, .ref m_mergeKnown, .int 0, .ref m_isErased, .ref m_tape, .int 0, .int 0, .int 0, .int 0, .int (-1), .int 0, .ref m_five, .int 0, .int 0, .int 0, .int 0, .ref m_size0, .ref m_step, .ref m_stepA, .ref m_stepB, .ref m_stepC, .ref m_values, .ref m_heap, .ref m_isOne, .ref m_lawFrom, .ref m_lawTo, .ref m_hasLaw, .ref m_limits, .ref m_held, .ref m_hasKept, .ref m_kept, .ref m_keptAt, .int 0, .ref m_placeTrait, .ref m_placePerson, .ref m_placeMoment, .ref m_placeValue, .ref m_isFilled, .int 0, .ref m_uses, .ref m_heapsOne, .ref m_heapsOther])), (m_isErased, .inl (k_isErased, 20, .inl (fun _ => 0))), (m_hasKept, .inl (k_hasKept, 400, .inl (fun _ => 0)))] H := hP
  have hD : va_D (fun q : Nat => s.heap.size ≤ q) [(m0, .inr (9, [.int 0, .int 0, .int 0, .ref m_rowPerson, .ref m_rowStream, .ref m_rowMoment, .ref m_rowKnown, .ref m_rowValue, .ref m_isGone, .ref m_mergeTo, .ref m_mergeKnown, .int 0, .ref m_isErased, .ref m_tape, .int 0, .int 0, .int 0, .int 0, .int (-1), .int 0, .ref m_five, .int 0, .int 0, .int 0, .int 0, .ref m_size0, .ref m_step, .ref m_stepA, .ref m_stepB, .ref m_stepC, .ref m_values, .ref m_heap, .ref m_isOne, .ref m_lawFrom, .ref m_lawTo, .ref m_hasLaw, .ref m_limits, .ref m_held, .ref m_hasKept, .ref m_kept, .ref m_keptAt, .int 0, .ref m_placeTrait, .ref m_placePerson, .ref m_placeMoment, .ref m_placeValue, .ref m_isFilled, .int 0, .ref m_uses, .ref m_heapsOne, .ref m_heapsOther])), (m_isErased, .inl (k_isErased, 20, .inl (fun _ => 0))), (m_hasKept, .inl (k_hasKept, 400, .inl (fun _ => 0)))] := hD
  have hK : va_K (dC, dI) vwCl [(cE, .boolean), (k_isErased, .boolean), (k_hasKept, .boolean)] s := hK
  refine lv_aload_n hx hb dL_law_323 rfl (lv_at hl 1 rfl) ?_
  refine lv_aload_n hx hb dL_law_324 rfl (lv_at hl 3 rfl) ?_
  refine lv_iload_n hx hb dL_law_325 rfl (lv_at hl 0 rfl) ?_
  refine lv_iconst (v := 1) hx hb dL_law_326 (by decide) ?_
  refine lv_iadd hx hb dL_law_327 ?_
  refine lv_topi (fun x_6 ex_6 => ?_)
  obtain rfl : x_6 = 1 := ex_6.trans (by decide)
  refine va_sld hx hb hX hbl hbA hS (vp_in_iff.mpr ⟨by decide, by rw [hL]; decide⟩) dL_law_328 ?_
  refine lv_topi (fun x_7 ex_7 => ?_)
  obtain rfl : z1 = x_7 := ez1.trans ex_7.symm
  have hPc := hP.sub (ws' := [(m0, .inr (9, [.int 0, .int 0, .int 0, .ref m_rowPerson, .ref m_rowStream, .ref m_rowMoment, .ref m_rowKnown, .ref m_rowValue, .ref m_isGone, .ref m_mergeTo, .ref m_mergeKnown, .int 0, .ref m_isErased, .ref m_tape, .int 0, .int 0, .int 0, .int 0, .int (-1), .int 0, .ref m_five, .int 0, .int 0, .int 0, .int 0, .ref m_size0, .ref m_step, .ref m_stepA, .ref m_stepB, .ref m_stepC, .ref m_values, .ref m_heap, .ref m_isOne, .ref m_lawFrom, .ref m_lawTo, .ref m_hasLaw, .ref m_limits, .ref m_held, .ref m_hasKept, .ref m_kept, .ref m_keptAt, .int 0, .ref m_placeTrait, .ref m_placePerson, .ref m_placeMoment, .ref m_placeValue, .ref m_isFilled, .int 0, .ref m_uses, .ref m_heapsOne, .ref m_heapsOther])), (m_isErased, .inl (k_isErased, 20, .inl (fun _ => 0))), (m_hasKept, .inl (k_hasKept, 400, .inl (fun _ => 0)))]) [0, 1, 2] rfl
  have hDc := hD.sub (ws' := [(m0, .inr (9, [.int 0, .int 0, .int 0, .ref m_rowPerson, .ref m_rowStream, .ref m_rowMoment, .ref m_rowKnown, .ref m_rowValue, .ref m_isGone, .ref m_mergeTo, .ref m_mergeKnown, .int 0, .ref m_isErased, .ref m_tape, .int 0, .int 0, .int 0, .int 0, .int (-1), .int 0, .ref m_five, .int 0, .int 0, .int 0, .int 0, .ref m_size0, .ref m_step, .ref m_stepA, .ref m_stepB, .ref m_stepC, .ref m_values, .ref m_heap, .ref m_isOne, .ref m_lawFrom, .ref m_lawTo, .ref m_hasLaw, .ref m_limits, .ref m_held, .ref m_hasKept, .ref m_kept, .ref m_keptAt, .int 0, .ref m_placeTrait, .ref m_placePerson, .ref m_placeMoment, .ref m_placeValue, .ref m_isFilled, .int 0, .ref m_uses, .ref m_heapsOne, .ref m_heapsOther])), (m_isErased, .inl (k_isErased, 20, .inl (fun _ => 0))), (m_hasKept, .inl (k_hasKept, 400, .inl (fun _ => 0)))]) [0, 1, 2] (by decide) rfl
  have hKc := hK.sub (tys' := [(k_isErased, .boolean), (k_hasKept, .boolean)]) [1, 2] rfl
  have hFc := va_free (wc := [(m0, .inr (9, [.int 0, .int 0, .int 0, .ref m_rowPerson, .ref m_rowStream, .ref m_rowMoment, .ref m_rowKnown, .ref m_rowValue, .ref m_isGone, .ref m_mergeTo, .ref m_mergeKnown, .int 0, .ref m_isErased, .ref m_tape, .int 0, .int 0, .int 0, .int 0, .int (-1), .int 0, .ref m_five, .int 0, .int 0, .int 0, .int 0, .ref m_size0, .ref m_step, .ref m_stepA, .ref m_stepB, .ref m_stepC, .ref m_values, .ref m_heap, .ref m_isOne, .ref m_lawFrom, .ref m_lawTo, .ref m_hasLaw, .ref m_limits, .ref m_held, .ref m_hasKept, .ref m_kept, .ref m_keptAt, .int 0, .ref m_placeTrait, .ref m_placePerson, .ref m_placeMoment, .ref m_placeValue, .ref m_isFilled, .int 0, .ref m_uses, .ref m_heapsOne, .ref m_heapsOther])), (m_isErased, .inl (k_isErased, 20, .inl (fun _ => 0))), (m_hasKept, .inl (k_hasKept, 400, .inl (fun _ => 0)))]) hD hS hA [0, 1, 2] rfl
  refine va_calli (va_runV (As := [.int z1]) (rest := [.int r_3]) ⟨hx, hb, hml, hown, hts⟩ (c_X9_erase l dC dI H.size m0 m_rowPerson m_rowStream m_rowMoment m_rowKnown m_rowValue m_isGone m_mergeTo m_mergeKnown m_isErased m_tape m_five m_size0 m_step m_stepA m_stepB m_stepC m_values m_heap m_isOne m_lawFrom m_lawTo m_hasLaw m_limits m_held m_hasKept m_kept m_keptAt m_placeTrait m_placePerson m_placeMoment m_placeValue m_isFilled m_uses m_heapsOne m_heapsOther k_isErased k_hasKept z1 ) (cwV 1 hts gL_law_X9_erase rfl rfl rfl (by decide +kernel) ⟨Nat.le_of_ble_eq_true rfl, Nat.le_of_ble_eq_true rfl⟩) ⟨fun a U g mk q => by obtain ⟨q0, q1, qP, qK, qD, qN⟩ := q; exact ⟨q0, q1, qP, va_K.moved (u := U) (U := U.calling g mk a) (Vm.Alike.refl U.vm) qK, qD, qN.same rfl⟩, va_recv hKc hPc (ci := 9) (q0 := 0) rfl rfl, fun U hU hW => ⟨rfl, by rw [hU], by rw [hU]; exact hPc, va_K.moved hW.alike hKc, hDc.weaken (fun _ _ _ _ => trivial), hN.warm hW⟩⟩ rfl rfl hl.1 rfl (lv_room (Nat.le_of_ble_eq_true rfl)) dL_law_329 ⟨Nat.le_of_ble_eq_true rfl, Nat.le_of_ble_eq_true rfl⟩) hS (fun q _ h => hFc q h) hFc (fun r_8 u_9 t H1 locs ht hvm hw_10 hB hz1 hk1 hS => ?_)
  try dsimp only at hw_10
  have hP1 : va_P (dC, dI) vwCl [] H1 := fun k q h => by simp at h
  have hD1 : va_D (va_A [(m0, .inr (9, [.int 0, .int 0, .int 0, .ref m_rowPerson, .ref m_rowStream, .ref m_rowMoment, .ref m_rowKnown, .ref m_rowValue, .ref m_isGone, .ref m_mergeTo, .ref m_mergeKnown, .int 0, .ref m_isErased, .ref m_tape, .int 0, .int 0, .int 0, .int 0, .int (-1), .int 0, .ref m_five, .int 0, .int 0, .int 0, .int 0, .ref m_size0, .ref m_step, .ref m_stepA, .ref m_stepB, .ref m_stepC, .ref m_values, .ref m_heap, .ref m_isOne, .ref m_lawFrom, .ref m_lawTo, .ref m_hasLaw, .ref m_limits, .ref m_held, .ref m_hasKept, .ref m_kept, .ref m_keptAt, .int 0, .ref m_placeTrait, .ref m_placePerson, .ref m_placeMoment, .ref m_placeValue, .ref m_isFilled, .int 0, .ref m_uses, .ref m_heapsOne, .ref m_heapsOther])), (m_isErased, .inl (k_isErased, 20, .inl (fun _ => 0))), (m_hasKept, .inl (k_hasKept, 400, .inl (fun _ => 0)))] H.size) [] := ⟨fun i j p q h => by simp at h, fun k q h => by simp at h⟩
  have hK1 : va_K (dC, dI) vwCl [] s := hK.sub [] rfl
  obtain ⟨hP, hD⟩ := va_join (wr := []) (w1 := []) hP hD [0, 1, 2] [] rfl rfl (by decide) (by decide) hk1 hFc hP1 hD1
  have hK := (hK.sub (tys' := [(cE, .boolean), (k_isErased, .boolean), (k_hasKept, .boolean)]) [0, 1, 2] rfl).app hK1
  generalize H1 = H at hP hS ⊢
  have hP : va_P (dC, dI) vwCl [] H := hP
  have hD : va_D (fun q : Nat => s.heap.size ≤ q) [] := hD
  have hK : va_K (dC, dI) vwCl [(cE, .boolean), (k_isErased, .boolean), (k_hasKept, .boolean)] s := hK
  refine lv_icmp_eq (tgt := 1234) hx hb dL_law_332 (by decide) (fun c_11 => ?_) (fun c_11 => ?_)
  · exact law_tail hL C0 hS (lv_sub hl [0, 3] rfl)
  · have dc_11 : ¬ r_3.toInt = r_8.toInt := jI_ne c_11 rfl rfl
    exfalso; omega

set_option maxHeartbeats 4000000 in
set_option maxRecDepth 100000 in
theorem law_feed {p : Program} {l : Launch} {e : Env} {s : State} {m : MethodId} {below : List Frame} {meth : Method} {c : Code} {dC : Nat → ClassId} {dI : Nat → Nat → Nat} {b L : Nat} {xs : Nat → Int32} (hL : L = 11) (C0 : lw_At p s m meth c b L xs) (hN : nw_ok s) (h0 : Nat) (hRows : Nat) (hMer : Nat) (hEra : Nat) (hTape : Nat) (hRea : Nat) (hTra : Nat) (hWor : Nat) (hPla : Nat) (hMod : Nat) (hHe1 : Nat) (hHe2 : Nat) (aB : Nat) (cB : ClassId) (m0 : Nat) (m_rowPerson : Nat) (m_rowStream : Nat) (m_rowMoment : Nat) (m_rowKnown : Nat) (m_rowValue : Nat) (m_isGone : Nat) (m_mergeTo : Nat) (m_mergeKnown : Nat) (m_isErased : Nat) (m_tape : Nat) (m_five : Nat) (m_size0 : Nat) (m_step : Nat) (m_stepA : Nat) (m_stepB : Nat) (m_stepC : Nat) (m_values : Nat) (m_heap : Nat) (m_isOne : Nat) (m_lawFrom : Nat) (m_lawTo : Nat) (m_hasLaw : Nat) (m_limits : Nat) (m_held : Nat) (m_hasKept : Nat) (m_kept : Nat) (m_keptAt : Nat) (m_placeTrait : Nat) (m_placePerson : Nat) (m_placeMoment : Nat) (m_placeValue : Nat) (m_isFilled : Nat) (m_uses : Nat) (m_heapsOne : Nat) (m_heapsOther : Nat) (k_tape : ClassId) (k_five : ClassId)  (H : Heap) (locs : List Loc) (hK : va_K (dC, dI) vwCl [(cB, .int), (k_tape, .byte), (k_five, .int)] s) (hP : va_P (dC, dI) vwCl [(h0, .inr (8, [.ref hRows, .ref hMer, .ref hEra, .ref hTape, .ref hRea, .ref hTra, .ref hWor, .ref hPla, .ref hMod, .ref hHe1, .ref hHe2, .int 0, .int 0, .int 0, .int 0, .int (-1), .int 0])), (hTape, .inr (5, [.ref aB, .int 0])), (aB, .inl (cB, 200, .inl (fun _ => 0))), (m0, .inr (9, [.int 0, .int 0, .int 0, .ref m_rowPerson, .ref m_rowStream, .ref m_rowMoment, .ref m_rowKnown, .ref m_rowValue, .ref m_isGone, .ref m_mergeTo, .ref m_mergeKnown, .int 0, .ref m_isErased, .ref m_tape, .int 0, .int 0, .int 0, .int 0, .int (-1), .int 0, .ref m_five, .int 0, .int 0, .int 0, .int 0, .ref m_size0, .ref m_step, .ref m_stepA, .ref m_stepB, .ref m_stepC, .ref m_values, .ref m_heap, .ref m_isOne, .ref m_lawFrom, .ref m_lawTo, .ref m_hasLaw, .ref m_limits, .ref m_held, .ref m_hasKept, .ref m_kept, .ref m_keptAt, .int 0, .ref m_placeTrait, .ref m_placePerson, .ref m_placeMoment, .ref m_placeValue, .ref m_isFilled, .int 0, .ref m_uses, .ref m_heapsOne, .ref m_heapsOther])), (m_tape, .inl (k_tape, 200, .inl (fun _ => 0))), (m_five, .inl (k_five, 5, .inl (fun _ => 0)))] H) (hD : va_D (fun q : Nat => s.heap.size ≤ q) [(h0, .inr (8, [.ref hRows, .ref hMer, .ref hEra, .ref hTape, .ref hRea, .ref hTra, .ref hWor, .ref hPla, .ref hMod, .ref hHe1, .ref hHe2, .int 0, .int 0, .int 0, .int 0, .int (-1), .int 0])), (hTape, .inr (5, [.ref aB, .int 0])), (aB, .inl (cB, 200, .inl (fun _ => 0))), (m0, .inr (9, [.int 0, .int 0, .int 0, .ref m_rowPerson, .ref m_rowStream, .ref m_rowMoment, .ref m_rowKnown, .ref m_rowValue, .ref m_isGone, .ref m_mergeTo, .ref m_mergeKnown, .int 0, .ref m_isErased, .ref m_tape, .int 0, .int 0, .int 0, .int 0, .int (-1), .int 0, .ref m_five, .int 0, .int 0, .int 0, .int 0, .ref m_size0, .ref m_step, .ref m_stepA, .ref m_stepB, .ref m_stepC, .ref m_values, .ref m_heap, .ref m_isOne, .ref m_lawFrom, .ref m_lawTo, .ref m_hasLaw, .ref m_limits, .ref m_held, .ref m_hasKept, .ref m_kept, .ref m_keptAt, .int 0, .ref m_placeTrait, .ref m_placePerson, .ref m_placeMoment, .ref m_placeValue, .ref m_isFilled, .int 0, .ref m_uses, .ref m_heapsOne, .ref m_heapsOther])), (m_tape, .inl (k_tape, 200, .inl (fun _ => 0))), (m_five, .inl (k_five, 5, .inl (fun _ => 0)))]) (hS : va_S (fun q : Nat => s.heap.size ≤ q) s.heap H locs) (ls : Array Slot) (hl : lv_has ls 4 [(3, .int 0), (2, .ref m0), (1, .ref h0), (0, .ref b)]) : W p l e room_1 s m #[Value.ref b] below meth c H locs 600000 7302250 (lw_Z below #[Value.ref b] s) (F0 m 337 ls []) := by
  obtain ⟨hx, hb, hr, hml, hown, hts, hX, hbl, hlocks, hgv⟩ := id C0
  have hts := fun w h => hts w (wsL_law_in w h)
  have hown : s.vm.findClass RL = some m.cls := hown
  have hA : ∀ q : Nat, s.heap.size ≤ q → (fun q : Nat => s.heap.size ≤ q) q := fun _ h => h
  have hbA : ¬ (fun q : Nat => s.heap.size ≤ q) b := Nat.not_le.mpr hbl
  obtain ⟨z1, ez1⟩ : ∃ z : Int32, z = xs (1 : Int32).toNatClampNeg := ⟨_, rfl⟩
  obtain ⟨z2, ez2⟩ : ∃ z : Int32, z = xs (2 : Int32).toNatClampNeg := ⟨_, rfl⟩
  obtain ⟨z3, ez3⟩ : ∃ z : Int32, z = xs (3 : Int32).toNatClampNeg := ⟨_, rfl⟩
  obtain ⟨z4, ez4⟩ : ∃ z : Int32, z = xs (4 : Int32).toNatClampNeg := ⟨_, rfl⟩
  obtain ⟨z5, ez5⟩ : ∃ z : Int32, z = xs (5 : Int32).toNatClampNeg := ⟨_, rfl⟩
  refine lv_aload_n hx hb dL_law_337 rfl (lv_at hl 2 rfl) ?_
  refine lv_aload_n hx hb dL_law_338 rfl (lv_at hl 3 rfl) ?_
  refine lv_iload_n hx hb dL_law_339 rfl (lv_at hl 0 rfl) ?_
  refine lv_iconst (v := 1) hx hb dL_law_340 (by decide) ?_
  refine lv_iadd hx hb dL_law_341 ?_
  refine lv_topi (fun x_1 ex_1 => ?_)
  obtain rfl : x_1 = 1 := ex_1.trans (by decide)
  refine va_sld hx hb hX hbl hbA hS (vp_in_iff.mpr ⟨by decide, by rw [hL]; decide⟩) dL_law_342 ?_
  refine lv_topi (fun x_2 ex_2 => ?_)
  obtain rfl : z1 = x_2 := ez1.trans ex_2.symm
  refine lv_aload_n hx hb dL_law_343 rfl (lv_at hl 3 rfl) ?_
  refine lv_iload_n hx hb dL_law_344 rfl (lv_at hl 0 rfl) ?_
  refine lv_iconst (v := 2) hx hb dL_law_345 (by decide) ?_
  refine lv_iadd hx hb dL_law_346 ?_
  refine lv_topi (fun x_3 ex_3 => ?_)
  obtain rfl : x_3 = 2 := ex_3.trans (by decide)
  refine va_sld hx hb hX hbl hbA hS (vp_in_iff.mpr ⟨by decide, by rw [hL]; decide⟩) dL_law_347 ?_
  refine lv_topi (fun x_4 ex_4 => ?_)
  obtain rfl : z2 = x_4 := ez2.trans ex_4.symm
  refine lv_aload_n hx hb dL_law_348 rfl (lv_at hl 3 rfl) ?_
  refine lv_iload_n hx hb dL_law_349 rfl (lv_at hl 0 rfl) ?_
  refine lv_iconst (v := 3) hx hb dL_law_350 (by decide) ?_
  refine lv_iadd hx hb dL_law_351 ?_
  refine lv_topi (fun x_5 ex_5 => ?_)
  obtain rfl : x_5 = 3 := ex_5.trans (by decide)
  refine va_sld hx hb hX hbl hbA hS (vp_in_iff.mpr ⟨by decide, by rw [hL]; decide⟩) dL_law_352 ?_
  refine lv_topi (fun x_6 ex_6 => ?_)
  obtain rfl : z3 = x_6 := ez3.trans ex_6.symm
  refine lv_aload_n hx hb dL_law_353 rfl (lv_at hl 3 rfl) ?_
  refine lv_iload_n hx hb dL_law_354 rfl (lv_at hl 0 rfl) ?_
  refine lv_iconst (v := 4) hx hb dL_law_355 (by decide) ?_
  refine lv_iadd hx hb dL_law_356 ?_
  refine lv_topi (fun x_7 ex_7 => ?_)
  obtain rfl : x_7 = 4 := ex_7.trans (by decide)
  refine va_sld hx hb hX hbl hbA hS (vp_in_iff.mpr ⟨by decide, by rw [hL]; decide⟩) dL_law_357 ?_
  refine lv_topi (fun x_8 ex_8 => ?_)
  obtain rfl : z4 = x_8 := ez4.trans ex_8.symm
  refine lv_aload_n hx hb dL_law_358 rfl (lv_at hl 3 rfl) ?_
  refine lv_iload_n hx hb dL_law_359 rfl (lv_at hl 0 rfl) ?_
  refine lv_iconst (v := 5) hx hb dL_law_360 (by decide) ?_
  refine lv_iadd hx hb dL_law_361 ?_
  refine lv_topi (fun x_9 ex_9 => ?_)
  obtain rfl : x_9 = 5 := ex_9.trans (by decide)
  refine va_sld hx hb hX hbl hbA hS (vp_in_iff.mpr ⟨by decide, by rw [hL]; decide⟩) dL_law_362 ?_
  refine lv_topi (fun x_10 ex_10 => ?_)
  obtain rfl : z5 = x_10 := ez5.trans ex_10.symm
  have hPc := hP.sub (ws' := [(h0, .inr (8, [.ref hRows, .ref hMer, .ref hEra, .ref hTape, .ref hRea, .ref hTra, .ref hWor, .ref hPla, .ref hMod, .ref hHe1, .ref hHe2, .int 0, .int 0, .int 0, .int 0, .int (-1), .int 0])), (hTape, .inr (5, [.ref aB, .int 0])), (aB, .inl (cB, 200, .inl (fun _ => 0)))]) [0, 1, 2] rfl
  have hDc := hD.sub (ws' := [(h0, .inr (8, [.ref hRows, .ref hMer, .ref hEra, .ref hTape, .ref hRea, .ref hTra, .ref hWor, .ref hPla, .ref hMod, .ref hHe1, .ref hHe2, .int 0, .int 0, .int 0, .int 0, .int (-1), .int 0])), (hTape, .inr (5, [.ref aB, .int 0])), (aB, .inl (cB, 200, .inl (fun _ => 0)))]) [0, 1, 2] (by decide) rfl
  have hKc := hK.sub (tys' := [(cB, .int)]) [0] rfl
  have hFc := va_free (wc := [(h0, .inr (8, [.ref hRows, .ref hMer, .ref hEra, .ref hTape, .ref hRea, .ref hTra, .ref hWor, .ref hPla, .ref hMod, .ref hHe1, .ref hHe2, .int 0, .int 0, .int 0, .int 0, .int (-1), .int 0])), (hTape, .inr (5, [.ref aB, .int 0])), (aB, .inl (cB, 200, .inl (fun _ => 0)))]) hD hS hA [0, 1, 2] rfl
  refine va_calli (va_runV (As := [.int z1, .int z2, .int z3, .int z4, .int z5]) (rest := []) ⟨hx, hb, hml, hown, hts⟩ (c_X8_feed l dC dI H.size h0 hRows hMer hEra hTape hRea hTra hWor hPla hMod hHe1 hHe2 aB cB z1 z2 z3 z4 z5 ) (cwV 5 hts gL_law_X8_feed rfl rfl rfl (by decide +kernel) ⟨Nat.le_of_ble_eq_true rfl, Nat.le_of_ble_eq_true rfl⟩) ⟨fun a U g mk q => by obtain ⟨q0, q1, qP, qK, qD, qN⟩ := q; exact ⟨q0, q1, qP, va_K.moved (u := U) (U := U.calling g mk a) (Vm.Alike.refl U.vm) qK, qD, qN.same rfl⟩, va_recv hKc hPc (ci := 8) (q0 := 0) rfl rfl, fun U hU hW => ⟨rfl, by rw [hU], by rw [hU]; exact hPc, va_K.moved hW.alike hKc, hDc.weaken (fun _ _ _ _ => trivial), hN.warm hW⟩⟩ rfl rfl hl.1 rfl (lv_room (Nat.le_of_ble_eq_true rfl)) dL_law_363 ⟨Nat.le_of_ble_eq_true rfl, Nat.le_of_ble_eq_true rfl⟩) hS (fun q _ h => hFc q h) hFc (fun r_11 u_12 t H1 locs ht hvm hw_13 hB hz1 hk1 hS => ?_)
  try dsimp only at hw_13
  have hP1 : va_P (dC, dI) vwCl [] H1 := fun k q h => by simp at h
  have hD1 : va_D (va_A [(h0, .inr (8, [.ref hRows, .ref hMer, .ref hEra, .ref hTape, .ref hRea, .ref hTra, .ref hWor, .ref hPla, .ref hMod, .ref hHe1, .ref hHe2, .int 0, .int 0, .int 0, .int 0, .int (-1), .int 0])), (hTape, .inr (5, [.ref aB, .int 0])), (aB, .inl (cB, 200, .inl (fun _ => 0)))] H.size) [] := ⟨fun i j p q h => by simp at h, fun k q h => by simp at h⟩
  have hK1 : va_K (dC, dI) vwCl [] s := hK.sub [] rfl
  obtain ⟨hP, hD⟩ := va_join (wr := [(m0, .inr (9, [.int 0, .int 0, .int 0, .ref m_rowPerson, .ref m_rowStream, .ref m_rowMoment, .ref m_rowKnown, .ref m_rowValue, .ref m_isGone, .ref m_mergeTo, .ref m_mergeKnown, .int 0, .ref m_isErased, .ref m_tape, .int 0, .int 0, .int 0, .int 0, .int (-1), .int 0, .ref m_five, .int 0, .int 0, .int 0, .int 0, .ref m_size0, .ref m_step, .ref m_stepA, .ref m_stepB, .ref m_stepC, .ref m_values, .ref m_heap, .ref m_isOne, .ref m_lawFrom, .ref m_lawTo, .ref m_hasLaw, .ref m_limits, .ref m_held, .ref m_hasKept, .ref m_kept, .ref m_keptAt, .int 0, .ref m_placeTrait, .ref m_placePerson, .ref m_placeMoment, .ref m_placeValue, .ref m_isFilled, .int 0, .ref m_uses, .ref m_heapsOne, .ref m_heapsOther])), (m_tape, .inl (k_tape, 200, .inl (fun _ => 0))), (m_five, .inl (k_five, 5, .inl (fun _ => 0)))]) (w1 := []) hP hD [0, 1, 2] [3, 4, 5] rfl rfl (by decide) (by decide) hk1 hFc hP1 hD1
  have hK := (hK.sub (tys' := [(cB, .int), (k_tape, .byte), (k_five, .int)]) [0, 1, 2] rfl).app hK1
  generalize H1 = H at hP hS ⊢
  have hP : va_P (dC, dI) vwCl [(m0, .inr (9, [.int 0, .int 0, .int 0, .ref m_rowPerson, .ref m_rowStream, .ref m_rowMoment, .ref m_rowKnown, .ref m_rowValue, .ref m_isGone, .ref m_mergeTo, .ref m_mergeKnown, .int 0, .ref m_isErased, .ref m_tape, .int 0, .int 0, .int 0, .int 0, .int (-1), .int 0, .ref m_five, .int 0, .int 0, .int 0, .int 0, .ref m_size0, .ref m_step, .ref m_stepA, .ref m_stepB, .ref m_stepC, .ref m_values, .ref m_heap, .ref m_isOne, .ref m_lawFrom, .ref m_lawTo, .ref m_hasLaw, .ref m_limits, .ref m_held, .ref m_hasKept, .ref m_kept, .ref m_keptAt, .int 0, .ref m_placeTrait, .ref m_placePerson, .ref m_placeMoment, .ref m_placeValue, .ref m_isFilled, .int 0, .ref m_uses, .ref m_heapsOne, .ref m_heapsOther])), (m_tape, .inl (k_tape, 200, .inl (fun _ => 0))), (m_five, .inl (k_five, 5, .inl (fun _ => 0)))] H := hP
  have hD : va_D (fun q : Nat => s.heap.size ≤ q) [(m0, .inr (9, [.int 0, .int 0, .int 0, .ref m_rowPerson, .ref m_rowStream, .ref m_rowMoment, .ref m_rowKnown, .ref m_rowValue, .ref m_isGone, .ref m_mergeTo, .ref m_mergeKnown, .int 0, .ref m_isErased, .ref m_tape, .int 0, .int 0, .int 0, .int 0, .int (-1), .int 0, .ref m_five, .int 0, .int 0, .int 0, .int 0, .ref m_size0, .ref m_step, .ref m_stepA, .ref m_stepB, .ref m_stepC, .ref m_values, .ref m_heap, .ref m_isOne, .ref m_lawFrom, .ref m_lawTo, .ref m_hasLaw, .ref m_limits, .ref m_held, .ref m_hasKept, .ref m_kept, .ref m_keptAt, .int 0, .ref m_placeTrait, .ref m_placePerson, .ref m_placeMoment, .ref m_placeValue, .ref m_isFilled, .int 0, .ref m_uses, .ref m_heapsOne, .ref m_heapsOther])), (m_tape, .inl (k_tape, 200, .inl (fun _ => 0))), (m_five, .inl (k_five, 5, .inl (fun _ => 0)))] := hD
  have hK : va_K (dC, dI) vwCl [(cB, .int), (k_tape, .byte), (k_five, .int)] s := hK
  refine lv_aload_n hx hb dL_law_366 rfl (lv_at hl 1 rfl) ?_
  refine lv_aload_n hx hb dL_law_367 rfl (lv_at hl 3 rfl) ?_
  refine lv_iload_n hx hb dL_law_368 rfl (lv_at hl 0 rfl) ?_
  refine lv_iconst (v := 1) hx hb dL_law_369 (by decide) ?_
  refine lv_iadd hx hb dL_law_370 ?_
  refine lv_topi (fun x_14 ex_14 => ?_)
  obtain rfl : x_14 = 1 := ex_14.trans (by decide)
  refine va_sld hx hb hX hbl hbA hS (vp_in_iff.mpr ⟨by decide, by rw [hL]; decide⟩) dL_law_371 ?_
  refine lv_topi (fun x_15 ex_15 => ?_)
  obtain rfl : z1 = x_15 := ez1.trans ex_15.symm
  refine lv_aload_n hx hb dL_law_372 rfl (lv_at hl 3 rfl) ?_
  refine lv_iload_n hx hb dL_law_373 rfl (lv_at hl 0 rfl) ?_
  refine lv_iconst (v := 2) hx hb dL_law_374 (by decide) ?_
  refine lv_iadd hx hb dL_law_375 ?_
  refine lv_topi (fun x_16 ex_16 => ?_)
  obtain rfl : x_16 = 2 := ex_16.trans (by decide)
  refine va_sld hx hb hX hbl hbA hS (vp_in_iff.mpr ⟨by decide, by rw [hL]; decide⟩) dL_law_376 ?_
  refine lv_topi (fun x_17 ex_17 => ?_)
  obtain rfl : z2 = x_17 := ez2.trans ex_17.symm
  refine lv_aload_n hx hb dL_law_377 rfl (lv_at hl 3 rfl) ?_
  refine lv_iload_n hx hb dL_law_378 rfl (lv_at hl 0 rfl) ?_
  refine lv_iconst (v := 3) hx hb dL_law_379 (by decide) ?_
  refine lv_iadd hx hb dL_law_380 ?_
  refine lv_topi (fun x_18 ex_18 => ?_)
  obtain rfl : x_18 = 3 := ex_18.trans (by decide)
  refine va_sld hx hb hX hbl hbA hS (vp_in_iff.mpr ⟨by decide, by rw [hL]; decide⟩) dL_law_381 ?_
  refine lv_topi (fun x_19 ex_19 => ?_)
  obtain rfl : z3 = x_19 := ez3.trans ex_19.symm
  refine lv_aload_n hx hb dL_law_382 rfl (lv_at hl 3 rfl) ?_
  refine lv_iload_n hx hb dL_law_383 rfl (lv_at hl 0 rfl) ?_
  refine lv_iconst (v := 4) hx hb dL_law_384 (by decide) ?_
  refine lv_iadd hx hb dL_law_385 ?_
  refine lv_topi (fun x_20 ex_20 => ?_)
  obtain rfl : x_20 = 4 := ex_20.trans (by decide)
  refine va_sld hx hb hX hbl hbA hS (vp_in_iff.mpr ⟨by decide, by rw [hL]; decide⟩) dL_law_386 ?_
  refine lv_topi (fun x_21 ex_21 => ?_)
  obtain rfl : z4 = x_21 := ez4.trans ex_21.symm
  refine lv_aload_n hx hb dL_law_387 rfl (lv_at hl 3 rfl) ?_
  refine lv_iload_n hx hb dL_law_388 rfl (lv_at hl 0 rfl) ?_
  refine lv_iconst (v := 5) hx hb dL_law_389 (by decide) ?_
  refine lv_iadd hx hb dL_law_390 ?_
  refine lv_topi (fun x_22 ex_22 => ?_)
  obtain rfl : x_22 = 5 := ex_22.trans (by decide)
  refine va_sld hx hb hX hbl hbA hS (vp_in_iff.mpr ⟨by decide, by rw [hL]; decide⟩) dL_law_391 ?_
  refine lv_topi (fun x_23 ex_23 => ?_)
  obtain rfl : z5 = x_23 := ez5.trans ex_23.symm
  have hPc := hP.sub (ws' := [(m0, .inr (9, [.int 0, .int 0, .int 0, .ref m_rowPerson, .ref m_rowStream, .ref m_rowMoment, .ref m_rowKnown, .ref m_rowValue, .ref m_isGone, .ref m_mergeTo, .ref m_mergeKnown, .int 0, .ref m_isErased, .ref m_tape, .int 0, .int 0, .int 0, .int 0, .int (-1), .int 0, .ref m_five, .int 0, .int 0, .int 0, .int 0, .ref m_size0, .ref m_step, .ref m_stepA, .ref m_stepB, .ref m_stepC, .ref m_values, .ref m_heap, .ref m_isOne, .ref m_lawFrom, .ref m_lawTo, .ref m_hasLaw, .ref m_limits, .ref m_held, .ref m_hasKept, .ref m_kept, .ref m_keptAt, .int 0, .ref m_placeTrait, .ref m_placePerson, .ref m_placeMoment, .ref m_placeValue, .ref m_isFilled, .int 0, .ref m_uses, .ref m_heapsOne, .ref m_heapsOther])), (m_tape, .inl (k_tape, 200, .inl (fun _ => 0))), (m_five, .inl (k_five, 5, .inl (fun _ => 0)))]) [0, 1, 2] rfl
  have hDc := hD.sub (ws' := [(m0, .inr (9, [.int 0, .int 0, .int 0, .ref m_rowPerson, .ref m_rowStream, .ref m_rowMoment, .ref m_rowKnown, .ref m_rowValue, .ref m_isGone, .ref m_mergeTo, .ref m_mergeKnown, .int 0, .ref m_isErased, .ref m_tape, .int 0, .int 0, .int 0, .int 0, .int (-1), .int 0, .ref m_five, .int 0, .int 0, .int 0, .int 0, .ref m_size0, .ref m_step, .ref m_stepA, .ref m_stepB, .ref m_stepC, .ref m_values, .ref m_heap, .ref m_isOne, .ref m_lawFrom, .ref m_lawTo, .ref m_hasLaw, .ref m_limits, .ref m_held, .ref m_hasKept, .ref m_kept, .ref m_keptAt, .int 0, .ref m_placeTrait, .ref m_placePerson, .ref m_placeMoment, .ref m_placeValue, .ref m_isFilled, .int 0, .ref m_uses, .ref m_heapsOne, .ref m_heapsOther])), (m_tape, .inl (k_tape, 200, .inl (fun _ => 0))), (m_five, .inl (k_five, 5, .inl (fun _ => 0)))]) [0, 1, 2] (by decide) rfl
  have hKc := hK.sub (tys' := [(k_tape, .byte), (k_five, .int)]) [1, 2] rfl
  have hFc := va_free (wc := [(m0, .inr (9, [.int 0, .int 0, .int 0, .ref m_rowPerson, .ref m_rowStream, .ref m_rowMoment, .ref m_rowKnown, .ref m_rowValue, .ref m_isGone, .ref m_mergeTo, .ref m_mergeKnown, .int 0, .ref m_isErased, .ref m_tape, .int 0, .int 0, .int 0, .int 0, .int (-1), .int 0, .ref m_five, .int 0, .int 0, .int 0, .int 0, .ref m_size0, .ref m_step, .ref m_stepA, .ref m_stepB, .ref m_stepC, .ref m_values, .ref m_heap, .ref m_isOne, .ref m_lawFrom, .ref m_lawTo, .ref m_hasLaw, .ref m_limits, .ref m_held, .ref m_hasKept, .ref m_kept, .ref m_keptAt, .int 0, .ref m_placeTrait, .ref m_placePerson, .ref m_placeMoment, .ref m_placeValue, .ref m_isFilled, .int 0, .ref m_uses, .ref m_heapsOne, .ref m_heapsOther])), (m_tape, .inl (k_tape, 200, .inl (fun _ => 0))), (m_five, .inl (k_five, 5, .inl (fun _ => 0)))]) hD hS hA [0, 1, 2] rfl
  refine va_calli (va_runV (As := [.int z1, .int z2, .int z3, .int z4, .int z5]) (rest := [.int r_11]) ⟨hx, hb, hml, hown, hts⟩ (c_X9_feed l dC dI H.size m0 m_rowPerson m_rowStream m_rowMoment m_rowKnown m_rowValue m_isGone m_mergeTo m_mergeKnown m_isErased m_tape m_five m_size0 m_step m_stepA m_stepB m_stepC m_values m_heap m_isOne m_lawFrom m_lawTo m_hasLaw m_limits m_held m_hasKept m_kept m_keptAt m_placeTrait m_placePerson m_placeMoment m_placeValue m_isFilled m_uses m_heapsOne m_heapsOther k_tape k_five z1 z2 z3 z4 z5 ) (cwV 5 hts gL_law_X9_feed rfl rfl rfl (by decide +kernel) ⟨Nat.le_of_ble_eq_true rfl, Nat.le_of_ble_eq_true rfl⟩) ⟨fun a U g mk q => by obtain ⟨q0, q1, qP, qK, qD, qN⟩ := q; exact ⟨q0, q1, qP, va_K.moved (u := U) (U := U.calling g mk a) (Vm.Alike.refl U.vm) qK, qD, qN.same rfl⟩, va_recv hKc hPc (ci := 9) (q0 := 0) rfl rfl, fun U hU hW => ⟨rfl, by rw [hU], by rw [hU]; exact hPc, va_K.moved hW.alike hKc, hDc.weaken (fun _ _ _ _ => trivial), hN.warm hW⟩⟩ rfl rfl hl.1 rfl (lv_room (Nat.le_of_ble_eq_true rfl)) dL_law_392 ⟨Nat.le_of_ble_eq_true rfl, Nat.le_of_ble_eq_true rfl⟩) hS (fun q _ h => hFc q h) hFc (fun r_24 u_25 t H1 locs ht hvm hw_26 hB hz1 hk1 hS => ?_)
  try dsimp only at hw_26
  have hP1 : va_P (dC, dI) vwCl [] H1 := fun k q h => by simp at h
  have hD1 : va_D (va_A [(m0, .inr (9, [.int 0, .int 0, .int 0, .ref m_rowPerson, .ref m_rowStream, .ref m_rowMoment, .ref m_rowKnown, .ref m_rowValue, .ref m_isGone, .ref m_mergeTo, .ref m_mergeKnown, .int 0, .ref m_isErased, .ref m_tape, .int 0, .int 0, .int 0, .int 0, .int (-1), .int 0, .ref m_five, .int 0, .int 0, .int 0, .int 0, .ref m_size0, .ref m_step, .ref m_stepA, .ref m_stepB, .ref m_stepC, .ref m_values, .ref m_heap, .ref m_isOne, .ref m_lawFrom, .ref m_lawTo, .ref m_hasLaw, .ref m_limits, .ref m_held, .ref m_hasKept, .ref m_kept, .ref m_keptAt, .int 0, .ref m_placeTrait, .ref m_placePerson, .ref m_placeMoment, .ref m_placeValue, .ref m_isFilled, .int 0, .ref m_uses, .ref m_heapsOne, .ref m_heapsOther])), (m_tape, .inl (k_tape, 200, .inl (fun _ => 0))), (m_five, .inl (k_five, 5, .inl (fun _ => 0)))] H.size) [] := ⟨fun i j p q h => by simp at h, fun k q h => by simp at h⟩
  have hK1 : va_K (dC, dI) vwCl [] s := hK.sub [] rfl
  obtain ⟨hP, hD⟩ := va_join (wr := []) (w1 := []) hP hD [0, 1, 2] [] rfl rfl (by decide) (by decide) hk1 hFc hP1 hD1
  have hK := (hK.sub (tys' := [(cB, .int), (k_tape, .byte), (k_five, .int)]) [0, 1, 2] rfl).app hK1
  generalize H1 = H at hP hS ⊢
  have hP : va_P (dC, dI) vwCl [] H := hP
  have hD : va_D (fun q : Nat => s.heap.size ≤ q) [] := hD
  have hK : va_K (dC, dI) vwCl [(cB, .int), (k_tape, .byte), (k_five, .int)] s := hK
  refine lv_icmp_eq (tgt := 1234) hx hb dL_law_395 (by decide) (fun c_27 => ?_) (fun c_27 => ?_)
  · exact law_tail hL C0 hS (lv_sub hl [0, 3] rfl)
  · have dc_27 : ¬ r_11.toInt = r_24.toInt := jI_ne c_27 rfl rfl
    exfalso; omega

set_option maxHeartbeats 4000000 in
set_option maxRecDepth 100000 in
theorem law_end {p : Program} {l : Launch} {e : Env} {s : State} {m : MethodId} {below : List Frame} {meth : Method} {c : Code} {dC : Nat → ClassId} {dI : Nat → Nat → Nat} {b L : Nat} {xs : Nat → Int32} (hL : L = 11) (C0 : lw_At p s m meth c b L xs) (hN : nw_ok s) (h0 : Nat) (hRows : Nat) (hMer : Nat) (hEra : Nat) (hTape : Nat) (hRea : Nat) (hTra : Nat) (hWor : Nat) (hPla : Nat) (hMod : Nat) (hHe1 : Nat) (hHe2 : Nat) (aB : Nat) (m0 : Nat) (m_rowPerson : Nat) (m_rowStream : Nat) (m_rowMoment : Nat) (m_rowKnown : Nat) (m_rowValue : Nat) (m_isGone : Nat) (m_mergeTo : Nat) (m_mergeKnown : Nat) (m_isErased : Nat) (m_tape : Nat) (m_five : Nat) (m_size0 : Nat) (m_step : Nat) (m_stepA : Nat) (m_stepB : Nat) (m_stepC : Nat) (m_values : Nat) (m_heap : Nat) (m_isOne : Nat) (m_lawFrom : Nat) (m_lawTo : Nat) (m_hasLaw : Nat) (m_limits : Nat) (m_held : Nat) (m_hasKept : Nat) (m_kept : Nat) (m_keptAt : Nat) (m_placeTrait : Nat) (m_placePerson : Nat) (m_placeMoment : Nat) (m_placeValue : Nat) (m_isFilled : Nat) (m_uses : Nat) (m_heapsOne : Nat) (m_heapsOther : Nat)  (H : Heap) (locs : List Loc) (hK : va_K (dC, dI) vwCl [] s) (hP : va_P (dC, dI) vwCl [(h0, .inr (8, [.ref hRows, .ref hMer, .ref hEra, .ref hTape, .ref hRea, .ref hTra, .ref hWor, .ref hPla, .ref hMod, .ref hHe1, .ref hHe2, .int 0, .int 0, .int 0, .int 0, .int (-1), .int 0])), (hTape, .inr (5, [.ref aB, .int 0])), (m0, .inr (9, [.int 0, .int 0, .int 0, .ref m_rowPerson, .ref m_rowStream, .ref m_rowMoment, .ref m_rowKnown, .ref m_rowValue, .ref m_isGone, .ref m_mergeTo, .ref m_mergeKnown, .int 0, .ref m_isErased, .ref m_tape, .int 0, .int 0, .int 0, .int 0, .int (-1), .int 0, .ref m_five, .int 0, .int 0, .int 0, .int 0, .ref m_size0, .ref m_step, .ref m_stepA, .ref m_stepB, .ref m_stepC, .ref m_values, .ref m_heap, .ref m_isOne, .ref m_lawFrom, .ref m_lawTo, .ref m_hasLaw, .ref m_limits, .ref m_held, .ref m_hasKept, .ref m_kept, .ref m_keptAt, .int 0, .ref m_placeTrait, .ref m_placePerson, .ref m_placeMoment, .ref m_placeValue, .ref m_isFilled, .int 0, .ref m_uses, .ref m_heapsOne, .ref m_heapsOther]))] H) (hD : va_D (fun q : Nat => s.heap.size ≤ q) [(h0, .inr (8, [.ref hRows, .ref hMer, .ref hEra, .ref hTape, .ref hRea, .ref hTra, .ref hWor, .ref hPla, .ref hMod, .ref hHe1, .ref hHe2, .int 0, .int 0, .int 0, .int 0, .int (-1), .int 0])), (hTape, .inr (5, [.ref aB, .int 0])), (m0, .inr (9, [.int 0, .int 0, .int 0, .ref m_rowPerson, .ref m_rowStream, .ref m_rowMoment, .ref m_rowKnown, .ref m_rowValue, .ref m_isGone, .ref m_mergeTo, .ref m_mergeKnown, .int 0, .ref m_isErased, .ref m_tape, .int 0, .int 0, .int 0, .int 0, .int (-1), .int 0, .ref m_five, .int 0, .int 0, .int 0, .int 0, .ref m_size0, .ref m_step, .ref m_stepA, .ref m_stepB, .ref m_stepC, .ref m_values, .ref m_heap, .ref m_isOne, .ref m_lawFrom, .ref m_lawTo, .ref m_hasLaw, .ref m_limits, .ref m_held, .ref m_hasKept, .ref m_kept, .ref m_keptAt, .int 0, .ref m_placeTrait, .ref m_placePerson, .ref m_placeMoment, .ref m_placeValue, .ref m_isFilled, .int 0, .ref m_uses, .ref m_heapsOne, .ref m_heapsOther]))]) (hS : va_S (fun q : Nat => s.heap.size ≤ q) s.heap H locs) (ls : Array Slot) (hl : lv_has ls 4 [(3, .int 0), (2, .ref m0), (1, .ref h0), (0, .ref b)]) : W p l e room_1 s m #[Value.ref b] below meth c H locs 600000 7302250 (lw_Z below #[Value.ref b] s) (F0 m 400 ls []) := by
  obtain ⟨hx, hb, hr, hml, hown, hts, hX, hbl, hlocks, hgv⟩ := id C0
  have hts := fun w h => hts w (wsL_law_in w h)
  have hown : s.vm.findClass RL = some m.cls := hown
  have hA : ∀ q : Nat, s.heap.size ≤ q → (fun q : Nat => s.heap.size ≤ q) q := fun _ h => h
  have hbA : ¬ (fun q : Nat => s.heap.size ≤ q) b := Nat.not_le.mpr hbl
  obtain ⟨z1, ez1⟩ : ∃ z : Int32, z = xs (1 : Int32).toNatClampNeg := ⟨_, rfl⟩
  refine lv_aload_n hx hb dL_law_400 rfl (lv_at hl 2 rfl) ?_
  refine lv_aload_n hx hb dL_law_401 rfl (lv_at hl 3 rfl) ?_
  refine lv_iload_n hx hb dL_law_402 rfl (lv_at hl 0 rfl) ?_
  refine lv_iconst (v := 1) hx hb dL_law_403 (by decide) ?_
  refine lv_iadd hx hb dL_law_404 ?_
  refine lv_topi (fun x_1 ex_1 => ?_)
  obtain rfl : x_1 = 1 := ex_1.trans (by decide)
  refine va_sld hx hb hX hbl hbA hS (vp_in_iff.mpr ⟨by decide, by rw [hL]; decide⟩) dL_law_405 ?_
  refine lv_topi (fun x_2 ex_2 => ?_)
  obtain rfl : z1 = x_2 := ez1.trans ex_2.symm
  have hPc := hP.sub (ws' := [(h0, .inr (8, [.ref hRows, .ref hMer, .ref hEra, .ref hTape, .ref hRea, .ref hTra, .ref hWor, .ref hPla, .ref hMod, .ref hHe1, .ref hHe2, .int 0, .int 0, .int 0, .int 0, .int (-1), .int 0])), (hTape, .inr (5, [.ref aB, .int 0]))]) [0, 1] rfl
  have hDc := hD.sub (ws' := [(h0, .inr (8, [.ref hRows, .ref hMer, .ref hEra, .ref hTape, .ref hRea, .ref hTra, .ref hWor, .ref hPla, .ref hMod, .ref hHe1, .ref hHe2, .int 0, .int 0, .int 0, .int 0, .int (-1), .int 0])), (hTape, .inr (5, [.ref aB, .int 0]))]) [0, 1] (by decide) rfl
  have hKc := hK.sub (tys' := []) [] rfl
  have hFc := va_free (wc := [(h0, .inr (8, [.ref hRows, .ref hMer, .ref hEra, .ref hTape, .ref hRea, .ref hTra, .ref hWor, .ref hPla, .ref hMod, .ref hHe1, .ref hHe2, .int 0, .int 0, .int 0, .int 0, .int (-1), .int 0])), (hTape, .inr (5, [.ref aB, .int 0]))]) hD hS hA [0, 1] rfl
  refine va_calli (va_runV (As := [.int z1]) (rest := []) ⟨hx, hb, hml, hown, hts⟩ (c_X8_end l dC dI H.size h0 hRows hMer hEra hTape hRea hTra hWor hPla hMod hHe1 hHe2 aB z1 ) (cwV 1 hts gL_law_X8_end rfl rfl rfl (by decide +kernel) ⟨Nat.le_of_ble_eq_true rfl, Nat.le_of_ble_eq_true rfl⟩) ⟨fun a U g mk q => by obtain ⟨q0, q1, qP, qK, qD, qN⟩ := q; exact ⟨q0, q1, qP, va_K.moved (u := U) (U := U.calling g mk a) (Vm.Alike.refl U.vm) qK, qD, qN.same rfl⟩, va_recv hKc hPc (ci := 8) (q0 := 0) rfl rfl, fun U hU hW => ⟨rfl, by rw [hU], by rw [hU]; exact hPc, va_K.moved hW.alike hKc, hDc.weaken (fun _ _ _ _ => trivial), hN.warm hW⟩⟩ rfl rfl hl.1 rfl (lv_room (Nat.le_of_ble_eq_true rfl)) dL_law_406 ⟨Nat.le_of_ble_eq_true rfl, Nat.le_of_ble_eq_true rfl⟩) hS (fun q _ h => hFc q h) hFc (fun r_3 u_4 t H1 locs ht hvm hw_5 hB hz1 hk1 hS => ?_)
  try dsimp only at hw_5
  have hP1 : va_P (dC, dI) vwCl [] H1 := fun k q h => by simp at h
  have hD1 : va_D (va_A [(h0, .inr (8, [.ref hRows, .ref hMer, .ref hEra, .ref hTape, .ref hRea, .ref hTra, .ref hWor, .ref hPla, .ref hMod, .ref hHe1, .ref hHe2, .int 0, .int 0, .int 0, .int 0, .int (-1), .int 0])), (hTape, .inr (5, [.ref aB, .int 0]))] H.size) [] := ⟨fun i j p q h => by simp at h, fun k q h => by simp at h⟩
  have hK1 : va_K (dC, dI) vwCl [] s := hK.sub [] rfl
  obtain ⟨hP, hD⟩ := va_join (wr := [(m0, .inr (9, [.int 0, .int 0, .int 0, .ref m_rowPerson, .ref m_rowStream, .ref m_rowMoment, .ref m_rowKnown, .ref m_rowValue, .ref m_isGone, .ref m_mergeTo, .ref m_mergeKnown, .int 0, .ref m_isErased, .ref m_tape, .int 0, .int 0, .int 0, .int 0, .int (-1), .int 0, .ref m_five, .int 0, .int 0, .int 0, .int 0, .ref m_size0, .ref m_step, .ref m_stepA, .ref m_stepB, .ref m_stepC, .ref m_values, .ref m_heap, .ref m_isOne, .ref m_lawFrom, .ref m_lawTo, .ref m_hasLaw, .ref m_limits, .ref m_held, .ref m_hasKept, .ref m_kept, .ref m_keptAt, .int 0, .ref m_placeTrait, .ref m_placePerson, .ref m_placeMoment, .ref m_placeValue, .ref m_isFilled, .int 0, .ref m_uses, .ref m_heapsOne, .ref m_heapsOther]))]) (w1 := []) hP hD [0, 1] [2] rfl rfl (by decide) (by decide) hk1 hFc hP1 hD1
  have hK := (hK.sub (tys' := []) [] rfl).app hK1
  generalize H1 = H at hP hS ⊢
  have hP : va_P (dC, dI) vwCl [(m0, .inr (9, [.int 0, .int 0, .int 0, .ref m_rowPerson, .ref m_rowStream, .ref m_rowMoment, .ref m_rowKnown, .ref m_rowValue, .ref m_isGone, .ref m_mergeTo, .ref m_mergeKnown, .int 0, .ref m_isErased, .ref m_tape, .int 0, .int 0, .int 0, .int 0, .int (-1), .int 0, .ref m_five, .int 0, .int 0, .int 0, .int 0, .ref m_size0, .ref m_step, .ref m_stepA, .ref m_stepB, .ref m_stepC, .ref m_values, .ref m_heap, .ref m_isOne, .ref m_lawFrom, .ref m_lawTo, .ref m_hasLaw, .ref m_limits, .ref m_held, .ref m_hasKept, .ref m_kept, .ref m_keptAt, .int 0, .ref m_placeTrait, .ref m_placePerson, .ref m_placeMoment, .ref m_placeValue, .ref m_isFilled, .int 0, .ref m_uses, .ref m_heapsOne, .ref m_heapsOther]))] H := hP
  have hD : va_D (fun q : Nat => s.heap.size ≤ q) [(m0, .inr (9, [.int 0, .int 0, .int 0, .ref m_rowPerson, .ref m_rowStream, .ref m_rowMoment, .ref m_rowKnown, .ref m_rowValue, .ref m_isGone, .ref m_mergeTo, .ref m_mergeKnown, .int 0, .ref m_isErased, .ref m_tape, .int 0, .int 0, .int 0, .int 0, .int (-1), .int 0, .ref m_five, .int 0, .int 0, .int 0, .int 0, .ref m_size0, .ref m_step, .ref m_stepA, .ref m_stepB, .ref m_stepC, .ref m_values, .ref m_heap, .ref m_isOne, .ref m_lawFrom, .ref m_lawTo, .ref m_hasLaw, .ref m_limits, .ref m_held, .ref m_hasKept, .ref m_kept, .ref m_keptAt, .int 0, .ref m_placeTrait, .ref m_placePerson, .ref m_placeMoment, .ref m_placeValue, .ref m_isFilled, .int 0, .ref m_uses, .ref m_heapsOne, .ref m_heapsOther]))] := hD
  have hK : va_K (dC, dI) vwCl [] s := hK
  refine lv_aload_n hx hb dL_law_409 rfl (lv_at hl 1 rfl) ?_
  refine lv_aload_n hx hb dL_law_410 rfl (lv_at hl 3 rfl) ?_
  refine lv_iload_n hx hb dL_law_411 rfl (lv_at hl 0 rfl) ?_
  refine lv_iconst (v := 1) hx hb dL_law_412 (by decide) ?_
  refine lv_iadd hx hb dL_law_413 ?_
  refine lv_topi (fun x_6 ex_6 => ?_)
  obtain rfl : x_6 = 1 := ex_6.trans (by decide)
  refine va_sld hx hb hX hbl hbA hS (vp_in_iff.mpr ⟨by decide, by rw [hL]; decide⟩) dL_law_414 ?_
  refine lv_topi (fun x_7 ex_7 => ?_)
  obtain rfl : z1 = x_7 := ez1.trans ex_7.symm
  have hPc := hP.sub (ws' := [(m0, .inr (9, [.int 0, .int 0, .int 0, .ref m_rowPerson, .ref m_rowStream, .ref m_rowMoment, .ref m_rowKnown, .ref m_rowValue, .ref m_isGone, .ref m_mergeTo, .ref m_mergeKnown, .int 0, .ref m_isErased, .ref m_tape, .int 0, .int 0, .int 0, .int 0, .int (-1), .int 0, .ref m_five, .int 0, .int 0, .int 0, .int 0, .ref m_size0, .ref m_step, .ref m_stepA, .ref m_stepB, .ref m_stepC, .ref m_values, .ref m_heap, .ref m_isOne, .ref m_lawFrom, .ref m_lawTo, .ref m_hasLaw, .ref m_limits, .ref m_held, .ref m_hasKept, .ref m_kept, .ref m_keptAt, .int 0, .ref m_placeTrait, .ref m_placePerson, .ref m_placeMoment, .ref m_placeValue, .ref m_isFilled, .int 0, .ref m_uses, .ref m_heapsOne, .ref m_heapsOther]))]) [0] rfl
  have hDc := hD.sub (ws' := [(m0, .inr (9, [.int 0, .int 0, .int 0, .ref m_rowPerson, .ref m_rowStream, .ref m_rowMoment, .ref m_rowKnown, .ref m_rowValue, .ref m_isGone, .ref m_mergeTo, .ref m_mergeKnown, .int 0, .ref m_isErased, .ref m_tape, .int 0, .int 0, .int 0, .int 0, .int (-1), .int 0, .ref m_five, .int 0, .int 0, .int 0, .int 0, .ref m_size0, .ref m_step, .ref m_stepA, .ref m_stepB, .ref m_stepC, .ref m_values, .ref m_heap, .ref m_isOne, .ref m_lawFrom, .ref m_lawTo, .ref m_hasLaw, .ref m_limits, .ref m_held, .ref m_hasKept, .ref m_kept, .ref m_keptAt, .int 0, .ref m_placeTrait, .ref m_placePerson, .ref m_placeMoment, .ref m_placeValue, .ref m_isFilled, .int 0, .ref m_uses, .ref m_heapsOne, .ref m_heapsOther]))]) [0] (by decide) rfl
  have hKc := hK.sub (tys' := []) [] rfl
  have hFc := va_free (wc := [(m0, .inr (9, [.int 0, .int 0, .int 0, .ref m_rowPerson, .ref m_rowStream, .ref m_rowMoment, .ref m_rowKnown, .ref m_rowValue, .ref m_isGone, .ref m_mergeTo, .ref m_mergeKnown, .int 0, .ref m_isErased, .ref m_tape, .int 0, .int 0, .int 0, .int 0, .int (-1), .int 0, .ref m_five, .int 0, .int 0, .int 0, .int 0, .ref m_size0, .ref m_step, .ref m_stepA, .ref m_stepB, .ref m_stepC, .ref m_values, .ref m_heap, .ref m_isOne, .ref m_lawFrom, .ref m_lawTo, .ref m_hasLaw, .ref m_limits, .ref m_held, .ref m_hasKept, .ref m_kept, .ref m_keptAt, .int 0, .ref m_placeTrait, .ref m_placePerson, .ref m_placeMoment, .ref m_placeValue, .ref m_isFilled, .int 0, .ref m_uses, .ref m_heapsOne, .ref m_heapsOther]))]) hD hS hA [0] rfl
  refine va_calli (va_runV (As := [.int z1]) (rest := [.int r_3]) ⟨hx, hb, hml, hown, hts⟩ (c_X9_end l dC dI H.size m0 m_rowPerson m_rowStream m_rowMoment m_rowKnown m_rowValue m_isGone m_mergeTo m_mergeKnown m_isErased m_tape m_five m_size0 m_step m_stepA m_stepB m_stepC m_values m_heap m_isOne m_lawFrom m_lawTo m_hasLaw m_limits m_held m_hasKept m_kept m_keptAt m_placeTrait m_placePerson m_placeMoment m_placeValue m_isFilled m_uses m_heapsOne m_heapsOther z1 ) (cwV 1 hts gL_law_X9_end rfl rfl rfl (by decide +kernel) ⟨Nat.le_of_ble_eq_true rfl, Nat.le_of_ble_eq_true rfl⟩) ⟨fun a U g mk q => by obtain ⟨q0, q1, qP, qK, qD, qN⟩ := q; exact ⟨q0, q1, qP, va_K.moved (u := U) (U := U.calling g mk a) (Vm.Alike.refl U.vm) qK, qD, qN.same rfl⟩, va_recv hKc hPc (ci := 9) (q0 := 0) rfl rfl, fun U hU hW => ⟨rfl, by rw [hU], by rw [hU]; exact hPc, va_K.moved hW.alike hKc, hDc.weaken (fun _ _ _ _ => trivial), hN.warm hW⟩⟩ rfl rfl hl.1 rfl (lv_room (Nat.le_of_ble_eq_true rfl)) dL_law_415 ⟨Nat.le_of_ble_eq_true rfl, Nat.le_of_ble_eq_true rfl⟩) hS (fun q _ h => hFc q h) hFc (fun r_8 u_9 t H1 locs ht hvm hw_10 hB hz1 hk1 hS => ?_)
  try dsimp only at hw_10
  have hP1 : va_P (dC, dI) vwCl [] H1 := fun k q h => by simp at h
  have hD1 : va_D (va_A [(m0, .inr (9, [.int 0, .int 0, .int 0, .ref m_rowPerson, .ref m_rowStream, .ref m_rowMoment, .ref m_rowKnown, .ref m_rowValue, .ref m_isGone, .ref m_mergeTo, .ref m_mergeKnown, .int 0, .ref m_isErased, .ref m_tape, .int 0, .int 0, .int 0, .int 0, .int (-1), .int 0, .ref m_five, .int 0, .int 0, .int 0, .int 0, .ref m_size0, .ref m_step, .ref m_stepA, .ref m_stepB, .ref m_stepC, .ref m_values, .ref m_heap, .ref m_isOne, .ref m_lawFrom, .ref m_lawTo, .ref m_hasLaw, .ref m_limits, .ref m_held, .ref m_hasKept, .ref m_kept, .ref m_keptAt, .int 0, .ref m_placeTrait, .ref m_placePerson, .ref m_placeMoment, .ref m_placeValue, .ref m_isFilled, .int 0, .ref m_uses, .ref m_heapsOne, .ref m_heapsOther]))] H.size) [] := ⟨fun i j p q h => by simp at h, fun k q h => by simp at h⟩
  have hK1 : va_K (dC, dI) vwCl [] s := hK.sub [] rfl
  obtain ⟨hP, hD⟩ := va_join (wr := []) (w1 := []) hP hD [0] [] rfl rfl (by decide) (by decide) hk1 hFc hP1 hD1
  have hK := (hK.sub (tys' := []) [] rfl).app hK1
  generalize H1 = H at hP hS ⊢
  have hP : va_P (dC, dI) vwCl [] H := hP
  have hD : va_D (fun q : Nat => s.heap.size ≤ q) [] := hD
  have hK : va_K (dC, dI) vwCl [] s := hK
  refine lv_icmp_eq (tgt := 1234) hx hb dL_law_418 (by decide) (fun c_11 => ?_) (fun c_11 => ?_)
  · exact law_tail hL C0 hS (lv_sub hl [0, 3] rfl)
  · have dc_11 : ¬ r_3.toInt = r_8.toInt := jI_ne c_11 rfl rfl
    exfalso; omega

set_option maxHeartbeats 4000000 in
set_option maxRecDepth 100000 in
theorem law_trait {p : Program} {l : Launch} {e : Env} {s : State} {m : MethodId} {below : List Frame} {meth : Method} {c : Code} {dC : Nat → ClassId} {dI : Nat → Nat → Nat} {b L : Nat} {xs : Nat → Int32} (hL : L = 11) (C0 : lw_At p s m meth c b L xs) (hN : nw_ok s) (adK adV : Nat → Nat) (hSt : st_ok adK adV (fun q : Nat => s.heap.size ≤ q) s) (h0 : Nat) (hRows : Nat) (hMer : Nat) (hEra : Nat) (hTape : Nat) (hRea : Nat) (hTra : Nat) (hWor : Nat) (hPla : Nat) (hMod : Nat) (hHe1 : Nat) (hHe2 : Nat) (aSt : Nat) (aB : Nat) (m0 : Nat) (m_rowPerson : Nat) (m_rowStream : Nat) (m_rowMoment : Nat) (m_rowKnown : Nat) (m_rowValue : Nat) (m_isGone : Nat) (m_mergeTo : Nat) (m_mergeKnown : Nat) (m_isErased : Nat) (m_tape : Nat) (m_five : Nat) (m_size0 : Nat) (m_step : Nat) (m_stepA : Nat) (m_stepB : Nat) (m_stepC : Nat) (m_values : Nat) (m_heap : Nat) (m_isOne : Nat) (m_lawFrom : Nat) (m_lawTo : Nat) (m_hasLaw : Nat) (m_limits : Nat) (m_held : Nat) (m_hasKept : Nat) (m_kept : Nat) (m_keptAt : Nat) (m_placeTrait : Nat) (m_placePerson : Nat) (m_placeMoment : Nat) (m_placeValue : Nat) (m_isFilled : Nat) (m_uses : Nat) (m_heapsOne : Nat) (m_heapsOther : Nat)  (H : Heap) (locs : List Loc) (hK : va_K (dC, dI) vwCl [] s) (hP : va_P (dC, dI) vwCl [(h0, .inr (8, [.ref hRows, .ref hMer, .ref hEra, .ref hTape, .ref hRea, .ref hTra, .ref hWor, .ref hPla, .ref hMod, .ref hHe1, .ref hHe2, .int 0, .int 0, .int 0, .int 0, .int (-1), .int 0])), (hRea, .inr (2, [.ref hTape, .ref aSt, .int 0, .int 0, .int 0, .int 0, .int (-1), .int 0, .int 0])), (hTape, .inr (5, [.ref aB, .int 0])), (m0, .inr (9, [.int 0, .int 0, .int 0, .ref m_rowPerson, .ref m_rowStream, .ref m_rowMoment, .ref m_rowKnown, .ref m_rowValue, .ref m_isGone, .ref m_mergeTo, .ref m_mergeKnown, .int 0, .ref m_isErased, .ref m_tape, .int 0, .int 0, .int 0, .int 0, .int (-1), .int 0, .ref m_five, .int 0, .int 0, .int 0, .int 0, .ref m_size0, .ref m_step, .ref m_stepA, .ref m_stepB, .ref m_stepC, .ref m_values, .ref m_heap, .ref m_isOne, .ref m_lawFrom, .ref m_lawTo, .ref m_hasLaw, .ref m_limits, .ref m_held, .ref m_hasKept, .ref m_kept, .ref m_keptAt, .int 0, .ref m_placeTrait, .ref m_placePerson, .ref m_placeMoment, .ref m_placeValue, .ref m_isFilled, .int 0, .ref m_uses, .ref m_heapsOne, .ref m_heapsOther]))] H) (hD : va_D (fun q : Nat => s.heap.size ≤ q) [(h0, .inr (8, [.ref hRows, .ref hMer, .ref hEra, .ref hTape, .ref hRea, .ref hTra, .ref hWor, .ref hPla, .ref hMod, .ref hHe1, .ref hHe2, .int 0, .int 0, .int 0, .int 0, .int (-1), .int 0])), (hRea, .inr (2, [.ref hTape, .ref aSt, .int 0, .int 0, .int 0, .int 0, .int (-1), .int 0, .int 0])), (hTape, .inr (5, [.ref aB, .int 0])), (m0, .inr (9, [.int 0, .int 0, .int 0, .ref m_rowPerson, .ref m_rowStream, .ref m_rowMoment, .ref m_rowKnown, .ref m_rowValue, .ref m_isGone, .ref m_mergeTo, .ref m_mergeKnown, .int 0, .ref m_isErased, .ref m_tape, .int 0, .int 0, .int 0, .int 0, .int (-1), .int 0, .ref m_five, .int 0, .int 0, .int 0, .int 0, .ref m_size0, .ref m_step, .ref m_stepA, .ref m_stepB, .ref m_stepC, .ref m_values, .ref m_heap, .ref m_isOne, .ref m_lawFrom, .ref m_lawTo, .ref m_hasLaw, .ref m_limits, .ref m_held, .ref m_hasKept, .ref m_kept, .ref m_keptAt, .int 0, .ref m_placeTrait, .ref m_placePerson, .ref m_placeMoment, .ref m_placeValue, .ref m_isFilled, .int 0, .ref m_uses, .ref m_heapsOne, .ref m_heapsOther]))]) (hS : va_S (fun q : Nat => s.heap.size ≤ q) s.heap H locs) (ls : Array Slot) (hl : lv_has ls 4 [(3, .int 0), (2, .ref m0), (1, .ref h0), (0, .ref b)]) : W p l e room_1 s m #[Value.ref b] below meth c H locs 600000 7302250 (lw_Z below #[Value.ref b] s) (F0 m 423 ls []) := by
  obtain ⟨hx, hb, hr, hml, hown, hts, hX, hbl, hlocks, hgv⟩ := id C0
  have hts := fun w h => hts w (wsL_law_in w h)
  have hown : s.vm.findClass RL = some m.cls := hown
  have hA : ∀ q : Nat, s.heap.size ≤ q → (fun q : Nat => s.heap.size ≤ q) q := fun _ h => h
  have hbA : ¬ (fun q : Nat => s.heap.size ≤ q) b := Nat.not_le.mpr hbl
  refine lv_aload_n hx hb dL_law_423 rfl (lv_at hl 2 rfl) ?_
  have hPc := hP.sub (ws' := [(h0, .inr (8, [.ref hRows, .ref hMer, .ref hEra, .ref hTape, .ref hRea, .ref hTra, .ref hWor, .ref hPla, .ref hMod, .ref hHe1, .ref hHe2, .int 0, .int 0, .int 0, .int 0, .int (-1), .int 0])), (hRea, .inr (2, [.ref hTape, .ref aSt, .int 0, .int 0, .int 0, .int 0, .int (-1), .int 0, .int 0])), (hTape, .inr (5, [.ref aB, .int 0]))]) [0, 1, 2] rfl
  have hDc := hD.sub (ws' := [(h0, .inr (8, [.ref hRows, .ref hMer, .ref hEra, .ref hTape, .ref hRea, .ref hTra, .ref hWor, .ref hPla, .ref hMod, .ref hHe1, .ref hHe2, .int 0, .int 0, .int 0, .int 0, .int (-1), .int 0])), (hRea, .inr (2, [.ref hTape, .ref aSt, .int 0, .int 0, .int 0, .int 0, .int (-1), .int 0, .int 0])), (hTape, .inr (5, [.ref aB, .int 0]))]) [0, 1, 2] (by decide) rfl
  have hKc := hK.sub (tys' := []) [] rfl
  have hFc := va_free (wc := [(h0, .inr (8, [.ref hRows, .ref hMer, .ref hEra, .ref hTape, .ref hRea, .ref hTra, .ref hWor, .ref hPla, .ref hMod, .ref hHe1, .ref hHe2, .int 0, .int 0, .int 0, .int 0, .int (-1), .int 0])), (hRea, .inr (2, [.ref hTape, .ref aSt, .int 0, .int 0, .int 0, .int 0, .int (-1), .int 0, .int 0])), (hTape, .inr (5, [.ref aB, .int 0]))]) hD hS hA [0, 1, 2] rfl
  refine va_calli (va_runV (As := []) (rest := []) ⟨hx, hb, hml, hown, hts⟩ (c_X8_trait l dC dI H.size adK adV h0 hRows hMer hEra hTape hRea hTra hWor hPla hMod hHe1 hHe2 aSt aB ) (cwV 0 hts gL_law_X8_trait rfl rfl rfl (by decide +kernel) ⟨Nat.le_of_ble_eq_true rfl, Nat.le_of_ble_eq_true rfl⟩) ⟨fun a U g mk q => by obtain ⟨q0, q1, qP, qK, qD, qN⟩ := q; exact ⟨q0, q1, qP, va_K.moved (u := U) (U := U.calling g mk a) (Vm.Alike.refl U.vm) qK, qD, qN.same rfl rfl⟩, va_recv hKc hPc (ci := 8) (q0 := 0) rfl rfl, fun U hU hW => ⟨rfl, by rw [hU], by rw [hU]; exact hPc, va_K.moved hW.alike hKc, hDc.weaken (fun _ _ _ _ => trivial), hSt.call hS hU hW hFc⟩⟩ rfl rfl hl.1 rfl (lv_room (Nat.le_of_ble_eq_true rfl)) dL_law_424 ⟨Nat.le_of_ble_eq_true rfl, Nat.le_of_ble_eq_true rfl⟩) hS (fun q _ h => hFc q h) hFc (fun r_1 u_2 t H1 locs ht hvm hw_3 hB hz1 hk1 hS => ?_)
  try dsimp only at hw_3
  have hP1 : va_P (dC, dI) vwCl [] H1 := fun k q h => by simp at h
  have hD1 : va_D (va_A [(h0, .inr (8, [.ref hRows, .ref hMer, .ref hEra, .ref hTape, .ref hRea, .ref hTra, .ref hWor, .ref hPla, .ref hMod, .ref hHe1, .ref hHe2, .int 0, .int 0, .int 0, .int 0, .int (-1), .int 0])), (hRea, .inr (2, [.ref hTape, .ref aSt, .int 0, .int 0, .int 0, .int 0, .int (-1), .int 0, .int 0])), (hTape, .inr (5, [.ref aB, .int 0]))] H.size) [] := ⟨fun i j p q h => by simp at h, fun k q h => by simp at h⟩
  have hK1 : va_K (dC, dI) vwCl [] s := hK.sub [] rfl
  obtain ⟨hP, hD⟩ := va_join (wr := [(m0, .inr (9, [.int 0, .int 0, .int 0, .ref m_rowPerson, .ref m_rowStream, .ref m_rowMoment, .ref m_rowKnown, .ref m_rowValue, .ref m_isGone, .ref m_mergeTo, .ref m_mergeKnown, .int 0, .ref m_isErased, .ref m_tape, .int 0, .int 0, .int 0, .int 0, .int (-1), .int 0, .ref m_five, .int 0, .int 0, .int 0, .int 0, .ref m_size0, .ref m_step, .ref m_stepA, .ref m_stepB, .ref m_stepC, .ref m_values, .ref m_heap, .ref m_isOne, .ref m_lawFrom, .ref m_lawTo, .ref m_hasLaw, .ref m_limits, .ref m_held, .ref m_hasKept, .ref m_kept, .ref m_keptAt, .int 0, .ref m_placeTrait, .ref m_placePerson, .ref m_placeMoment, .ref m_placeValue, .ref m_isFilled, .int 0, .ref m_uses, .ref m_heapsOne, .ref m_heapsOther]))]) (w1 := []) hP hD [0, 1, 2] [3] rfl rfl (by decide) (by decide) hk1 hFc hP1 hD1
  have hK := (hK.sub (tys' := []) [] rfl).app hK1
  generalize H1 = H at hP hS ⊢
  have hP : va_P (dC, dI) vwCl [(m0, .inr (9, [.int 0, .int 0, .int 0, .ref m_rowPerson, .ref m_rowStream, .ref m_rowMoment, .ref m_rowKnown, .ref m_rowValue, .ref m_isGone, .ref m_mergeTo, .ref m_mergeKnown, .int 0, .ref m_isErased, .ref m_tape, .int 0, .int 0, .int 0, .int 0, .int (-1), .int 0, .ref m_five, .int 0, .int 0, .int 0, .int 0, .ref m_size0, .ref m_step, .ref m_stepA, .ref m_stepB, .ref m_stepC, .ref m_values, .ref m_heap, .ref m_isOne, .ref m_lawFrom, .ref m_lawTo, .ref m_hasLaw, .ref m_limits, .ref m_held, .ref m_hasKept, .ref m_kept, .ref m_keptAt, .int 0, .ref m_placeTrait, .ref m_placePerson, .ref m_placeMoment, .ref m_placeValue, .ref m_isFilled, .int 0, .ref m_uses, .ref m_heapsOne, .ref m_heapsOther]))] H := hP
  have hD : va_D (fun q : Nat => s.heap.size ≤ q) [(m0, .inr (9, [.int 0, .int 0, .int 0, .ref m_rowPerson, .ref m_rowStream, .ref m_rowMoment, .ref m_rowKnown, .ref m_rowValue, .ref m_isGone, .ref m_mergeTo, .ref m_mergeKnown, .int 0, .ref m_isErased, .ref m_tape, .int 0, .int 0, .int 0, .int 0, .int (-1), .int 0, .ref m_five, .int 0, .int 0, .int 0, .int 0, .ref m_size0, .ref m_step, .ref m_stepA, .ref m_stepB, .ref m_stepC, .ref m_values, .ref m_heap, .ref m_isOne, .ref m_lawFrom, .ref m_lawTo, .ref m_hasLaw, .ref m_limits, .ref m_held, .ref m_hasKept, .ref m_kept, .ref m_keptAt, .int 0, .ref m_placeTrait, .ref m_placePerson, .ref m_placeMoment, .ref m_placeValue, .ref m_isFilled, .int 0, .ref m_uses, .ref m_heapsOne, .ref m_heapsOther]))] := hD
  have hK : va_K (dC, dI) vwCl [] s := hK
  obtain rfl : (-6) = r_1 := hw_3.symm
  refine lv_aload_n hx hb dL_law_427 rfl (lv_at hl 1 rfl) ?_
  have hPc := hP.sub (ws' := [(m0, .inr (9, [.int 0, .int 0, .int 0, .ref m_rowPerson, .ref m_rowStream, .ref m_rowMoment, .ref m_rowKnown, .ref m_rowValue, .ref m_isGone, .ref m_mergeTo, .ref m_mergeKnown, .int 0, .ref m_isErased, .ref m_tape, .int 0, .int 0, .int 0, .int 0, .int (-1), .int 0, .ref m_five, .int 0, .int 0, .int 0, .int 0, .ref m_size0, .ref m_step, .ref m_stepA, .ref m_stepB, .ref m_stepC, .ref m_values, .ref m_heap, .ref m_isOne, .ref m_lawFrom, .ref m_lawTo, .ref m_hasLaw, .ref m_limits, .ref m_held, .ref m_hasKept, .ref m_kept, .ref m_keptAt, .int 0, .ref m_placeTrait, .ref m_placePerson, .ref m_placeMoment, .ref m_placeValue, .ref m_isFilled, .int 0, .ref m_uses, .ref m_heapsOne, .ref m_heapsOther]))]) [0] rfl
  have hDc := hD.sub (ws' := [(m0, .inr (9, [.int 0, .int 0, .int 0, .ref m_rowPerson, .ref m_rowStream, .ref m_rowMoment, .ref m_rowKnown, .ref m_rowValue, .ref m_isGone, .ref m_mergeTo, .ref m_mergeKnown, .int 0, .ref m_isErased, .ref m_tape, .int 0, .int 0, .int 0, .int 0, .int (-1), .int 0, .ref m_five, .int 0, .int 0, .int 0, .int 0, .ref m_size0, .ref m_step, .ref m_stepA, .ref m_stepB, .ref m_stepC, .ref m_values, .ref m_heap, .ref m_isOne, .ref m_lawFrom, .ref m_lawTo, .ref m_hasLaw, .ref m_limits, .ref m_held, .ref m_hasKept, .ref m_kept, .ref m_keptAt, .int 0, .ref m_placeTrait, .ref m_placePerson, .ref m_placeMoment, .ref m_placeValue, .ref m_isFilled, .int 0, .ref m_uses, .ref m_heapsOne, .ref m_heapsOther]))]) [0] (by decide) rfl
  have hKc := hK.sub (tys' := []) [] rfl
  have hFc := va_free (wc := [(m0, .inr (9, [.int 0, .int 0, .int 0, .ref m_rowPerson, .ref m_rowStream, .ref m_rowMoment, .ref m_rowKnown, .ref m_rowValue, .ref m_isGone, .ref m_mergeTo, .ref m_mergeKnown, .int 0, .ref m_isErased, .ref m_tape, .int 0, .int 0, .int 0, .int 0, .int (-1), .int 0, .ref m_five, .int 0, .int 0, .int 0, .int 0, .ref m_size0, .ref m_step, .ref m_stepA, .ref m_stepB, .ref m_stepC, .ref m_values, .ref m_heap, .ref m_isOne, .ref m_lawFrom, .ref m_lawTo, .ref m_hasLaw, .ref m_limits, .ref m_held, .ref m_hasKept, .ref m_kept, .ref m_keptAt, .int 0, .ref m_placeTrait, .ref m_placePerson, .ref m_placeMoment, .ref m_placeValue, .ref m_isFilled, .int 0, .ref m_uses, .ref m_heapsOne, .ref m_heapsOther]))]) hD hS hA [0] rfl
  refine va_calli (va_runV (As := []) (rest := [.int (-6)]) ⟨hx, hb, hml, hown, hts⟩ (c_X9_trait l dC dI H.size m0 m_rowPerson m_rowStream m_rowMoment m_rowKnown m_rowValue m_isGone m_mergeTo m_mergeKnown m_isErased m_tape m_five m_size0 m_step m_stepA m_stepB m_stepC m_values m_heap m_isOne m_lawFrom m_lawTo m_hasLaw m_limits m_held m_hasKept m_kept m_keptAt m_placeTrait m_placePerson m_placeMoment m_placeValue m_isFilled m_uses m_heapsOne m_heapsOther ) (cwV 0 hts gL_law_X9_trait rfl rfl rfl (by decide +kernel) ⟨Nat.le_of_ble_eq_true rfl, Nat.le_of_ble_eq_true rfl⟩) ⟨fun a U g mk q => by obtain ⟨q0, q1, qP, qK, qD, qN⟩ := q; exact ⟨q0, q1, qP, va_K.moved (u := U) (U := U.calling g mk a) (Vm.Alike.refl U.vm) qK, qD, qN.same rfl⟩, va_recv hKc hPc (ci := 9) (q0 := 0) rfl rfl, fun U hU hW => ⟨rfl, by rw [hU], by rw [hU]; exact hPc, va_K.moved hW.alike hKc, hDc.weaken (fun _ _ _ _ => trivial), hN.warm hW⟩⟩ rfl rfl hl.1 rfl (lv_room (Nat.le_of_ble_eq_true rfl)) dL_law_428 ⟨Nat.le_of_ble_eq_true rfl, Nat.le_of_ble_eq_true rfl⟩) hS (fun q _ h => hFc q h) hFc (fun r_4 u_5 t H1 locs ht hvm hw_6 hB hz1 hk1 hS => ?_)
  try dsimp only at hw_6
  have hP1 : va_P (dC, dI) vwCl [] H1 := fun k q h => by simp at h
  have hD1 : va_D (va_A [(m0, .inr (9, [.int 0, .int 0, .int 0, .ref m_rowPerson, .ref m_rowStream, .ref m_rowMoment, .ref m_rowKnown, .ref m_rowValue, .ref m_isGone, .ref m_mergeTo, .ref m_mergeKnown, .int 0, .ref m_isErased, .ref m_tape, .int 0, .int 0, .int 0, .int 0, .int (-1), .int 0, .ref m_five, .int 0, .int 0, .int 0, .int 0, .ref m_size0, .ref m_step, .ref m_stepA, .ref m_stepB, .ref m_stepC, .ref m_values, .ref m_heap, .ref m_isOne, .ref m_lawFrom, .ref m_lawTo, .ref m_hasLaw, .ref m_limits, .ref m_held, .ref m_hasKept, .ref m_kept, .ref m_keptAt, .int 0, .ref m_placeTrait, .ref m_placePerson, .ref m_placeMoment, .ref m_placeValue, .ref m_isFilled, .int 0, .ref m_uses, .ref m_heapsOne, .ref m_heapsOther]))] H.size) [] := ⟨fun i j p q h => by simp at h, fun k q h => by simp at h⟩
  have hK1 : va_K (dC, dI) vwCl [] s := hK.sub [] rfl
  obtain ⟨hP, hD⟩ := va_join (wr := []) (w1 := []) hP hD [0] [] rfl rfl (by decide) (by decide) hk1 hFc hP1 hD1
  have hK := (hK.sub (tys' := []) [] rfl).app hK1
  generalize H1 = H at hP hS ⊢
  have hP : va_P (dC, dI) vwCl [] H := hP
  have hD : va_D (fun q : Nat => s.heap.size ≤ q) [] := hD
  have hK : va_K (dC, dI) vwCl [] s := hK
  obtain rfl : (-6) = r_4 := hw_6.symm
  refine lv_icmp_eq (tgt := 1234) hx hb dL_law_431 (by decide) (fun c_7 => ?_) (fun c_7 => ?_)
  · exact law_tail hL C0 hS (lv_sub hl [0, 3] rfl)
  · exact absurd rfl c_7

set_option maxHeartbeats 4000000 in
set_option maxRecDepth 100000 in
theorem law_fault {p : Program} {l : Launch} {e : Env} {s : State} {m : MethodId} {below : List Frame} {meth : Method} {c : Code} {dC : Nat → ClassId} {dI : Nat → Nat → Nat} {b L : Nat} {xs : Nat → Int32} (hL : L = 11) (C0 : lw_At p s m meth c b L xs) (hN : nw_ok s) (h0 : Nat) (hRows : Nat) (hMer : Nat) (hEra : Nat) (hTape : Nat) (hRea : Nat) (hTra : Nat) (hWor : Nat) (hPla : Nat) (hMod : Nat) (hHe1 : Nat) (hHe2 : Nat) (m0 : Nat) (m_rowPerson : Nat) (m_rowStream : Nat) (m_rowMoment : Nat) (m_rowKnown : Nat) (m_rowValue : Nat) (m_isGone : Nat) (m_mergeTo : Nat) (m_mergeKnown : Nat) (m_isErased : Nat) (m_tape : Nat) (m_five : Nat) (m_size0 : Nat) (m_step : Nat) (m_stepA : Nat) (m_stepB : Nat) (m_stepC : Nat) (m_values : Nat) (m_heap : Nat) (m_isOne : Nat) (m_lawFrom : Nat) (m_lawTo : Nat) (m_hasLaw : Nat) (m_limits : Nat) (m_held : Nat) (m_hasKept : Nat) (m_kept : Nat) (m_keptAt : Nat) (m_placeTrait : Nat) (m_placePerson : Nat) (m_placeMoment : Nat) (m_placeValue : Nat) (m_isFilled : Nat) (m_uses : Nat) (m_heapsOne : Nat) (m_heapsOther : Nat)  (H : Heap) (locs : List Loc) (hK : va_K (dC, dI) vwCl [] s) (hP : va_P (dC, dI) vwCl [(h0, .inr (8, [.ref hRows, .ref hMer, .ref hEra, .ref hTape, .ref hRea, .ref hTra, .ref hWor, .ref hPla, .ref hMod, .ref hHe1, .ref hHe2, .int 0, .int 0, .int 0, .int 0, .int (-1), .int 0])), (m0, .inr (9, [.int 0, .int 0, .int 0, .ref m_rowPerson, .ref m_rowStream, .ref m_rowMoment, .ref m_rowKnown, .ref m_rowValue, .ref m_isGone, .ref m_mergeTo, .ref m_mergeKnown, .int 0, .ref m_isErased, .ref m_tape, .int 0, .int 0, .int 0, .int 0, .int (-1), .int 0, .ref m_five, .int 0, .int 0, .int 0, .int 0, .ref m_size0, .ref m_step, .ref m_stepA, .ref m_stepB, .ref m_stepC, .ref m_values, .ref m_heap, .ref m_isOne, .ref m_lawFrom, .ref m_lawTo, .ref m_hasLaw, .ref m_limits, .ref m_held, .ref m_hasKept, .ref m_kept, .ref m_keptAt, .int 0, .ref m_placeTrait, .ref m_placePerson, .ref m_placeMoment, .ref m_placeValue, .ref m_isFilled, .int 0, .ref m_uses, .ref m_heapsOne, .ref m_heapsOther]))] H) (hD : va_D (fun q : Nat => s.heap.size ≤ q) [(h0, .inr (8, [.ref hRows, .ref hMer, .ref hEra, .ref hTape, .ref hRea, .ref hTra, .ref hWor, .ref hPla, .ref hMod, .ref hHe1, .ref hHe2, .int 0, .int 0, .int 0, .int 0, .int (-1), .int 0])), (m0, .inr (9, [.int 0, .int 0, .int 0, .ref m_rowPerson, .ref m_rowStream, .ref m_rowMoment, .ref m_rowKnown, .ref m_rowValue, .ref m_isGone, .ref m_mergeTo, .ref m_mergeKnown, .int 0, .ref m_isErased, .ref m_tape, .int 0, .int 0, .int 0, .int 0, .int (-1), .int 0, .ref m_five, .int 0, .int 0, .int 0, .int 0, .ref m_size0, .ref m_step, .ref m_stepA, .ref m_stepB, .ref m_stepC, .ref m_values, .ref m_heap, .ref m_isOne, .ref m_lawFrom, .ref m_lawTo, .ref m_hasLaw, .ref m_limits, .ref m_held, .ref m_hasKept, .ref m_kept, .ref m_keptAt, .int 0, .ref m_placeTrait, .ref m_placePerson, .ref m_placeMoment, .ref m_placeValue, .ref m_isFilled, .int 0, .ref m_uses, .ref m_heapsOne, .ref m_heapsOther]))]) (hS : va_S (fun q : Nat => s.heap.size ≤ q) s.heap H locs) (ls : Array Slot) (hl : lv_has ls 4 [(3, .int 0), (2, .ref m0), (1, .ref h0), (0, .ref b)]) : W p l e room_1 s m #[Value.ref b] below meth c H locs 600000 7302250 (lw_Z below #[Value.ref b] s) (F0 m 436 ls []) := by
  obtain ⟨hx, hb, hr, hml, hown, hts, hX, hbl, hlocks, hgv⟩ := id C0
  have hts := fun w h => hts w (wsL_law_in w h)
  have hown : s.vm.findClass RL = some m.cls := hown
  have hA : ∀ q : Nat, s.heap.size ≤ q → (fun q : Nat => s.heap.size ≤ q) q := fun _ h => h
  have hbA : ¬ (fun q : Nat => s.heap.size ≤ q) b := Nat.not_le.mpr hbl
  refine lv_aload_n hx hb dL_law_436 rfl (lv_at hl 2 rfl) ?_
  have hPc := hP.sub (ws' := [(h0, .inr (8, [.ref hRows, .ref hMer, .ref hEra, .ref hTape, .ref hRea, .ref hTra, .ref hWor, .ref hPla, .ref hMod, .ref hHe1, .ref hHe2, .int 0, .int 0, .int 0, .int 0, .int (-1), .int 0]))]) [0] rfl
  have hDc := hD.sub (ws' := [(h0, .inr (8, [.ref hRows, .ref hMer, .ref hEra, .ref hTape, .ref hRea, .ref hTra, .ref hWor, .ref hPla, .ref hMod, .ref hHe1, .ref hHe2, .int 0, .int 0, .int 0, .int 0, .int (-1), .int 0]))]) [0] (by decide) rfl
  have hKc := hK.sub (tys' := []) [] rfl
  have hFc := va_free (wc := [(h0, .inr (8, [.ref hRows, .ref hMer, .ref hEra, .ref hTape, .ref hRea, .ref hTra, .ref hWor, .ref hPla, .ref hMod, .ref hHe1, .ref hHe2, .int 0, .int 0, .int 0, .int 0, .int (-1), .int 0]))]) hD hS hA [0] rfl
  refine va_calli (va_runV (As := []) (rest := []) ⟨hx, hb, hml, hown, hts⟩ (c_X8_fault l dC dI H.size h0 hRows hMer hEra hTape hRea hTra hWor hPla hMod hHe1 hHe2 ) (cwV 0 hts gL_law_X8_fault rfl rfl rfl (by decide +kernel) ⟨Nat.le_of_ble_eq_true rfl, Nat.le_of_ble_eq_true rfl⟩) ⟨fun a U g mk q => by obtain ⟨q0, q1, qP, qK, qD, qN⟩ := q; exact ⟨q0, q1, qP, va_K.moved (u := U) (U := U.calling g mk a) (Vm.Alike.refl U.vm) qK, qD, qN.same rfl⟩, va_recv hKc hPc (ci := 8) (q0 := 0) rfl rfl, fun U hU hW => ⟨rfl, by rw [hU], by rw [hU]; exact hPc, va_K.moved hW.alike hKc, hDc.weaken (fun _ _ _ _ => trivial), hN.warm hW⟩⟩ rfl rfl hl.1 rfl (lv_room (Nat.le_of_ble_eq_true rfl)) dL_law_437 ⟨Nat.le_of_ble_eq_true rfl, Nat.le_of_ble_eq_true rfl⟩) hS (fun q _ h => hFc q h) hFc (fun r_1 u_2 t H1 locs ht hvm hw_3 hB hz1 hk1 hS => ?_)
  try dsimp only at hw_3
  have hP1 : va_P (dC, dI) vwCl [] H1 := fun k q h => by simp at h
  have hD1 : va_D (va_A [(h0, .inr (8, [.ref hRows, .ref hMer, .ref hEra, .ref hTape, .ref hRea, .ref hTra, .ref hWor, .ref hPla, .ref hMod, .ref hHe1, .ref hHe2, .int 0, .int 0, .int 0, .int 0, .int (-1), .int 0]))] H.size) [] := ⟨fun i j p q h => by simp at h, fun k q h => by simp at h⟩
  have hK1 : va_K (dC, dI) vwCl [] s := hK.sub [] rfl
  obtain ⟨hP, hD⟩ := va_join (wr := [(m0, .inr (9, [.int 0, .int 0, .int 0, .ref m_rowPerson, .ref m_rowStream, .ref m_rowMoment, .ref m_rowKnown, .ref m_rowValue, .ref m_isGone, .ref m_mergeTo, .ref m_mergeKnown, .int 0, .ref m_isErased, .ref m_tape, .int 0, .int 0, .int 0, .int 0, .int (-1), .int 0, .ref m_five, .int 0, .int 0, .int 0, .int 0, .ref m_size0, .ref m_step, .ref m_stepA, .ref m_stepB, .ref m_stepC, .ref m_values, .ref m_heap, .ref m_isOne, .ref m_lawFrom, .ref m_lawTo, .ref m_hasLaw, .ref m_limits, .ref m_held, .ref m_hasKept, .ref m_kept, .ref m_keptAt, .int 0, .ref m_placeTrait, .ref m_placePerson, .ref m_placeMoment, .ref m_placeValue, .ref m_isFilled, .int 0, .ref m_uses, .ref m_heapsOne, .ref m_heapsOther]))]) (w1 := []) hP hD [0] [1] rfl rfl (by decide) (by decide) hk1 hFc hP1 hD1
  have hK := (hK.sub (tys' := []) [] rfl).app hK1
  generalize H1 = H at hP hS ⊢
  have hP : va_P (dC, dI) vwCl [(m0, .inr (9, [.int 0, .int 0, .int 0, .ref m_rowPerson, .ref m_rowStream, .ref m_rowMoment, .ref m_rowKnown, .ref m_rowValue, .ref m_isGone, .ref m_mergeTo, .ref m_mergeKnown, .int 0, .ref m_isErased, .ref m_tape, .int 0, .int 0, .int 0, .int 0, .int (-1), .int 0, .ref m_five, .int 0, .int 0, .int 0, .int 0, .ref m_size0, .ref m_step, .ref m_stepA, .ref m_stepB, .ref m_stepC, .ref m_values, .ref m_heap, .ref m_isOne, .ref m_lawFrom, .ref m_lawTo, .ref m_hasLaw, .ref m_limits, .ref m_held, .ref m_hasKept, .ref m_kept, .ref m_keptAt, .int 0, .ref m_placeTrait, .ref m_placePerson, .ref m_placeMoment, .ref m_placeValue, .ref m_isFilled, .int 0, .ref m_uses, .ref m_heapsOne, .ref m_heapsOther]))] H := hP
  have hD : va_D (fun q : Nat => s.heap.size ≤ q) [(m0, .inr (9, [.int 0, .int 0, .int 0, .ref m_rowPerson, .ref m_rowStream, .ref m_rowMoment, .ref m_rowKnown, .ref m_rowValue, .ref m_isGone, .ref m_mergeTo, .ref m_mergeKnown, .int 0, .ref m_isErased, .ref m_tape, .int 0, .int 0, .int 0, .int 0, .int (-1), .int 0, .ref m_five, .int 0, .int 0, .int 0, .int 0, .ref m_size0, .ref m_step, .ref m_stepA, .ref m_stepB, .ref m_stepC, .ref m_values, .ref m_heap, .ref m_isOne, .ref m_lawFrom, .ref m_lawTo, .ref m_hasLaw, .ref m_limits, .ref m_held, .ref m_hasKept, .ref m_kept, .ref m_keptAt, .int 0, .ref m_placeTrait, .ref m_placePerson, .ref m_placeMoment, .ref m_placeValue, .ref m_isFilled, .int 0, .ref m_uses, .ref m_heapsOne, .ref m_heapsOther]))] := hD
  have hK : va_K (dC, dI) vwCl [] s := hK
  obtain rfl : (-1) = r_1 := hw_3.symm
  refine lv_aload_n hx hb dL_law_440 rfl (lv_at hl 1 rfl) ?_
  have hPc := hP.sub (ws' := [(m0, .inr (9, [.int 0, .int 0, .int 0, .ref m_rowPerson, .ref m_rowStream, .ref m_rowMoment, .ref m_rowKnown, .ref m_rowValue, .ref m_isGone, .ref m_mergeTo, .ref m_mergeKnown, .int 0, .ref m_isErased, .ref m_tape, .int 0, .int 0, .int 0, .int 0, .int (-1), .int 0, .ref m_five, .int 0, .int 0, .int 0, .int 0, .ref m_size0, .ref m_step, .ref m_stepA, .ref m_stepB, .ref m_stepC, .ref m_values, .ref m_heap, .ref m_isOne, .ref m_lawFrom, .ref m_lawTo, .ref m_hasLaw, .ref m_limits, .ref m_held, .ref m_hasKept, .ref m_kept, .ref m_keptAt, .int 0, .ref m_placeTrait, .ref m_placePerson, .ref m_placeMoment, .ref m_placeValue, .ref m_isFilled, .int 0, .ref m_uses, .ref m_heapsOne, .ref m_heapsOther]))]) [0] rfl
  have hDc := hD.sub (ws' := [(m0, .inr (9, [.int 0, .int 0, .int 0, .ref m_rowPerson, .ref m_rowStream, .ref m_rowMoment, .ref m_rowKnown, .ref m_rowValue, .ref m_isGone, .ref m_mergeTo, .ref m_mergeKnown, .int 0, .ref m_isErased, .ref m_tape, .int 0, .int 0, .int 0, .int 0, .int (-1), .int 0, .ref m_five, .int 0, .int 0, .int 0, .int 0, .ref m_size0, .ref m_step, .ref m_stepA, .ref m_stepB, .ref m_stepC, .ref m_values, .ref m_heap, .ref m_isOne, .ref m_lawFrom, .ref m_lawTo, .ref m_hasLaw, .ref m_limits, .ref m_held, .ref m_hasKept, .ref m_kept, .ref m_keptAt, .int 0, .ref m_placeTrait, .ref m_placePerson, .ref m_placeMoment, .ref m_placeValue, .ref m_isFilled, .int 0, .ref m_uses, .ref m_heapsOne, .ref m_heapsOther]))]) [0] (by decide) rfl
  have hKc := hK.sub (tys' := []) [] rfl
  have hFc := va_free (wc := [(m0, .inr (9, [.int 0, .int 0, .int 0, .ref m_rowPerson, .ref m_rowStream, .ref m_rowMoment, .ref m_rowKnown, .ref m_rowValue, .ref m_isGone, .ref m_mergeTo, .ref m_mergeKnown, .int 0, .ref m_isErased, .ref m_tape, .int 0, .int 0, .int 0, .int 0, .int (-1), .int 0, .ref m_five, .int 0, .int 0, .int 0, .int 0, .ref m_size0, .ref m_step, .ref m_stepA, .ref m_stepB, .ref m_stepC, .ref m_values, .ref m_heap, .ref m_isOne, .ref m_lawFrom, .ref m_lawTo, .ref m_hasLaw, .ref m_limits, .ref m_held, .ref m_hasKept, .ref m_kept, .ref m_keptAt, .int 0, .ref m_placeTrait, .ref m_placePerson, .ref m_placeMoment, .ref m_placeValue, .ref m_isFilled, .int 0, .ref m_uses, .ref m_heapsOne, .ref m_heapsOther]))]) hD hS hA [0] rfl
  refine va_calli (va_runV (As := []) (rest := [.int (-1)]) ⟨hx, hb, hml, hown, hts⟩ (c_X9_fault l dC dI H.size m0 m_rowPerson m_rowStream m_rowMoment m_rowKnown m_rowValue m_isGone m_mergeTo m_mergeKnown m_isErased m_tape m_five m_size0 m_step m_stepA m_stepB m_stepC m_values m_heap m_isOne m_lawFrom m_lawTo m_hasLaw m_limits m_held m_hasKept m_kept m_keptAt m_placeTrait m_placePerson m_placeMoment m_placeValue m_isFilled m_uses m_heapsOne m_heapsOther ) (cwV 0 hts gL_law_X9_fault rfl rfl rfl (by decide +kernel) ⟨Nat.le_of_ble_eq_true rfl, Nat.le_of_ble_eq_true rfl⟩) ⟨fun a U g mk q => by obtain ⟨q0, q1, qP, qK, qD, qN⟩ := q; exact ⟨q0, q1, qP, va_K.moved (u := U) (U := U.calling g mk a) (Vm.Alike.refl U.vm) qK, qD, qN.same rfl⟩, va_recv hKc hPc (ci := 9) (q0 := 0) rfl rfl, fun U hU hW => ⟨rfl, by rw [hU], by rw [hU]; exact hPc, va_K.moved hW.alike hKc, hDc.weaken (fun _ _ _ _ => trivial), hN.warm hW⟩⟩ rfl rfl hl.1 rfl (lv_room (Nat.le_of_ble_eq_true rfl)) dL_law_441 ⟨Nat.le_of_ble_eq_true rfl, Nat.le_of_ble_eq_true rfl⟩) hS (fun q _ h => hFc q h) hFc (fun r_4 u_5 t H1 locs ht hvm hw_6 hB hz1 hk1 hS => ?_)
  try dsimp only at hw_6
  have hP1 : va_P (dC, dI) vwCl [] H1 := fun k q h => by simp at h
  have hD1 : va_D (va_A [(m0, .inr (9, [.int 0, .int 0, .int 0, .ref m_rowPerson, .ref m_rowStream, .ref m_rowMoment, .ref m_rowKnown, .ref m_rowValue, .ref m_isGone, .ref m_mergeTo, .ref m_mergeKnown, .int 0, .ref m_isErased, .ref m_tape, .int 0, .int 0, .int 0, .int 0, .int (-1), .int 0, .ref m_five, .int 0, .int 0, .int 0, .int 0, .ref m_size0, .ref m_step, .ref m_stepA, .ref m_stepB, .ref m_stepC, .ref m_values, .ref m_heap, .ref m_isOne, .ref m_lawFrom, .ref m_lawTo, .ref m_hasLaw, .ref m_limits, .ref m_held, .ref m_hasKept, .ref m_kept, .ref m_keptAt, .int 0, .ref m_placeTrait, .ref m_placePerson, .ref m_placeMoment, .ref m_placeValue, .ref m_isFilled, .int 0, .ref m_uses, .ref m_heapsOne, .ref m_heapsOther]))] H.size) [] := ⟨fun i j p q h => by simp at h, fun k q h => by simp at h⟩
  have hK1 : va_K (dC, dI) vwCl [] s := hK.sub [] rfl
  obtain ⟨hP, hD⟩ := va_join (wr := []) (w1 := []) hP hD [0] [] rfl rfl (by decide) (by decide) hk1 hFc hP1 hD1
  have hK := (hK.sub (tys' := []) [] rfl).app hK1
  generalize H1 = H at hP hS ⊢
  have hP : va_P (dC, dI) vwCl [] H := hP
  have hD : va_D (fun q : Nat => s.heap.size ≤ q) [] := hD
  have hK : va_K (dC, dI) vwCl [] s := hK
  obtain rfl : (-1) = r_4 := hw_6.symm
  refine lv_icmp_eq (tgt := 1234) hx hb dL_law_444 (by decide) (fun c_7 => ?_) (fun c_7 => ?_)
  · exact law_tail hL C0 hS (lv_sub hl [0, 3] rfl)
  · exact absurd rfl c_7
