theorem dch_0 : (decode cL_law 0 = .ok (.new 7, 3)) ∧ (decode cL_law 3 = .ok (.dup, 1)) ∧ (decode cL_law 4 = .ok (.invokespecial 9, 3)) ∧ (decode cL_law 7 = .ok (.astore_n 1, 1)) ∧ (decode cL_law 8 = .ok (.new 10, 3)) ∧ (decode cL_law 11 = .ok (.dup, 1)) ∧ (decode cL_law 12 = .ok (.invokespecial 12, 3)) ∧ (decode cL_law 15 = .ok (.astore_n 2, 1)) := by decide +kernel
theorem dL_law_0 : decode cL_law 0 = .ok (.new 7, 3) := by exact dch_0.1
theorem dL_law_3 : decode cL_law 3 = .ok (.dup, 1) := by exact dch_0.2.1
theorem dL_law_4 : decode cL_law 4 = .ok (.invokespecial 9, 3) := by exact dch_0.2.2.1
theorem dL_law_7 : decode cL_law 7 = .ok (.astore_n 1, 1) := by exact dch_0.2.2.2.1
theorem dL_law_8 : decode cL_law 8 = .ok (.new 10, 3) := by exact dch_0.2.2.2.2.1
theorem dL_law_11 : decode cL_law 11 = .ok (.dup, 1) := by exact dch_0.2.2.2.2.2.1
theorem dL_law_12 : decode cL_law 12 = .ok (.invokespecial 12, 3) := by exact dch_0.2.2.2.2.2.2.1
theorem dL_law_15 : decode cL_law 15 = .ok (.astore_n 2, 1) := by exact dch_0.2.2.2.2.2.2.2
theorem dch_8 : (decode cL_law 16 = .ok (.iconst 0, 1)) ∧ (decode cL_law 17 = .ok (.istore_n 3, 1)) ∧ (decode cL_law 18 = .ok (.iload_n 3, 1)) ∧ (decode cL_law 19 = .ok (.aload_n 0, 1)) ∧ (decode cL_law 20 = .ok (.arraylength, 1)) ∧ (decode cL_law 21 = .ok (.bipush 6, 2)) ∧ (decode cL_law 23 = .ok (.isub, 1)) ∧ (decode cL_law 24 = .ok (.if_icmp .gt 1339, 3)) := by decide +kernel
theorem dL_law_16 : decode cL_law 16 = .ok (.iconst 0, 1) := by exact dch_8.1
theorem dL_law_17 : decode cL_law 17 = .ok (.istore_n 3, 1) := by exact dch_8.2.1
theorem dL_law_18 : decode cL_law 18 = .ok (.iload_n 3, 1) := by exact dch_8.2.2.1
theorem dL_law_19 : decode cL_law 19 = .ok (.aload_n 0, 1) := by exact dch_8.2.2.2.1
theorem dL_law_20 : decode cL_law 20 = .ok (.arraylength, 1) := by exact dch_8.2.2.2.2.1
theorem dL_law_21 : decode cL_law 21 = .ok (.bipush 6, 2) := by exact dch_8.2.2.2.2.2.1
theorem dL_law_23 : decode cL_law 23 = .ok (.isub, 1) := by exact dch_8.2.2.2.2.2.2.1
theorem dL_law_24 : decode cL_law 24 = .ok (.if_icmp .gt 1339, 3) := by exact dch_8.2.2.2.2.2.2.2
theorem dch_16 : (decode cL_law 27 = .ok (.aload_n 0, 1)) ∧ (decode cL_law 28 = .ok (.iload_n 3, 1)) ∧ (decode cL_law 29 = .ok (.iaload, 1)) ∧ (decode cL_law 30 = .ok (.bipush 63, 2)) ∧ (decode cL_law 32 = .ok (.iand, 1)) ∧ (decode cL_law 33 = .ok (.tableswitch 1324 0 36 #[163, 206, 249, 292, 315, 348, 361, 384, 407, 450, 493, 516, 539, 572, 595, 628, 661, 684, 707, 740, 773, 806, 819, 842, 865, 898, 931, 944, 957, 1000, 1023, 1056, 1099, 1172, 1205, 1268, 1301], 163)) ∧ (decode cL_law 196 = .ok (.aload_n 1, 1)) ∧ (decode cL_law 197 = .ok (.aload_n 0, 1)) := by decide +kernel
theorem dL_law_27 : decode cL_law 27 = .ok (.aload_n 0, 1) := by exact dch_16.1
theorem dL_law_28 : decode cL_law 28 = .ok (.iload_n 3, 1) := by exact dch_16.2.1
theorem dL_law_29 : decode cL_law 29 = .ok (.iaload, 1) := by exact dch_16.2.2.1
theorem dL_law_30 : decode cL_law 30 = .ok (.bipush 63, 2) := by exact dch_16.2.2.2.1
theorem dL_law_32 : decode cL_law 32 = .ok (.iand, 1) := by exact dch_16.2.2.2.2.1
theorem dL_law_33 : decode cL_law 33 = .ok (.tableswitch 1324 0 36 #[163, 206, 249, 292, 315, 348, 361, 384, 407, 450, 493, 516, 539, 572, 595, 628, 661, 684, 707, 740, 773, 806, 819, 842, 865, 898, 931, 944, 957, 1000, 1023, 1056, 1099, 1172, 1205, 1268, 1301], 163) := by exact dch_16.2.2.2.2.2.1
theorem dL_law_196 : decode cL_law 196 = .ok (.aload_n 1, 1) := by exact dch_16.2.2.2.2.2.2.1
theorem dL_law_197 : decode cL_law 197 = .ok (.aload_n 0, 1) := by exact dch_16.2.2.2.2.2.2.2
theorem dch_24 : (decode cL_law 198 = .ok (.iload_n 3, 1)) ∧ (decode cL_law 199 = .ok (.iconst 1, 1)) ∧ (decode cL_law 200 = .ok (.iadd, 1)) ∧ (decode cL_law 201 = .ok (.iaload, 1)) ∧ (decode cL_law 202 = .ok (.aload_n 0, 1)) ∧ (decode cL_law 203 = .ok (.iload_n 3, 1)) ∧ (decode cL_law 204 = .ok (.iconst 2, 1)) ∧ (decode cL_law 205 = .ok (.iadd, 1)) := by decide +kernel
theorem dL_law_198 : decode cL_law 198 = .ok (.iload_n 3, 1) := by exact dch_24.1
theorem dL_law_199 : decode cL_law 199 = .ok (.iconst 1, 1) := by exact dch_24.2.1
theorem dL_law_200 : decode cL_law 200 = .ok (.iadd, 1) := by exact dch_24.2.2.1
theorem dL_law_201 : decode cL_law 201 = .ok (.iaload, 1) := by exact dch_24.2.2.2.1
theorem dL_law_202 : decode cL_law 202 = .ok (.aload_n 0, 1) := by exact dch_24.2.2.2.2.1
theorem dL_law_203 : decode cL_law 203 = .ok (.iload_n 3, 1) := by exact dch_24.2.2.2.2.2.1
theorem dL_law_204 : decode cL_law 204 = .ok (.iconst 2, 1) := by exact dch_24.2.2.2.2.2.2.1
theorem dL_law_205 : decode cL_law 205 = .ok (.iadd, 1) := by exact dch_24.2.2.2.2.2.2.2
theorem dch_32 : (decode cL_law 206 = .ok (.iaload, 1)) ∧ (decode cL_law 207 = .ok (.aload_n 0, 1)) ∧ (decode cL_law 208 = .ok (.iload_n 3, 1)) ∧ (decode cL_law 209 = .ok (.iconst 3, 1)) ∧ (decode cL_law 210 = .ok (.iadd, 1)) ∧ (decode cL_law 211 = .ok (.iaload, 1)) ∧ (decode cL_law 212 = .ok (.invokevirtual 13, 3)) ∧ (decode cL_law 215 = .ok (.pop, 1)) := by decide +kernel
theorem dL_law_206 : decode cL_law 206 = .ok (.iaload, 1) := by exact dch_32.1
theorem dL_law_207 : decode cL_law 207 = .ok (.aload_n 0, 1) := by exact dch_32.2.1
theorem dL_law_208 : decode cL_law 208 = .ok (.iload_n 3, 1) := by exact dch_32.2.2.1
theorem dL_law_209 : decode cL_law 209 = .ok (.iconst 3, 1) := by exact dch_32.2.2.2.1
theorem dL_law_210 : decode cL_law 210 = .ok (.iadd, 1) := by exact dch_32.2.2.2.2.1
theorem dL_law_211 : decode cL_law 211 = .ok (.iaload, 1) := by exact dch_32.2.2.2.2.2.1
theorem dL_law_212 : decode cL_law 212 = .ok (.invokevirtual 13, 3) := by exact dch_32.2.2.2.2.2.2.1
theorem dL_law_215 : decode cL_law 215 = .ok (.pop, 1) := by exact dch_32.2.2.2.2.2.2.2
theorem dch_40 : (decode cL_law 216 = .ok (.aload_n 2, 1)) ∧ (decode cL_law 217 = .ok (.aload_n 0, 1)) ∧ (decode cL_law 218 = .ok (.iload_n 3, 1)) ∧ (decode cL_law 219 = .ok (.iconst 1, 1)) ∧ (decode cL_law 220 = .ok (.iadd, 1)) ∧ (decode cL_law 221 = .ok (.iaload, 1)) ∧ (decode cL_law 222 = .ok (.aload_n 0, 1)) ∧ (decode cL_law 223 = .ok (.iload_n 3, 1)) := by decide +kernel
theorem dL_law_216 : decode cL_law 216 = .ok (.aload_n 2, 1) := by exact dch_40.1
theorem dL_law_217 : decode cL_law 217 = .ok (.aload_n 0, 1) := by exact dch_40.2.1
theorem dL_law_218 : decode cL_law 218 = .ok (.iload_n 3, 1) := by exact dch_40.2.2.1
theorem dL_law_219 : decode cL_law 219 = .ok (.iconst 1, 1) := by exact dch_40.2.2.2.1
theorem dL_law_220 : decode cL_law 220 = .ok (.iadd, 1) := by exact dch_40.2.2.2.2.1
theorem dL_law_221 : decode cL_law 221 = .ok (.iaload, 1) := by exact dch_40.2.2.2.2.2.1
theorem dL_law_222 : decode cL_law 222 = .ok (.aload_n 0, 1) := by exact dch_40.2.2.2.2.2.2.1
theorem dL_law_223 : decode cL_law 223 = .ok (.iload_n 3, 1) := by exact dch_40.2.2.2.2.2.2.2
theorem dch_48 : (decode cL_law 224 = .ok (.iconst 2, 1)) ∧ (decode cL_law 225 = .ok (.iadd, 1)) ∧ (decode cL_law 226 = .ok (.iaload, 1)) ∧ (decode cL_law 227 = .ok (.aload_n 0, 1)) ∧ (decode cL_law 228 = .ok (.iload_n 3, 1)) ∧ (decode cL_law 229 = .ok (.iconst 3, 1)) ∧ (decode cL_law 230 = .ok (.iadd, 1)) ∧ (decode cL_law 231 = .ok (.iaload, 1)) := by decide +kernel
theorem dL_law_224 : decode cL_law 224 = .ok (.iconst 2, 1) := by exact dch_48.1
theorem dL_law_225 : decode cL_law 225 = .ok (.iadd, 1) := by exact dch_48.2.1
theorem dL_law_226 : decode cL_law 226 = .ok (.iaload, 1) := by exact dch_48.2.2.1
theorem dL_law_227 : decode cL_law 227 = .ok (.aload_n 0, 1) := by exact dch_48.2.2.2.1
theorem dL_law_228 : decode cL_law 228 = .ok (.iload_n 3, 1) := by exact dch_48.2.2.2.2.1
theorem dL_law_229 : decode cL_law 229 = .ok (.iconst 3, 1) := by exact dch_48.2.2.2.2.2.1
theorem dL_law_230 : decode cL_law 230 = .ok (.iadd, 1) := by exact dch_48.2.2.2.2.2.2.1
theorem dL_law_231 : decode cL_law 231 = .ok (.iaload, 1) := by exact dch_48.2.2.2.2.2.2.2
theorem dch_56 : (decode cL_law 232 = .ok (.invokevirtual 17, 3)) ∧ (decode cL_law 235 = .ok (.pop, 1)) ∧ (decode cL_law 236 = .ok (.goto 1121, 3)) ∧ (decode cL_law 239 = .ok (.aload_n 1, 1)) ∧ (decode cL_law 240 = .ok (.aload_n 0, 1)) ∧ (decode cL_law 241 = .ok (.iload_n 3, 1)) ∧ (decode cL_law 242 = .ok (.iconst 1, 1)) ∧ (decode cL_law 243 = .ok (.iadd, 1)) := by decide +kernel
theorem dL_law_232 : decode cL_law 232 = .ok (.invokevirtual 17, 3) := by exact dch_56.1
theorem dL_law_235 : decode cL_law 235 = .ok (.pop, 1) := by exact dch_56.2.1
theorem dL_law_236 : decode cL_law 236 = .ok (.goto 1121, 3) := by exact dch_56.2.2.1
theorem dL_law_239 : decode cL_law 239 = .ok (.aload_n 1, 1) := by exact dch_56.2.2.2.1
theorem dL_law_240 : decode cL_law 240 = .ok (.aload_n 0, 1) := by exact dch_56.2.2.2.2.1
theorem dL_law_241 : decode cL_law 241 = .ok (.iload_n 3, 1) := by exact dch_56.2.2.2.2.2.1
theorem dL_law_242 : decode cL_law 242 = .ok (.iconst 1, 1) := by exact dch_56.2.2.2.2.2.2.1
theorem dL_law_243 : decode cL_law 243 = .ok (.iadd, 1) := by exact dch_56.2.2.2.2.2.2.2
theorem dch_64 : (decode cL_law 244 = .ok (.iaload, 1)) ∧ (decode cL_law 245 = .ok (.aload_n 0, 1)) ∧ (decode cL_law 246 = .ok (.iload_n 3, 1)) ∧ (decode cL_law 247 = .ok (.iconst 2, 1)) ∧ (decode cL_law 248 = .ok (.iadd, 1)) ∧ (decode cL_law 249 = .ok (.iaload, 1)) ∧ (decode cL_law 250 = .ok (.aload_n 0, 1)) ∧ (decode cL_law 251 = .ok (.iload_n 3, 1)) := by decide +kernel
theorem dL_law_244 : decode cL_law 244 = .ok (.iaload, 1) := by exact dch_64.1
theorem dL_law_245 : decode cL_law 245 = .ok (.aload_n 0, 1) := by exact dch_64.2.1
theorem dL_law_246 : decode cL_law 246 = .ok (.iload_n 3, 1) := by exact dch_64.2.2.1
theorem dL_law_247 : decode cL_law 247 = .ok (.iconst 2, 1) := by exact dch_64.2.2.2.1
theorem dL_law_248 : decode cL_law 248 = .ok (.iadd, 1) := by exact dch_64.2.2.2.2.1
theorem dL_law_249 : decode cL_law 249 = .ok (.iaload, 1) := by exact dch_64.2.2.2.2.2.1
theorem dL_law_250 : decode cL_law 250 = .ok (.aload_n 0, 1) := by exact dch_64.2.2.2.2.2.2.1
theorem dL_law_251 : decode cL_law 251 = .ok (.iload_n 3, 1) := by exact dch_64.2.2.2.2.2.2.2
theorem dch_72 : (decode cL_law 252 = .ok (.iconst 3, 1)) ∧ (decode cL_law 253 = .ok (.iadd, 1)) ∧ (decode cL_law 254 = .ok (.iaload, 1)) ∧ (decode cL_law 255 = .ok (.invokevirtual 18, 3)) ∧ (decode cL_law 258 = .ok (.pop, 1)) ∧ (decode cL_law 259 = .ok (.aload_n 2, 1)) ∧ (decode cL_law 260 = .ok (.aload_n 0, 1)) ∧ (decode cL_law 261 = .ok (.iload_n 3, 1)) := by decide +kernel
theorem dL_law_252 : decode cL_law 252 = .ok (.iconst 3, 1) := by exact dch_72.1
theorem dL_law_253 : decode cL_law 253 = .ok (.iadd, 1) := by exact dch_72.2.1
theorem dL_law_254 : decode cL_law 254 = .ok (.iaload, 1) := by exact dch_72.2.2.1
theorem dL_law_255 : decode cL_law 255 = .ok (.invokevirtual 18, 3) := by exact dch_72.2.2.2.1
theorem dL_law_258 : decode cL_law 258 = .ok (.pop, 1) := by exact dch_72.2.2.2.2.1
theorem dL_law_259 : decode cL_law 259 = .ok (.aload_n 2, 1) := by exact dch_72.2.2.2.2.2.1
theorem dL_law_260 : decode cL_law 260 = .ok (.aload_n 0, 1) := by exact dch_72.2.2.2.2.2.2.1
theorem dL_law_261 : decode cL_law 261 = .ok (.iload_n 3, 1) := by exact dch_72.2.2.2.2.2.2.2
theorem dch_80 : (decode cL_law 262 = .ok (.iconst 1, 1)) ∧ (decode cL_law 263 = .ok (.iadd, 1)) ∧ (decode cL_law 264 = .ok (.iaload, 1)) ∧ (decode cL_law 265 = .ok (.aload_n 0, 1)) ∧ (decode cL_law 266 = .ok (.iload_n 3, 1)) ∧ (decode cL_law 267 = .ok (.iconst 2, 1)) ∧ (decode cL_law 268 = .ok (.iadd, 1)) ∧ (decode cL_law 269 = .ok (.iaload, 1)) := by decide +kernel
theorem dL_law_262 : decode cL_law 262 = .ok (.iconst 1, 1) := by exact dch_80.1
theorem dL_law_263 : decode cL_law 263 = .ok (.iadd, 1) := by exact dch_80.2.1
theorem dL_law_264 : decode cL_law 264 = .ok (.iaload, 1) := by exact dch_80.2.2.1
theorem dL_law_265 : decode cL_law 265 = .ok (.aload_n 0, 1) := by exact dch_80.2.2.2.1
theorem dL_law_266 : decode cL_law 266 = .ok (.iload_n 3, 1) := by exact dch_80.2.2.2.2.1
theorem dL_law_267 : decode cL_law 267 = .ok (.iconst 2, 1) := by exact dch_80.2.2.2.2.2.1
theorem dL_law_268 : decode cL_law 268 = .ok (.iadd, 1) := by exact dch_80.2.2.2.2.2.2.1
theorem dL_law_269 : decode cL_law 269 = .ok (.iaload, 1) := by exact dch_80.2.2.2.2.2.2.2
theorem dch_88 : (decode cL_law 270 = .ok (.aload_n 0, 1)) ∧ (decode cL_law 271 = .ok (.iload_n 3, 1)) ∧ (decode cL_law 272 = .ok (.iconst 3, 1)) ∧ (decode cL_law 273 = .ok (.iadd, 1)) ∧ (decode cL_law 274 = .ok (.iaload, 1)) ∧ (decode cL_law 275 = .ok (.invokevirtual 21, 3)) ∧ (decode cL_law 278 = .ok (.pop, 1)) ∧ (decode cL_law 279 = .ok (.goto 1078, 3)) := by decide +kernel
theorem dL_law_270 : decode cL_law 270 = .ok (.aload_n 0, 1) := by exact dch_88.1
theorem dL_law_271 : decode cL_law 271 = .ok (.iload_n 3, 1) := by exact dch_88.2.1
theorem dL_law_272 : decode cL_law 272 = .ok (.iconst 3, 1) := by exact dch_88.2.2.1
theorem dL_law_273 : decode cL_law 273 = .ok (.iadd, 1) := by exact dch_88.2.2.2.1
theorem dL_law_274 : decode cL_law 274 = .ok (.iaload, 1) := by exact dch_88.2.2.2.2.1
theorem dL_law_275 : decode cL_law 275 = .ok (.invokevirtual 21, 3) := by exact dch_88.2.2.2.2.2.1
theorem dL_law_278 : decode cL_law 278 = .ok (.pop, 1) := by exact dch_88.2.2.2.2.2.2.1
theorem dL_law_279 : decode cL_law 279 = .ok (.goto 1078, 3) := by exact dch_88.2.2.2.2.2.2.2
theorem dch_96 : (decode cL_law 282 = .ok (.aload_n 1, 1)) ∧ (decode cL_law 283 = .ok (.aload_n 0, 1)) ∧ (decode cL_law 284 = .ok (.iload_n 3, 1)) ∧ (decode cL_law 285 = .ok (.iconst 1, 1)) ∧ (decode cL_law 286 = .ok (.iadd, 1)) ∧ (decode cL_law 287 = .ok (.iaload, 1)) ∧ (decode cL_law 288 = .ok (.aload_n 0, 1)) ∧ (decode cL_law 289 = .ok (.iload_n 3, 1)) := by decide +kernel
theorem dL_law_282 : decode cL_law 282 = .ok (.aload_n 1, 1) := by exact dch_96.1
theorem dL_law_283 : decode cL_law 283 = .ok (.aload_n 0, 1) := by exact dch_96.2.1
theorem dL_law_284 : decode cL_law 284 = .ok (.iload_n 3, 1) := by exact dch_96.2.2.1
theorem dL_law_285 : decode cL_law 285 = .ok (.iconst 1, 1) := by exact dch_96.2.2.2.1
theorem dL_law_286 : decode cL_law 286 = .ok (.iadd, 1) := by exact dch_96.2.2.2.2.1
theorem dL_law_287 : decode cL_law 287 = .ok (.iaload, 1) := by exact dch_96.2.2.2.2.2.1
theorem dL_law_288 : decode cL_law 288 = .ok (.aload_n 0, 1) := by exact dch_96.2.2.2.2.2.2.1
theorem dL_law_289 : decode cL_law 289 = .ok (.iload_n 3, 1) := by exact dch_96.2.2.2.2.2.2.2
theorem dch_104 : (decode cL_law 290 = .ok (.iconst 2, 1)) ∧ (decode cL_law 291 = .ok (.iadd, 1)) ∧ (decode cL_law 292 = .ok (.iaload, 1)) ∧ (decode cL_law 293 = .ok (.aload_n 0, 1)) ∧ (decode cL_law 294 = .ok (.iload_n 3, 1)) ∧ (decode cL_law 295 = .ok (.iconst 3, 1)) ∧ (decode cL_law 296 = .ok (.iadd, 1)) ∧ (decode cL_law 297 = .ok (.iaload, 1)) := by decide +kernel
theorem dL_law_290 : decode cL_law 290 = .ok (.iconst 2, 1) := by exact dch_104.1
theorem dL_law_291 : decode cL_law 291 = .ok (.iadd, 1) := by exact dch_104.2.1
theorem dL_law_292 : decode cL_law 292 = .ok (.iaload, 1) := by exact dch_104.2.2.1
theorem dL_law_293 : decode cL_law 293 = .ok (.aload_n 0, 1) := by exact dch_104.2.2.2.1
theorem dL_law_294 : decode cL_law 294 = .ok (.iload_n 3, 1) := by exact dch_104.2.2.2.2.1
theorem dL_law_295 : decode cL_law 295 = .ok (.iconst 3, 1) := by exact dch_104.2.2.2.2.2.1
theorem dL_law_296 : decode cL_law 296 = .ok (.iadd, 1) := by exact dch_104.2.2.2.2.2.2.1
theorem dL_law_297 : decode cL_law 297 = .ok (.iaload, 1) := by exact dch_104.2.2.2.2.2.2.2
theorem dch_112 : (decode cL_law 298 = .ok (.invokevirtual 22, 3)) ∧ (decode cL_law 301 = .ok (.pop, 1)) ∧ (decode cL_law 302 = .ok (.aload_n 2, 1)) ∧ (decode cL_law 303 = .ok (.aload_n 0, 1)) ∧ (decode cL_law 304 = .ok (.iload_n 3, 1)) ∧ (decode cL_law 305 = .ok (.iconst 1, 1)) ∧ (decode cL_law 306 = .ok (.iadd, 1)) ∧ (decode cL_law 307 = .ok (.iaload, 1)) := by decide +kernel
theorem dL_law_298 : decode cL_law 298 = .ok (.invokevirtual 22, 3) := by exact dch_112.1
theorem dL_law_301 : decode cL_law 301 = .ok (.pop, 1) := by exact dch_112.2.1
theorem dL_law_302 : decode cL_law 302 = .ok (.aload_n 2, 1) := by exact dch_112.2.2.1
theorem dL_law_303 : decode cL_law 303 = .ok (.aload_n 0, 1) := by exact dch_112.2.2.2.1
theorem dL_law_304 : decode cL_law 304 = .ok (.iload_n 3, 1) := by exact dch_112.2.2.2.2.1
theorem dL_law_305 : decode cL_law 305 = .ok (.iconst 1, 1) := by exact dch_112.2.2.2.2.2.1
theorem dL_law_306 : decode cL_law 306 = .ok (.iadd, 1) := by exact dch_112.2.2.2.2.2.2.1
theorem dL_law_307 : decode cL_law 307 = .ok (.iaload, 1) := by exact dch_112.2.2.2.2.2.2.2
theorem dch_120 : (decode cL_law 308 = .ok (.aload_n 0, 1)) ∧ (decode cL_law 309 = .ok (.iload_n 3, 1)) ∧ (decode cL_law 310 = .ok (.iconst 2, 1)) ∧ (decode cL_law 311 = .ok (.iadd, 1)) ∧ (decode cL_law 312 = .ok (.iaload, 1)) ∧ (decode cL_law 313 = .ok (.aload_n 0, 1)) ∧ (decode cL_law 314 = .ok (.iload_n 3, 1)) ∧ (decode cL_law 315 = .ok (.iconst 3, 1)) := by decide +kernel
theorem dL_law_308 : decode cL_law 308 = .ok (.aload_n 0, 1) := by exact dch_120.1
theorem dL_law_309 : decode cL_law 309 = .ok (.iload_n 3, 1) := by exact dch_120.2.1
theorem dL_law_310 : decode cL_law 310 = .ok (.iconst 2, 1) := by exact dch_120.2.2.1
theorem dL_law_311 : decode cL_law 311 = .ok (.iadd, 1) := by exact dch_120.2.2.2.1
theorem dL_law_312 : decode cL_law 312 = .ok (.iaload, 1) := by exact dch_120.2.2.2.2.1
theorem dL_law_313 : decode cL_law 313 = .ok (.aload_n 0, 1) := by exact dch_120.2.2.2.2.2.1
theorem dL_law_314 : decode cL_law 314 = .ok (.iload_n 3, 1) := by exact dch_120.2.2.2.2.2.2.1
theorem dL_law_315 : decode cL_law 315 = .ok (.iconst 3, 1) := by exact dch_120.2.2.2.2.2.2.2
theorem dch_128 : (decode cL_law 316 = .ok (.iadd, 1)) ∧ (decode cL_law 317 = .ok (.iaload, 1)) ∧ (decode cL_law 318 = .ok (.invokevirtual 25, 3)) ∧ (decode cL_law 321 = .ok (.pop, 1)) ∧ (decode cL_law 322 = .ok (.goto 1035, 3)) ∧ (decode cL_law 325 = .ok (.aload_n 1, 1)) ∧ (decode cL_law 326 = .ok (.aload_n 0, 1)) ∧ (decode cL_law 327 = .ok (.iload_n 3, 1)) := by decide +kernel
theorem dL_law_316 : decode cL_law 316 = .ok (.iadd, 1) := by exact dch_128.1
theorem dL_law_317 : decode cL_law 317 = .ok (.iaload, 1) := by exact dch_128.2.1
theorem dL_law_318 : decode cL_law 318 = .ok (.invokevirtual 25, 3) := by exact dch_128.2.2.1
theorem dL_law_321 : decode cL_law 321 = .ok (.pop, 1) := by exact dch_128.2.2.2.1
theorem dL_law_322 : decode cL_law 322 = .ok (.goto 1035, 3) := by exact dch_128.2.2.2.2.1
theorem dL_law_325 : decode cL_law 325 = .ok (.aload_n 1, 1) := by exact dch_128.2.2.2.2.2.1
theorem dL_law_326 : decode cL_law 326 = .ok (.aload_n 0, 1) := by exact dch_128.2.2.2.2.2.2.1
theorem dL_law_327 : decode cL_law 327 = .ok (.iload_n 3, 1) := by exact dch_128.2.2.2.2.2.2.2
theorem dch_136 : (decode cL_law 328 = .ok (.iconst 1, 1)) ∧ (decode cL_law 329 = .ok (.iadd, 1)) ∧ (decode cL_law 330 = .ok (.iaload, 1)) ∧ (decode cL_law 331 = .ok (.invokevirtual 26, 3)) ∧ (decode cL_law 334 = .ok (.pop, 1)) ∧ (decode cL_law 335 = .ok (.aload_n 2, 1)) ∧ (decode cL_law 336 = .ok (.aload_n 0, 1)) ∧ (decode cL_law 337 = .ok (.iload_n 3, 1)) := by decide +kernel
theorem dL_law_328 : decode cL_law 328 = .ok (.iconst 1, 1) := by exact dch_136.1
theorem dL_law_329 : decode cL_law 329 = .ok (.iadd, 1) := by exact dch_136.2.1
theorem dL_law_330 : decode cL_law 330 = .ok (.iaload, 1) := by exact dch_136.2.2.1
theorem dL_law_331 : decode cL_law 331 = .ok (.invokevirtual 26, 3) := by exact dch_136.2.2.2.1
theorem dL_law_334 : decode cL_law 334 = .ok (.pop, 1) := by exact dch_136.2.2.2.2.1
theorem dL_law_335 : decode cL_law 335 = .ok (.aload_n 2, 1) := by exact dch_136.2.2.2.2.2.1
theorem dL_law_336 : decode cL_law 336 = .ok (.aload_n 0, 1) := by exact dch_136.2.2.2.2.2.2.1
theorem dL_law_337 : decode cL_law 337 = .ok (.iload_n 3, 1) := by exact dch_136.2.2.2.2.2.2.2
theorem dch_144 : (decode cL_law 338 = .ok (.iconst 1, 1)) ∧ (decode cL_law 339 = .ok (.iadd, 1)) ∧ (decode cL_law 340 = .ok (.iaload, 1)) ∧ (decode cL_law 341 = .ok (.invokevirtual 30, 3)) ∧ (decode cL_law 344 = .ok (.pop, 1)) ∧ (decode cL_law 345 = .ok (.goto 1012, 3)) ∧ (decode cL_law 348 = .ok (.aload_n 1, 1)) ∧ (decode cL_law 349 = .ok (.aload_n 0, 1)) := by decide +kernel
theorem dL_law_338 : decode cL_law 338 = .ok (.iconst 1, 1) := by exact dch_144.1
theorem dL_law_339 : decode cL_law 339 = .ok (.iadd, 1) := by exact dch_144.2.1
theorem dL_law_340 : decode cL_law 340 = .ok (.iaload, 1) := by exact dch_144.2.2.1
theorem dL_law_341 : decode cL_law 341 = .ok (.invokevirtual 30, 3) := by exact dch_144.2.2.2.1
theorem dL_law_344 : decode cL_law 344 = .ok (.pop, 1) := by exact dch_144.2.2.2.2.1
theorem dL_law_345 : decode cL_law 345 = .ok (.goto 1012, 3) := by exact dch_144.2.2.2.2.2.1
theorem dL_law_348 : decode cL_law 348 = .ok (.aload_n 1, 1) := by exact dch_144.2.2.2.2.2.2.1
theorem dL_law_349 : decode cL_law 349 = .ok (.aload_n 0, 1) := by exact dch_144.2.2.2.2.2.2.2
theorem dch_152 : (decode cL_law 350 = .ok (.iload_n 3, 1)) ∧ (decode cL_law 351 = .ok (.iconst 1, 1)) ∧ (decode cL_law 352 = .ok (.iadd, 1)) ∧ (decode cL_law 353 = .ok (.iaload, 1)) ∧ (decode cL_law 354 = .ok (.aload_n 0, 1)) ∧ (decode cL_law 355 = .ok (.iload_n 3, 1)) ∧ (decode cL_law 356 = .ok (.iconst 2, 1)) ∧ (decode cL_law 357 = .ok (.iadd, 1)) := by decide +kernel
theorem dL_law_350 : decode cL_law 350 = .ok (.iload_n 3, 1) := by exact dch_152.1
theorem dL_law_351 : decode cL_law 351 = .ok (.iconst 1, 1) := by exact dch_152.2.1
theorem dL_law_352 : decode cL_law 352 = .ok (.iadd, 1) := by exact dch_152.2.2.1
theorem dL_law_353 : decode cL_law 353 = .ok (.iaload, 1) := by exact dch_152.2.2.2.1
theorem dL_law_354 : decode cL_law 354 = .ok (.aload_n 0, 1) := by exact dch_152.2.2.2.2.1
theorem dL_law_355 : decode cL_law 355 = .ok (.iload_n 3, 1) := by exact dch_152.2.2.2.2.2.1
theorem dL_law_356 : decode cL_law 356 = .ok (.iconst 2, 1) := by exact dch_152.2.2.2.2.2.2.1
theorem dL_law_357 : decode cL_law 357 = .ok (.iadd, 1) := by exact dch_152.2.2.2.2.2.2.2
theorem dch_160 : (decode cL_law 358 = .ok (.iaload, 1)) ∧ (decode cL_law 359 = .ok (.invokevirtual 31, 3)) ∧ (decode cL_law 362 = .ok (.pop, 1)) ∧ (decode cL_law 363 = .ok (.aload_n 2, 1)) ∧ (decode cL_law 364 = .ok (.aload_n 0, 1)) ∧ (decode cL_law 365 = .ok (.iload_n 3, 1)) ∧ (decode cL_law 366 = .ok (.iconst 1, 1)) ∧ (decode cL_law 367 = .ok (.iadd, 1)) := by decide +kernel
theorem dL_law_358 : decode cL_law 358 = .ok (.iaload, 1) := by exact dch_160.1
theorem dL_law_359 : decode cL_law 359 = .ok (.invokevirtual 31, 3) := by exact dch_160.2.1
theorem dL_law_362 : decode cL_law 362 = .ok (.pop, 1) := by exact dch_160.2.2.1
theorem dL_law_363 : decode cL_law 363 = .ok (.aload_n 2, 1) := by exact dch_160.2.2.2.1
theorem dL_law_364 : decode cL_law 364 = .ok (.aload_n 0, 1) := by exact dch_160.2.2.2.2.1
theorem dL_law_365 : decode cL_law 365 = .ok (.iload_n 3, 1) := by exact dch_160.2.2.2.2.2.1
theorem dL_law_366 : decode cL_law 366 = .ok (.iconst 1, 1) := by exact dch_160.2.2.2.2.2.2.1
theorem dL_law_367 : decode cL_law 367 = .ok (.iadd, 1) := by exact dch_160.2.2.2.2.2.2.2
theorem dch_168 : (decode cL_law 368 = .ok (.iaload, 1)) ∧ (decode cL_law 369 = .ok (.aload_n 0, 1)) ∧ (decode cL_law 370 = .ok (.iload_n 3, 1)) ∧ (decode cL_law 371 = .ok (.iconst 2, 1)) ∧ (decode cL_law 372 = .ok (.iadd, 1)) ∧ (decode cL_law 373 = .ok (.iaload, 1)) ∧ (decode cL_law 374 = .ok (.invokevirtual 35, 3)) ∧ (decode cL_law 377 = .ok (.pop, 1)) := by decide +kernel
theorem dL_law_368 : decode cL_law 368 = .ok (.iaload, 1) := by exact dch_168.1
theorem dL_law_369 : decode cL_law 369 = .ok (.aload_n 0, 1) := by exact dch_168.2.1
theorem dL_law_370 : decode cL_law 370 = .ok (.iload_n 3, 1) := by exact dch_168.2.2.1
theorem dL_law_371 : decode cL_law 371 = .ok (.iconst 2, 1) := by exact dch_168.2.2.2.1
theorem dL_law_372 : decode cL_law 372 = .ok (.iadd, 1) := by exact dch_168.2.2.2.2.1
theorem dL_law_373 : decode cL_law 373 = .ok (.iaload, 1) := by exact dch_168.2.2.2.2.2.1
theorem dL_law_374 : decode cL_law 374 = .ok (.invokevirtual 35, 3) := by exact dch_168.2.2.2.2.2.2.1
theorem dL_law_377 : decode cL_law 377 = .ok (.pop, 1) := by exact dch_168.2.2.2.2.2.2.2
theorem dch_176 : (decode cL_law 378 = .ok (.goto 979, 3)) ∧ (decode cL_law 381 = .ok (.aload_n 1, 1)) ∧ (decode cL_law 382 = .ok (.invokevirtual 36, 3)) ∧ (decode cL_law 385 = .ok (.pop, 1)) ∧ (decode cL_law 386 = .ok (.aload_n 2, 1)) ∧ (decode cL_law 387 = .ok (.invokevirtual 40, 3)) ∧ (decode cL_law 390 = .ok (.pop, 1)) ∧ (decode cL_law 391 = .ok (.goto 966, 3)) := by decide +kernel
theorem dL_law_378 : decode cL_law 378 = .ok (.goto 979, 3) := by exact dch_176.1
theorem dL_law_381 : decode cL_law 381 = .ok (.aload_n 1, 1) := by exact dch_176.2.1
theorem dL_law_382 : decode cL_law 382 = .ok (.invokevirtual 36, 3) := by exact dch_176.2.2.1
theorem dL_law_385 : decode cL_law 385 = .ok (.pop, 1) := by exact dch_176.2.2.2.1
theorem dL_law_386 : decode cL_law 386 = .ok (.aload_n 2, 1) := by exact dch_176.2.2.2.2.1
theorem dL_law_387 : decode cL_law 387 = .ok (.invokevirtual 40, 3) := by exact dch_176.2.2.2.2.2.1
theorem dL_law_390 : decode cL_law 390 = .ok (.pop, 1) := by exact dch_176.2.2.2.2.2.2.1
theorem dL_law_391 : decode cL_law 391 = .ok (.goto 966, 3) := by exact dch_176.2.2.2.2.2.2.2
theorem dch_184 : (decode cL_law 394 = .ok (.aload_n 1, 1)) ∧ (decode cL_law 395 = .ok (.aload_n 0, 1)) ∧ (decode cL_law 396 = .ok (.iload_n 3, 1)) ∧ (decode cL_law 397 = .ok (.iconst 1, 1)) ∧ (decode cL_law 398 = .ok (.iadd, 1)) ∧ (decode cL_law 399 = .ok (.iaload, 1)) ∧ (decode cL_law 400 = .ok (.invokevirtual 41, 3)) ∧ (decode cL_law 403 = .ok (.pop, 1)) := by decide +kernel
theorem dL_law_394 : decode cL_law 394 = .ok (.aload_n 1, 1) := by exact dch_184.1
theorem dL_law_395 : decode cL_law 395 = .ok (.aload_n 0, 1) := by exact dch_184.2.1
theorem dL_law_396 : decode cL_law 396 = .ok (.iload_n 3, 1) := by exact dch_184.2.2.1
theorem dL_law_397 : decode cL_law 397 = .ok (.iconst 1, 1) := by exact dch_184.2.2.2.1
theorem dL_law_398 : decode cL_law 398 = .ok (.iadd, 1) := by exact dch_184.2.2.2.2.1
theorem dL_law_399 : decode cL_law 399 = .ok (.iaload, 1) := by exact dch_184.2.2.2.2.2.1
theorem dL_law_400 : decode cL_law 400 = .ok (.invokevirtual 41, 3) := by exact dch_184.2.2.2.2.2.2.1
theorem dL_law_403 : decode cL_law 403 = .ok (.pop, 1) := by exact dch_184.2.2.2.2.2.2.2
theorem dch_192 : (decode cL_law 404 = .ok (.aload_n 2, 1)) ∧ (decode cL_law 405 = .ok (.aload_n 0, 1)) ∧ (decode cL_law 406 = .ok (.iload_n 3, 1)) ∧ (decode cL_law 407 = .ok (.iconst 1, 1)) ∧ (decode cL_law 408 = .ok (.iadd, 1)) ∧ (decode cL_law 409 = .ok (.iaload, 1)) ∧ (decode cL_law 410 = .ok (.invokevirtual 44, 3)) ∧ (decode cL_law 413 = .ok (.pop, 1)) := by decide +kernel
theorem dL_law_404 : decode cL_law 404 = .ok (.aload_n 2, 1) := by exact dch_192.1
theorem dL_law_405 : decode cL_law 405 = .ok (.aload_n 0, 1) := by exact dch_192.2.1
theorem dL_law_406 : decode cL_law 406 = .ok (.iload_n 3, 1) := by exact dch_192.2.2.1
theorem dL_law_407 : decode cL_law 407 = .ok (.iconst 1, 1) := by exact dch_192.2.2.2.1
theorem dL_law_408 : decode cL_law 408 = .ok (.iadd, 1) := by exact dch_192.2.2.2.2.1
theorem dL_law_409 : decode cL_law 409 = .ok (.iaload, 1) := by exact dch_192.2.2.2.2.2.1
theorem dL_law_410 : decode cL_law 410 = .ok (.invokevirtual 44, 3) := by exact dch_192.2.2.2.2.2.2.1
theorem dL_law_413 : decode cL_law 413 = .ok (.pop, 1) := by exact dch_192.2.2.2.2.2.2.2
theorem dch_200 : (decode cL_law 414 = .ok (.goto 943, 3)) ∧ (decode cL_law 417 = .ok (.aload_n 1, 1)) ∧ (decode cL_law 418 = .ok (.aload_n 0, 1)) ∧ (decode cL_law 419 = .ok (.iload_n 3, 1)) ∧ (decode cL_law 420 = .ok (.iconst 1, 1)) ∧ (decode cL_law 421 = .ok (.iadd, 1)) ∧ (decode cL_law 422 = .ok (.iaload, 1)) ∧ (decode cL_law 423 = .ok (.invokevirtual 45, 3)) := by decide +kernel
theorem dL_law_414 : decode cL_law 414 = .ok (.goto 943, 3) := by exact dch_200.1
theorem dL_law_417 : decode cL_law 417 = .ok (.aload_n 1, 1) := by exact dch_200.2.1
theorem dL_law_418 : decode cL_law 418 = .ok (.aload_n 0, 1) := by exact dch_200.2.2.1
theorem dL_law_419 : decode cL_law 419 = .ok (.iload_n 3, 1) := by exact dch_200.2.2.2.1
theorem dL_law_420 : decode cL_law 420 = .ok (.iconst 1, 1) := by exact dch_200.2.2.2.2.1
theorem dL_law_421 : decode cL_law 421 = .ok (.iadd, 1) := by exact dch_200.2.2.2.2.2.1
theorem dL_law_422 : decode cL_law 422 = .ok (.iaload, 1) := by exact dch_200.2.2.2.2.2.2.1
theorem dL_law_423 : decode cL_law 423 = .ok (.invokevirtual 45, 3) := by exact dch_200.2.2.2.2.2.2.2
theorem dch_208 : (decode cL_law 426 = .ok (.pop, 1)) ∧ (decode cL_law 427 = .ok (.aload_n 2, 1)) ∧ (decode cL_law 428 = .ok (.aload_n 0, 1)) ∧ (decode cL_law 429 = .ok (.iload_n 3, 1)) ∧ (decode cL_law 430 = .ok (.iconst 1, 1)) ∧ (decode cL_law 431 = .ok (.iadd, 1)) ∧ (decode cL_law 432 = .ok (.iaload, 1)) ∧ (decode cL_law 433 = .ok (.invokevirtual 48, 3)) := by decide +kernel
theorem dL_law_426 : decode cL_law 426 = .ok (.pop, 1) := by exact dch_208.1
theorem dL_law_427 : decode cL_law 427 = .ok (.aload_n 2, 1) := by exact dch_208.2.1
theorem dL_law_428 : decode cL_law 428 = .ok (.aload_n 0, 1) := by exact dch_208.2.2.1
theorem dL_law_429 : decode cL_law 429 = .ok (.iload_n 3, 1) := by exact dch_208.2.2.2.1
theorem dL_law_430 : decode cL_law 430 = .ok (.iconst 1, 1) := by exact dch_208.2.2.2.2.1
theorem dL_law_431 : decode cL_law 431 = .ok (.iadd, 1) := by exact dch_208.2.2.2.2.2.1
theorem dL_law_432 : decode cL_law 432 = .ok (.iaload, 1) := by exact dch_208.2.2.2.2.2.2.1
theorem dL_law_433 : decode cL_law 433 = .ok (.invokevirtual 48, 3) := by exact dch_208.2.2.2.2.2.2.2
theorem dch_216 : (decode cL_law 436 = .ok (.pop, 1)) ∧ (decode cL_law 437 = .ok (.goto 920, 3)) ∧ (decode cL_law 440 = .ok (.aload_n 1, 1)) ∧ (decode cL_law 441 = .ok (.aload_n 0, 1)) ∧ (decode cL_law 442 = .ok (.iload_n 3, 1)) ∧ (decode cL_law 443 = .ok (.iconst 1, 1)) ∧ (decode cL_law 444 = .ok (.iadd, 1)) ∧ (decode cL_law 445 = .ok (.iaload, 1)) := by decide +kernel
theorem dL_law_436 : decode cL_law 436 = .ok (.pop, 1) := by exact dch_216.1
theorem dL_law_437 : decode cL_law 437 = .ok (.goto 920, 3) := by exact dch_216.2.1
theorem dL_law_440 : decode cL_law 440 = .ok (.aload_n 1, 1) := by exact dch_216.2.2.1
theorem dL_law_441 : decode cL_law 441 = .ok (.aload_n 0, 1) := by exact dch_216.2.2.2.1
theorem dL_law_442 : decode cL_law 442 = .ok (.iload_n 3, 1) := by exact dch_216.2.2.2.2.1
theorem dL_law_443 : decode cL_law 443 = .ok (.iconst 1, 1) := by exact dch_216.2.2.2.2.2.1
theorem dL_law_444 : decode cL_law 444 = .ok (.iadd, 1) := by exact dch_216.2.2.2.2.2.2.1
theorem dL_law_445 : decode cL_law 445 = .ok (.iaload, 1) := by exact dch_216.2.2.2.2.2.2.2
theorem dch_224 : (decode cL_law 446 = .ok (.aload_n 0, 1)) ∧ (decode cL_law 447 = .ok (.iload_n 3, 1)) ∧ (decode cL_law 448 = .ok (.iconst 2, 1)) ∧ (decode cL_law 449 = .ok (.iadd, 1)) ∧ (decode cL_law 450 = .ok (.iaload, 1)) ∧ (decode cL_law 451 = .ok (.aload_n 0, 1)) ∧ (decode cL_law 452 = .ok (.iload_n 3, 1)) ∧ (decode cL_law 453 = .ok (.iconst 3, 1)) := by decide +kernel
theorem dL_law_446 : decode cL_law 446 = .ok (.aload_n 0, 1) := by exact dch_224.1
theorem dL_law_447 : decode cL_law 447 = .ok (.iload_n 3, 1) := by exact dch_224.2.1
theorem dL_law_448 : decode cL_law 448 = .ok (.iconst 2, 1) := by exact dch_224.2.2.1
theorem dL_law_449 : decode cL_law 449 = .ok (.iadd, 1) := by exact dch_224.2.2.2.1
theorem dL_law_450 : decode cL_law 450 = .ok (.iaload, 1) := by exact dch_224.2.2.2.2.1
theorem dL_law_451 : decode cL_law 451 = .ok (.aload_n 0, 1) := by exact dch_224.2.2.2.2.2.1
theorem dL_law_452 : decode cL_law 452 = .ok (.iload_n 3, 1) := by exact dch_224.2.2.2.2.2.2.1
theorem dL_law_453 : decode cL_law 453 = .ok (.iconst 3, 1) := by exact dch_224.2.2.2.2.2.2.2
theorem dch_232 : (decode cL_law 454 = .ok (.iadd, 1)) ∧ (decode cL_law 455 = .ok (.iaload, 1)) ∧ (decode cL_law 456 = .ok (.invokevirtual 49, 3)) ∧ (decode cL_law 459 = .ok (.pop, 1)) ∧ (decode cL_law 460 = .ok (.aload_n 2, 1)) ∧ (decode cL_law 461 = .ok (.aload_n 0, 1)) ∧ (decode cL_law 462 = .ok (.iload_n 3, 1)) ∧ (decode cL_law 463 = .ok (.iconst 1, 1)) := by decide +kernel
theorem dL_law_454 : decode cL_law 454 = .ok (.iadd, 1) := by exact dch_232.1
theorem dL_law_455 : decode cL_law 455 = .ok (.iaload, 1) := by exact dch_232.2.1
theorem dL_law_456 : decode cL_law 456 = .ok (.invokevirtual 49, 3) := by exact dch_232.2.2.1
theorem dL_law_459 : decode cL_law 459 = .ok (.pop, 1) := by exact dch_232.2.2.2.1
theorem dL_law_460 : decode cL_law 460 = .ok (.aload_n 2, 1) := by exact dch_232.2.2.2.2.1
theorem dL_law_461 : decode cL_law 461 = .ok (.aload_n 0, 1) := by exact dch_232.2.2.2.2.2.1
theorem dL_law_462 : decode cL_law 462 = .ok (.iload_n 3, 1) := by exact dch_232.2.2.2.2.2.2.1
theorem dL_law_463 : decode cL_law 463 = .ok (.iconst 1, 1) := by exact dch_232.2.2.2.2.2.2.2
theorem dch_240 : (decode cL_law 464 = .ok (.iadd, 1)) ∧ (decode cL_law 465 = .ok (.iaload, 1)) ∧ (decode cL_law 466 = .ok (.aload_n 0, 1)) ∧ (decode cL_law 467 = .ok (.iload_n 3, 1)) ∧ (decode cL_law 468 = .ok (.iconst 2, 1)) ∧ (decode cL_law 469 = .ok (.iadd, 1)) ∧ (decode cL_law 470 = .ok (.iaload, 1)) ∧ (decode cL_law 471 = .ok (.aload_n 0, 1)) := by decide +kernel
theorem dL_law_464 : decode cL_law 464 = .ok (.iadd, 1) := by exact dch_240.1
theorem dL_law_465 : decode cL_law 465 = .ok (.iaload, 1) := by exact dch_240.2.1
theorem dL_law_466 : decode cL_law 466 = .ok (.aload_n 0, 1) := by exact dch_240.2.2.1
theorem dL_law_467 : decode cL_law 467 = .ok (.iload_n 3, 1) := by exact dch_240.2.2.2.1
theorem dL_law_468 : decode cL_law 468 = .ok (.iconst 2, 1) := by exact dch_240.2.2.2.2.1
theorem dL_law_469 : decode cL_law 469 = .ok (.iadd, 1) := by exact dch_240.2.2.2.2.2.1
theorem dL_law_470 : decode cL_law 470 = .ok (.iaload, 1) := by exact dch_240.2.2.2.2.2.2.1
theorem dL_law_471 : decode cL_law 471 = .ok (.aload_n 0, 1) := by exact dch_240.2.2.2.2.2.2.2
theorem dch_248 : (decode cL_law 472 = .ok (.iload_n 3, 1)) ∧ (decode cL_law 473 = .ok (.iconst 3, 1)) ∧ (decode cL_law 474 = .ok (.iadd, 1)) ∧ (decode cL_law 475 = .ok (.iaload, 1)) ∧ (decode cL_law 476 = .ok (.invokevirtual 52, 3)) ∧ (decode cL_law 479 = .ok (.pop, 1)) ∧ (decode cL_law 480 = .ok (.goto 877, 3)) ∧ (decode cL_law 483 = .ok (.aload_n 1, 1)) := by decide +kernel
theorem dL_law_472 : decode cL_law 472 = .ok (.iload_n 3, 1) := by exact dch_248.1
theorem dL_law_473 : decode cL_law 473 = .ok (.iconst 3, 1) := by exact dch_248.2.1
theorem dL_law_474 : decode cL_law 474 = .ok (.iadd, 1) := by exact dch_248.2.2.1
theorem dL_law_475 : decode cL_law 475 = .ok (.iaload, 1) := by exact dch_248.2.2.2.1
theorem dL_law_476 : decode cL_law 476 = .ok (.invokevirtual 52, 3) := by exact dch_248.2.2.2.2.1
theorem dL_law_479 : decode cL_law 479 = .ok (.pop, 1) := by exact dch_248.2.2.2.2.2.1
theorem dL_law_480 : decode cL_law 480 = .ok (.goto 877, 3) := by exact dch_248.2.2.2.2.2.2.1
theorem dL_law_483 : decode cL_law 483 = .ok (.aload_n 1, 1) := by exact dch_248.2.2.2.2.2.2.2
theorem dch_256 : (decode cL_law 484 = .ok (.aload_n 0, 1)) ∧ (decode cL_law 485 = .ok (.iload_n 3, 1)) ∧ (decode cL_law 486 = .ok (.iconst 1, 1)) ∧ (decode cL_law 487 = .ok (.iadd, 1)) ∧ (decode cL_law 488 = .ok (.iaload, 1)) ∧ (decode cL_law 489 = .ok (.aload_n 0, 1)) ∧ (decode cL_law 490 = .ok (.iload_n 3, 1)) ∧ (decode cL_law 491 = .ok (.iconst 2, 1)) := by decide +kernel
theorem dL_law_484 : decode cL_law 484 = .ok (.aload_n 0, 1) := by exact dch_256.1
theorem dL_law_485 : decode cL_law 485 = .ok (.iload_n 3, 1) := by exact dch_256.2.1
theorem dL_law_486 : decode cL_law 486 = .ok (.iconst 1, 1) := by exact dch_256.2.2.1
theorem dL_law_487 : decode cL_law 487 = .ok (.iadd, 1) := by exact dch_256.2.2.2.1
theorem dL_law_488 : decode cL_law 488 = .ok (.iaload, 1) := by exact dch_256.2.2.2.2.1
theorem dL_law_489 : decode cL_law 489 = .ok (.aload_n 0, 1) := by exact dch_256.2.2.2.2.2.1
theorem dL_law_490 : decode cL_law 490 = .ok (.iload_n 3, 1) := by exact dch_256.2.2.2.2.2.2.1
theorem dL_law_491 : decode cL_law 491 = .ok (.iconst 2, 1) := by exact dch_256.2.2.2.2.2.2.2
theorem dch_264 : (decode cL_law 492 = .ok (.iadd, 1)) ∧ (decode cL_law 493 = .ok (.iaload, 1)) ∧ (decode cL_law 494 = .ok (.aload_n 0, 1)) ∧ (decode cL_law 495 = .ok (.iload_n 3, 1)) ∧ (decode cL_law 496 = .ok (.iconst 3, 1)) ∧ (decode cL_law 497 = .ok (.iadd, 1)) ∧ (decode cL_law 498 = .ok (.iaload, 1)) ∧ (decode cL_law 499 = .ok (.invokevirtual 53, 3)) := by decide +kernel
theorem dL_law_492 : decode cL_law 492 = .ok (.iadd, 1) := by exact dch_264.1
theorem dL_law_493 : decode cL_law 493 = .ok (.iaload, 1) := by exact dch_264.2.1
theorem dL_law_494 : decode cL_law 494 = .ok (.aload_n 0, 1) := by exact dch_264.2.2.1
theorem dL_law_495 : decode cL_law 495 = .ok (.iload_n 3, 1) := by exact dch_264.2.2.2.1
theorem dL_law_496 : decode cL_law 496 = .ok (.iconst 3, 1) := by exact dch_264.2.2.2.2.1
theorem dL_law_497 : decode cL_law 497 = .ok (.iadd, 1) := by exact dch_264.2.2.2.2.2.1
theorem dL_law_498 : decode cL_law 498 = .ok (.iaload, 1) := by exact dch_264.2.2.2.2.2.2.1
theorem dL_law_499 : decode cL_law 499 = .ok (.invokevirtual 53, 3) := by exact dch_264.2.2.2.2.2.2.2
theorem dch_272 : (decode cL_law 502 = .ok (.pop, 1)) ∧ (decode cL_law 503 = .ok (.aload_n 2, 1)) ∧ (decode cL_law 504 = .ok (.aload_n 0, 1)) ∧ (decode cL_law 505 = .ok (.iload_n 3, 1)) ∧ (decode cL_law 506 = .ok (.iconst 1, 1)) ∧ (decode cL_law 507 = .ok (.iadd, 1)) ∧ (decode cL_law 508 = .ok (.iaload, 1)) ∧ (decode cL_law 509 = .ok (.aload_n 0, 1)) := by decide +kernel
theorem dL_law_502 : decode cL_law 502 = .ok (.pop, 1) := by exact dch_272.1
theorem dL_law_503 : decode cL_law 503 = .ok (.aload_n 2, 1) := by exact dch_272.2.1
theorem dL_law_504 : decode cL_law 504 = .ok (.aload_n 0, 1) := by exact dch_272.2.2.1
theorem dL_law_505 : decode cL_law 505 = .ok (.iload_n 3, 1) := by exact dch_272.2.2.2.1
theorem dL_law_506 : decode cL_law 506 = .ok (.iconst 1, 1) := by exact dch_272.2.2.2.2.1
theorem dL_law_507 : decode cL_law 507 = .ok (.iadd, 1) := by exact dch_272.2.2.2.2.2.1
theorem dL_law_508 : decode cL_law 508 = .ok (.iaload, 1) := by exact dch_272.2.2.2.2.2.2.1
theorem dL_law_509 : decode cL_law 509 = .ok (.aload_n 0, 1) := by exact dch_272.2.2.2.2.2.2.2
theorem dch_280 : (decode cL_law 510 = .ok (.iload_n 3, 1)) ∧ (decode cL_law 511 = .ok (.iconst 2, 1)) ∧ (decode cL_law 512 = .ok (.iadd, 1)) ∧ (decode cL_law 513 = .ok (.iaload, 1)) ∧ (decode cL_law 514 = .ok (.aload_n 0, 1)) ∧ (decode cL_law 515 = .ok (.iload_n 3, 1)) ∧ (decode cL_law 516 = .ok (.iconst 3, 1)) ∧ (decode cL_law 517 = .ok (.iadd, 1)) := by decide +kernel
theorem dL_law_510 : decode cL_law 510 = .ok (.iload_n 3, 1) := by exact dch_280.1
theorem dL_law_511 : decode cL_law 511 = .ok (.iconst 2, 1) := by exact dch_280.2.1
theorem dL_law_512 : decode cL_law 512 = .ok (.iadd, 1) := by exact dch_280.2.2.1
theorem dL_law_513 : decode cL_law 513 = .ok (.iaload, 1) := by exact dch_280.2.2.2.1
theorem dL_law_514 : decode cL_law 514 = .ok (.aload_n 0, 1) := by exact dch_280.2.2.2.2.1
theorem dL_law_515 : decode cL_law 515 = .ok (.iload_n 3, 1) := by exact dch_280.2.2.2.2.2.1
theorem dL_law_516 : decode cL_law 516 = .ok (.iconst 3, 1) := by exact dch_280.2.2.2.2.2.2.1
theorem dL_law_517 : decode cL_law 517 = .ok (.iadd, 1) := by exact dch_280.2.2.2.2.2.2.2
theorem dch_288 : (decode cL_law 518 = .ok (.iaload, 1)) ∧ (decode cL_law 519 = .ok (.invokevirtual 56, 3)) ∧ (decode cL_law 522 = .ok (.pop, 1)) ∧ (decode cL_law 523 = .ok (.goto 834, 3)) ∧ (decode cL_law 526 = .ok (.aload_n 1, 1)) ∧ (decode cL_law 527 = .ok (.aload_n 0, 1)) ∧ (decode cL_law 528 = .ok (.iload_n 3, 1)) ∧ (decode cL_law 529 = .ok (.iconst 1, 1)) := by decide +kernel
theorem dL_law_518 : decode cL_law 518 = .ok (.iaload, 1) := by exact dch_288.1
theorem dL_law_519 : decode cL_law 519 = .ok (.invokevirtual 56, 3) := by exact dch_288.2.1
theorem dL_law_522 : decode cL_law 522 = .ok (.pop, 1) := by exact dch_288.2.2.1
theorem dL_law_523 : decode cL_law 523 = .ok (.goto 834, 3) := by exact dch_288.2.2.2.1
theorem dL_law_526 : decode cL_law 526 = .ok (.aload_n 1, 1) := by exact dch_288.2.2.2.2.1
theorem dL_law_527 : decode cL_law 527 = .ok (.aload_n 0, 1) := by exact dch_288.2.2.2.2.2.1
theorem dL_law_528 : decode cL_law 528 = .ok (.iload_n 3, 1) := by exact dch_288.2.2.2.2.2.2.1
theorem dL_law_529 : decode cL_law 529 = .ok (.iconst 1, 1) := by exact dch_288.2.2.2.2.2.2.2
theorem dch_296 : (decode cL_law 530 = .ok (.iadd, 1)) ∧ (decode cL_law 531 = .ok (.iaload, 1)) ∧ (decode cL_law 532 = .ok (.invokevirtual 57, 3)) ∧ (decode cL_law 535 = .ok (.pop, 1)) ∧ (decode cL_law 536 = .ok (.aload_n 2, 1)) ∧ (decode cL_law 537 = .ok (.aload_n 0, 1)) ∧ (decode cL_law 538 = .ok (.iload_n 3, 1)) ∧ (decode cL_law 539 = .ok (.iconst 1, 1)) := by decide +kernel
theorem dL_law_530 : decode cL_law 530 = .ok (.iadd, 1) := by exact dch_296.1
theorem dL_law_531 : decode cL_law 531 = .ok (.iaload, 1) := by exact dch_296.2.1
theorem dL_law_532 : decode cL_law 532 = .ok (.invokevirtual 57, 3) := by exact dch_296.2.2.1
theorem dL_law_535 : decode cL_law 535 = .ok (.pop, 1) := by exact dch_296.2.2.2.1
theorem dL_law_536 : decode cL_law 536 = .ok (.aload_n 2, 1) := by exact dch_296.2.2.2.2.1
theorem dL_law_537 : decode cL_law 537 = .ok (.aload_n 0, 1) := by exact dch_296.2.2.2.2.2.1
theorem dL_law_538 : decode cL_law 538 = .ok (.iload_n 3, 1) := by exact dch_296.2.2.2.2.2.2.1
theorem dL_law_539 : decode cL_law 539 = .ok (.iconst 1, 1) := by exact dch_296.2.2.2.2.2.2.2
theorem dch_304 : (decode cL_law 540 = .ok (.iadd, 1)) ∧ (decode cL_law 541 = .ok (.iaload, 1)) ∧ (decode cL_law 542 = .ok (.invokevirtual 60, 3)) ∧ (decode cL_law 545 = .ok (.pop, 1)) ∧ (decode cL_law 546 = .ok (.goto 811, 3)) ∧ (decode cL_law 549 = .ok (.aload_n 1, 1)) ∧ (decode cL_law 550 = .ok (.aload_n 0, 1)) ∧ (decode cL_law 551 = .ok (.iload_n 3, 1)) := by decide +kernel
theorem dL_law_540 : decode cL_law 540 = .ok (.iadd, 1) := by exact dch_304.1
theorem dL_law_541 : decode cL_law 541 = .ok (.iaload, 1) := by exact dch_304.2.1
theorem dL_law_542 : decode cL_law 542 = .ok (.invokevirtual 60, 3) := by exact dch_304.2.2.1
theorem dL_law_545 : decode cL_law 545 = .ok (.pop, 1) := by exact dch_304.2.2.2.1
theorem dL_law_546 : decode cL_law 546 = .ok (.goto 811, 3) := by exact dch_304.2.2.2.2.1
theorem dL_law_549 : decode cL_law 549 = .ok (.aload_n 1, 1) := by exact dch_304.2.2.2.2.2.1
theorem dL_law_550 : decode cL_law 550 = .ok (.aload_n 0, 1) := by exact dch_304.2.2.2.2.2.2.1
theorem dL_law_551 : decode cL_law 551 = .ok (.iload_n 3, 1) := by exact dch_304.2.2.2.2.2.2.2
theorem dch_312 : (decode cL_law 552 = .ok (.iconst 1, 1)) ∧ (decode cL_law 553 = .ok (.iadd, 1)) ∧ (decode cL_law 554 = .ok (.iaload, 1)) ∧ (decode cL_law 555 = .ok (.invokevirtual 61, 3)) ∧ (decode cL_law 558 = .ok (.pop, 1)) ∧ (decode cL_law 559 = .ok (.aload_n 2, 1)) ∧ (decode cL_law 560 = .ok (.aload_n 0, 1)) ∧ (decode cL_law 561 = .ok (.iload_n 3, 1)) := by decide +kernel
theorem dL_law_552 : decode cL_law 552 = .ok (.iconst 1, 1) := by exact dch_312.1
theorem dL_law_553 : decode cL_law 553 = .ok (.iadd, 1) := by exact dch_312.2.1
theorem dL_law_554 : decode cL_law 554 = .ok (.iaload, 1) := by exact dch_312.2.2.1
theorem dL_law_555 : decode cL_law 555 = .ok (.invokevirtual 61, 3) := by exact dch_312.2.2.2.1
theorem dL_law_558 : decode cL_law 558 = .ok (.pop, 1) := by exact dch_312.2.2.2.2.1
theorem dL_law_559 : decode cL_law 559 = .ok (.aload_n 2, 1) := by exact dch_312.2.2.2.2.2.1
theorem dL_law_560 : decode cL_law 560 = .ok (.aload_n 0, 1) := by exact dch_312.2.2.2.2.2.2.1
theorem dL_law_561 : decode cL_law 561 = .ok (.iload_n 3, 1) := by exact dch_312.2.2.2.2.2.2.2
theorem dch_320 : (decode cL_law 562 = .ok (.iconst 1, 1)) ∧ (decode cL_law 563 = .ok (.iadd, 1)) ∧ (decode cL_law 564 = .ok (.iaload, 1)) ∧ (decode cL_law 565 = .ok (.invokevirtual 64, 3)) ∧ (decode cL_law 568 = .ok (.pop, 1)) ∧ (decode cL_law 569 = .ok (.goto 788, 3)) ∧ (decode cL_law 572 = .ok (.aload_n 1, 1)) ∧ (decode cL_law 573 = .ok (.aload_n 0, 1)) := by decide +kernel
theorem dL_law_562 : decode cL_law 562 = .ok (.iconst 1, 1) := by exact dch_320.1
theorem dL_law_563 : decode cL_law 563 = .ok (.iadd, 1) := by exact dch_320.2.1
theorem dL_law_564 : decode cL_law 564 = .ok (.iaload, 1) := by exact dch_320.2.2.1
theorem dL_law_565 : decode cL_law 565 = .ok (.invokevirtual 64, 3) := by exact dch_320.2.2.2.1
theorem dL_law_568 : decode cL_law 568 = .ok (.pop, 1) := by exact dch_320.2.2.2.2.1
theorem dL_law_569 : decode cL_law 569 = .ok (.goto 788, 3) := by exact dch_320.2.2.2.2.2.1
theorem dL_law_572 : decode cL_law 572 = .ok (.aload_n 1, 1) := by exact dch_320.2.2.2.2.2.2.1
theorem dL_law_573 : decode cL_law 573 = .ok (.aload_n 0, 1) := by exact dch_320.2.2.2.2.2.2.2
theorem dch_328 : (decode cL_law 574 = .ok (.iload_n 3, 1)) ∧ (decode cL_law 575 = .ok (.iconst 1, 1)) ∧ (decode cL_law 576 = .ok (.iadd, 1)) ∧ (decode cL_law 577 = .ok (.iaload, 1)) ∧ (decode cL_law 578 = .ok (.aload_n 0, 1)) ∧ (decode cL_law 579 = .ok (.iload_n 3, 1)) ∧ (decode cL_law 580 = .ok (.iconst 2, 1)) ∧ (decode cL_law 581 = .ok (.iadd, 1)) := by decide +kernel
theorem dL_law_574 : decode cL_law 574 = .ok (.iload_n 3, 1) := by exact dch_328.1
theorem dL_law_575 : decode cL_law 575 = .ok (.iconst 1, 1) := by exact dch_328.2.1
theorem dL_law_576 : decode cL_law 576 = .ok (.iadd, 1) := by exact dch_328.2.2.1
theorem dL_law_577 : decode cL_law 577 = .ok (.iaload, 1) := by exact dch_328.2.2.2.1
theorem dL_law_578 : decode cL_law 578 = .ok (.aload_n 0, 1) := by exact dch_328.2.2.2.2.1
theorem dL_law_579 : decode cL_law 579 = .ok (.iload_n 3, 1) := by exact dch_328.2.2.2.2.2.1
theorem dL_law_580 : decode cL_law 580 = .ok (.iconst 2, 1) := by exact dch_328.2.2.2.2.2.2.1
theorem dL_law_581 : decode cL_law 581 = .ok (.iadd, 1) := by exact dch_328.2.2.2.2.2.2.2
theorem dch_336 : (decode cL_law 582 = .ok (.iaload, 1)) ∧ (decode cL_law 583 = .ok (.invokevirtual 65, 3)) ∧ (decode cL_law 586 = .ok (.pop, 1)) ∧ (decode cL_law 587 = .ok (.aload_n 2, 1)) ∧ (decode cL_law 588 = .ok (.aload_n 0, 1)) ∧ (decode cL_law 589 = .ok (.iload_n 3, 1)) ∧ (decode cL_law 590 = .ok (.iconst 1, 1)) ∧ (decode cL_law 591 = .ok (.iadd, 1)) := by decide +kernel
theorem dL_law_582 : decode cL_law 582 = .ok (.iaload, 1) := by exact dch_336.1
theorem dL_law_583 : decode cL_law 583 = .ok (.invokevirtual 65, 3) := by exact dch_336.2.1
theorem dL_law_586 : decode cL_law 586 = .ok (.pop, 1) := by exact dch_336.2.2.1
theorem dL_law_587 : decode cL_law 587 = .ok (.aload_n 2, 1) := by exact dch_336.2.2.2.1
theorem dL_law_588 : decode cL_law 588 = .ok (.aload_n 0, 1) := by exact dch_336.2.2.2.2.1
theorem dL_law_589 : decode cL_law 589 = .ok (.iload_n 3, 1) := by exact dch_336.2.2.2.2.2.1
theorem dL_law_590 : decode cL_law 590 = .ok (.iconst 1, 1) := by exact dch_336.2.2.2.2.2.2.1
theorem dL_law_591 : decode cL_law 591 = .ok (.iadd, 1) := by exact dch_336.2.2.2.2.2.2.2
theorem dch_344 : (decode cL_law 592 = .ok (.iaload, 1)) ∧ (decode cL_law 593 = .ok (.aload_n 0, 1)) ∧ (decode cL_law 594 = .ok (.iload_n 3, 1)) ∧ (decode cL_law 595 = .ok (.iconst 2, 1)) ∧ (decode cL_law 596 = .ok (.iadd, 1)) ∧ (decode cL_law 597 = .ok (.iaload, 1)) ∧ (decode cL_law 598 = .ok (.invokevirtual 68, 3)) ∧ (decode cL_law 601 = .ok (.pop, 1)) := by decide +kernel
theorem dL_law_592 : decode cL_law 592 = .ok (.iaload, 1) := by exact dch_344.1
theorem dL_law_593 : decode cL_law 593 = .ok (.aload_n 0, 1) := by exact dch_344.2.1
theorem dL_law_594 : decode cL_law 594 = .ok (.iload_n 3, 1) := by exact dch_344.2.2.1
theorem dL_law_595 : decode cL_law 595 = .ok (.iconst 2, 1) := by exact dch_344.2.2.2.1
theorem dL_law_596 : decode cL_law 596 = .ok (.iadd, 1) := by exact dch_344.2.2.2.2.1
theorem dL_law_597 : decode cL_law 597 = .ok (.iaload, 1) := by exact dch_344.2.2.2.2.2.1
theorem dL_law_598 : decode cL_law 598 = .ok (.invokevirtual 68, 3) := by exact dch_344.2.2.2.2.2.2.1
theorem dL_law_601 : decode cL_law 601 = .ok (.pop, 1) := by exact dch_344.2.2.2.2.2.2.2
theorem dch_352 : (decode cL_law 602 = .ok (.goto 755, 3)) ∧ (decode cL_law 605 = .ok (.aload_n 1, 1)) ∧ (decode cL_law 606 = .ok (.aload_n 0, 1)) ∧ (decode cL_law 607 = .ok (.iload_n 3, 1)) ∧ (decode cL_law 608 = .ok (.iconst 1, 1)) ∧ (decode cL_law 609 = .ok (.iadd, 1)) ∧ (decode cL_law 610 = .ok (.iaload, 1)) ∧ (decode cL_law 611 = .ok (.invokevirtual 69, 3)) := by decide +kernel
theorem dL_law_602 : decode cL_law 602 = .ok (.goto 755, 3) := by exact dch_352.1
theorem dL_law_605 : decode cL_law 605 = .ok (.aload_n 1, 1) := by exact dch_352.2.1
theorem dL_law_606 : decode cL_law 606 = .ok (.aload_n 0, 1) := by exact dch_352.2.2.1
theorem dL_law_607 : decode cL_law 607 = .ok (.iload_n 3, 1) := by exact dch_352.2.2.2.1
theorem dL_law_608 : decode cL_law 608 = .ok (.iconst 1, 1) := by exact dch_352.2.2.2.2.1
theorem dL_law_609 : decode cL_law 609 = .ok (.iadd, 1) := by exact dch_352.2.2.2.2.2.1
theorem dL_law_610 : decode cL_law 610 = .ok (.iaload, 1) := by exact dch_352.2.2.2.2.2.2.1
theorem dL_law_611 : decode cL_law 611 = .ok (.invokevirtual 69, 3) := by exact dch_352.2.2.2.2.2.2.2
theorem dch_360 : (decode cL_law 614 = .ok (.pop, 1)) ∧ (decode cL_law 615 = .ok (.aload_n 2, 1)) ∧ (decode cL_law 616 = .ok (.aload_n 0, 1)) ∧ (decode cL_law 617 = .ok (.iload_n 3, 1)) ∧ (decode cL_law 618 = .ok (.iconst 1, 1)) ∧ (decode cL_law 619 = .ok (.iadd, 1)) ∧ (decode cL_law 620 = .ok (.iaload, 1)) ∧ (decode cL_law 621 = .ok (.invokevirtual 72, 3)) := by decide +kernel
theorem dL_law_614 : decode cL_law 614 = .ok (.pop, 1) := by exact dch_360.1
theorem dL_law_615 : decode cL_law 615 = .ok (.aload_n 2, 1) := by exact dch_360.2.1
theorem dL_law_616 : decode cL_law 616 = .ok (.aload_n 0, 1) := by exact dch_360.2.2.1
theorem dL_law_617 : decode cL_law 617 = .ok (.iload_n 3, 1) := by exact dch_360.2.2.2.1
theorem dL_law_618 : decode cL_law 618 = .ok (.iconst 1, 1) := by exact dch_360.2.2.2.2.1
theorem dL_law_619 : decode cL_law 619 = .ok (.iadd, 1) := by exact dch_360.2.2.2.2.2.1
theorem dL_law_620 : decode cL_law 620 = .ok (.iaload, 1) := by exact dch_360.2.2.2.2.2.2.1
theorem dL_law_621 : decode cL_law 621 = .ok (.invokevirtual 72, 3) := by exact dch_360.2.2.2.2.2.2.2
theorem dch_368 : (decode cL_law 624 = .ok (.pop, 1)) ∧ (decode cL_law 625 = .ok (.goto 732, 3)) ∧ (decode cL_law 628 = .ok (.aload_n 1, 1)) ∧ (decode cL_law 629 = .ok (.aload_n 0, 1)) ∧ (decode cL_law 630 = .ok (.iload_n 3, 1)) ∧ (decode cL_law 631 = .ok (.iconst 1, 1)) ∧ (decode cL_law 632 = .ok (.iadd, 1)) ∧ (decode cL_law 633 = .ok (.iaload, 1)) := by decide +kernel
theorem dL_law_624 : decode cL_law 624 = .ok (.pop, 1) := by exact dch_368.1
theorem dL_law_625 : decode cL_law 625 = .ok (.goto 732, 3) := by exact dch_368.2.1
theorem dL_law_628 : decode cL_law 628 = .ok (.aload_n 1, 1) := by exact dch_368.2.2.1
theorem dL_law_629 : decode cL_law 629 = .ok (.aload_n 0, 1) := by exact dch_368.2.2.2.1
theorem dL_law_630 : decode cL_law 630 = .ok (.iload_n 3, 1) := by exact dch_368.2.2.2.2.1
theorem dL_law_631 : decode cL_law 631 = .ok (.iconst 1, 1) := by exact dch_368.2.2.2.2.2.1
theorem dL_law_632 : decode cL_law 632 = .ok (.iadd, 1) := by exact dch_368.2.2.2.2.2.2.1
theorem dL_law_633 : decode cL_law 633 = .ok (.iaload, 1) := by exact dch_368.2.2.2.2.2.2.2
theorem dch_376 : (decode cL_law 634 = .ok (.aload_n 0, 1)) ∧ (decode cL_law 635 = .ok (.iload_n 3, 1)) ∧ (decode cL_law 636 = .ok (.iconst 2, 1)) ∧ (decode cL_law 637 = .ok (.iadd, 1)) ∧ (decode cL_law 638 = .ok (.iaload, 1)) ∧ (decode cL_law 639 = .ok (.invokevirtual 73, 3)) ∧ (decode cL_law 642 = .ok (.pop, 1)) ∧ (decode cL_law 643 = .ok (.aload_n 2, 1)) := by decide +kernel
theorem dL_law_634 : decode cL_law 634 = .ok (.aload_n 0, 1) := by exact dch_376.1
theorem dL_law_635 : decode cL_law 635 = .ok (.iload_n 3, 1) := by exact dch_376.2.1
theorem dL_law_636 : decode cL_law 636 = .ok (.iconst 2, 1) := by exact dch_376.2.2.1
theorem dL_law_637 : decode cL_law 637 = .ok (.iadd, 1) := by exact dch_376.2.2.2.1
theorem dL_law_638 : decode cL_law 638 = .ok (.iaload, 1) := by exact dch_376.2.2.2.2.1
theorem dL_law_639 : decode cL_law 639 = .ok (.invokevirtual 73, 3) := by exact dch_376.2.2.2.2.2.1
theorem dL_law_642 : decode cL_law 642 = .ok (.pop, 1) := by exact dch_376.2.2.2.2.2.2.1
theorem dL_law_643 : decode cL_law 643 = .ok (.aload_n 2, 1) := by exact dch_376.2.2.2.2.2.2.2
theorem dch_384 : (decode cL_law 644 = .ok (.aload_n 0, 1)) ∧ (decode cL_law 645 = .ok (.iload_n 3, 1)) ∧ (decode cL_law 646 = .ok (.iconst 1, 1)) ∧ (decode cL_law 647 = .ok (.iadd, 1)) ∧ (decode cL_law 648 = .ok (.iaload, 1)) ∧ (decode cL_law 649 = .ok (.aload_n 0, 1)) ∧ (decode cL_law 650 = .ok (.iload_n 3, 1)) ∧ (decode cL_law 651 = .ok (.iconst 2, 1)) := by decide +kernel
theorem dL_law_644 : decode cL_law 644 = .ok (.aload_n 0, 1) := by exact dch_384.1
theorem dL_law_645 : decode cL_law 645 = .ok (.iload_n 3, 1) := by exact dch_384.2.1
theorem dL_law_646 : decode cL_law 646 = .ok (.iconst 1, 1) := by exact dch_384.2.2.1
theorem dL_law_647 : decode cL_law 647 = .ok (.iadd, 1) := by exact dch_384.2.2.2.1
theorem dL_law_648 : decode cL_law 648 = .ok (.iaload, 1) := by exact dch_384.2.2.2.2.1
theorem dL_law_649 : decode cL_law 649 = .ok (.aload_n 0, 1) := by exact dch_384.2.2.2.2.2.1
theorem dL_law_650 : decode cL_law 650 = .ok (.iload_n 3, 1) := by exact dch_384.2.2.2.2.2.2.1
theorem dL_law_651 : decode cL_law 651 = .ok (.iconst 2, 1) := by exact dch_384.2.2.2.2.2.2.2
theorem dch_392 : (decode cL_law 652 = .ok (.iadd, 1)) ∧ (decode cL_law 653 = .ok (.iaload, 1)) ∧ (decode cL_law 654 = .ok (.invokevirtual 76, 3)) ∧ (decode cL_law 657 = .ok (.pop, 1)) ∧ (decode cL_law 658 = .ok (.goto 699, 3)) ∧ (decode cL_law 661 = .ok (.aload_n 1, 1)) ∧ (decode cL_law 662 = .ok (.aload_n 0, 1)) ∧ (decode cL_law 663 = .ok (.iload_n 3, 1)) := by decide +kernel
theorem dL_law_652 : decode cL_law 652 = .ok (.iadd, 1) := by exact dch_392.1
theorem dL_law_653 : decode cL_law 653 = .ok (.iaload, 1) := by exact dch_392.2.1
theorem dL_law_654 : decode cL_law 654 = .ok (.invokevirtual 76, 3) := by exact dch_392.2.2.1
theorem dL_law_657 : decode cL_law 657 = .ok (.pop, 1) := by exact dch_392.2.2.2.1
theorem dL_law_658 : decode cL_law 658 = .ok (.goto 699, 3) := by exact dch_392.2.2.2.2.1
theorem dL_law_661 : decode cL_law 661 = .ok (.aload_n 1, 1) := by exact dch_392.2.2.2.2.2.1
theorem dL_law_662 : decode cL_law 662 = .ok (.aload_n 0, 1) := by exact dch_392.2.2.2.2.2.2.1
theorem dL_law_663 : decode cL_law 663 = .ok (.iload_n 3, 1) := by exact dch_392.2.2.2.2.2.2.2
theorem dch_400 : (decode cL_law 664 = .ok (.iconst 1, 1)) ∧ (decode cL_law 665 = .ok (.iadd, 1)) ∧ (decode cL_law 666 = .ok (.iaload, 1)) ∧ (decode cL_law 667 = .ok (.aload_n 0, 1)) ∧ (decode cL_law 668 = .ok (.iload_n 3, 1)) ∧ (decode cL_law 669 = .ok (.iconst 2, 1)) ∧ (decode cL_law 670 = .ok (.iadd, 1)) ∧ (decode cL_law 671 = .ok (.iaload, 1)) := by decide +kernel
theorem dL_law_664 : decode cL_law 664 = .ok (.iconst 1, 1) := by exact dch_400.1
theorem dL_law_665 : decode cL_law 665 = .ok (.iadd, 1) := by exact dch_400.2.1
theorem dL_law_666 : decode cL_law 666 = .ok (.iaload, 1) := by exact dch_400.2.2.1
theorem dL_law_667 : decode cL_law 667 = .ok (.aload_n 0, 1) := by exact dch_400.2.2.2.1
theorem dL_law_668 : decode cL_law 668 = .ok (.iload_n 3, 1) := by exact dch_400.2.2.2.2.1
theorem dL_law_669 : decode cL_law 669 = .ok (.iconst 2, 1) := by exact dch_400.2.2.2.2.2.1
theorem dL_law_670 : decode cL_law 670 = .ok (.iadd, 1) := by exact dch_400.2.2.2.2.2.2.1
theorem dL_law_671 : decode cL_law 671 = .ok (.iaload, 1) := by exact dch_400.2.2.2.2.2.2.2
theorem dch_408 : (decode cL_law 672 = .ok (.invokevirtual 77, 3)) ∧ (decode cL_law 675 = .ok (.pop, 1)) ∧ (decode cL_law 676 = .ok (.aload_n 2, 1)) ∧ (decode cL_law 677 = .ok (.aload_n 0, 1)) ∧ (decode cL_law 678 = .ok (.iload_n 3, 1)) ∧ (decode cL_law 679 = .ok (.iconst 1, 1)) ∧ (decode cL_law 680 = .ok (.iadd, 1)) ∧ (decode cL_law 681 = .ok (.iaload, 1)) := by decide +kernel
theorem dL_law_672 : decode cL_law 672 = .ok (.invokevirtual 77, 3) := by exact dch_408.1
theorem dL_law_675 : decode cL_law 675 = .ok (.pop, 1) := by exact dch_408.2.1
theorem dL_law_676 : decode cL_law 676 = .ok (.aload_n 2, 1) := by exact dch_408.2.2.1
theorem dL_law_677 : decode cL_law 677 = .ok (.aload_n 0, 1) := by exact dch_408.2.2.2.1
theorem dL_law_678 : decode cL_law 678 = .ok (.iload_n 3, 1) := by exact dch_408.2.2.2.2.1
theorem dL_law_679 : decode cL_law 679 = .ok (.iconst 1, 1) := by exact dch_408.2.2.2.2.2.1
theorem dL_law_680 : decode cL_law 680 = .ok (.iadd, 1) := by exact dch_408.2.2.2.2.2.2.1
theorem dL_law_681 : decode cL_law 681 = .ok (.iaload, 1) := by exact dch_408.2.2.2.2.2.2.2
theorem dch_416 : (decode cL_law 682 = .ok (.aload_n 0, 1)) ∧ (decode cL_law 683 = .ok (.iload_n 3, 1)) ∧ (decode cL_law 684 = .ok (.iconst 2, 1)) ∧ (decode cL_law 685 = .ok (.iadd, 1)) ∧ (decode cL_law 686 = .ok (.iaload, 1)) ∧ (decode cL_law 687 = .ok (.invokevirtual 80, 3)) ∧ (decode cL_law 690 = .ok (.pop, 1)) ∧ (decode cL_law 691 = .ok (.goto 666, 3)) := by decide +kernel
theorem dL_law_682 : decode cL_law 682 = .ok (.aload_n 0, 1) := by exact dch_416.1
theorem dL_law_683 : decode cL_law 683 = .ok (.iload_n 3, 1) := by exact dch_416.2.1
theorem dL_law_684 : decode cL_law 684 = .ok (.iconst 2, 1) := by exact dch_416.2.2.1
theorem dL_law_685 : decode cL_law 685 = .ok (.iadd, 1) := by exact dch_416.2.2.2.1
theorem dL_law_686 : decode cL_law 686 = .ok (.iaload, 1) := by exact dch_416.2.2.2.2.1
theorem dL_law_687 : decode cL_law 687 = .ok (.invokevirtual 80, 3) := by exact dch_416.2.2.2.2.2.1
theorem dL_law_690 : decode cL_law 690 = .ok (.pop, 1) := by exact dch_416.2.2.2.2.2.2.1
theorem dL_law_691 : decode cL_law 691 = .ok (.goto 666, 3) := by exact dch_416.2.2.2.2.2.2.2
theorem dch_424 : (decode cL_law 694 = .ok (.aload_n 1, 1)) ∧ (decode cL_law 695 = .ok (.aload_n 0, 1)) ∧ (decode cL_law 696 = .ok (.iload_n 3, 1)) ∧ (decode cL_law 697 = .ok (.iconst 1, 1)) ∧ (decode cL_law 698 = .ok (.iadd, 1)) ∧ (decode cL_law 699 = .ok (.iaload, 1)) ∧ (decode cL_law 700 = .ok (.invokevirtual 81, 3)) ∧ (decode cL_law 703 = .ok (.pop, 1)) := by decide +kernel
theorem dL_law_694 : decode cL_law 694 = .ok (.aload_n 1, 1) := by exact dch_424.1
theorem dL_law_695 : decode cL_law 695 = .ok (.aload_n 0, 1) := by exact dch_424.2.1
theorem dL_law_696 : decode cL_law 696 = .ok (.iload_n 3, 1) := by exact dch_424.2.2.1
theorem dL_law_697 : decode cL_law 697 = .ok (.iconst 1, 1) := by exact dch_424.2.2.2.1
theorem dL_law_698 : decode cL_law 698 = .ok (.iadd, 1) := by exact dch_424.2.2.2.2.1
theorem dL_law_699 : decode cL_law 699 = .ok (.iaload, 1) := by exact dch_424.2.2.2.2.2.1
theorem dL_law_700 : decode cL_law 700 = .ok (.invokevirtual 81, 3) := by exact dch_424.2.2.2.2.2.2.1
theorem dL_law_703 : decode cL_law 703 = .ok (.pop, 1) := by exact dch_424.2.2.2.2.2.2.2
theorem dch_432 : (decode cL_law 704 = .ok (.aload_n 2, 1)) ∧ (decode cL_law 705 = .ok (.aload_n 0, 1)) ∧ (decode cL_law 706 = .ok (.iload_n 3, 1)) ∧ (decode cL_law 707 = .ok (.iconst 1, 1)) ∧ (decode cL_law 708 = .ok (.iadd, 1)) ∧ (decode cL_law 709 = .ok (.iaload, 1)) ∧ (decode cL_law 710 = .ok (.invokevirtual 84, 3)) ∧ (decode cL_law 713 = .ok (.pop, 1)) := by decide +kernel
theorem dL_law_704 : decode cL_law 704 = .ok (.aload_n 2, 1) := by exact dch_432.1
theorem dL_law_705 : decode cL_law 705 = .ok (.aload_n 0, 1) := by exact dch_432.2.1
theorem dL_law_706 : decode cL_law 706 = .ok (.iload_n 3, 1) := by exact dch_432.2.2.1
theorem dL_law_707 : decode cL_law 707 = .ok (.iconst 1, 1) := by exact dch_432.2.2.2.1
theorem dL_law_708 : decode cL_law 708 = .ok (.iadd, 1) := by exact dch_432.2.2.2.2.1
theorem dL_law_709 : decode cL_law 709 = .ok (.iaload, 1) := by exact dch_432.2.2.2.2.2.1
theorem dL_law_710 : decode cL_law 710 = .ok (.invokevirtual 84, 3) := by exact dch_432.2.2.2.2.2.2.1
theorem dL_law_713 : decode cL_law 713 = .ok (.pop, 1) := by exact dch_432.2.2.2.2.2.2.2
theorem dch_440 : (decode cL_law 714 = .ok (.goto 643, 3)) ∧ (decode cL_law 717 = .ok (.aload_n 1, 1)) ∧ (decode cL_law 718 = .ok (.aload_n 0, 1)) ∧ (decode cL_law 719 = .ok (.iload_n 3, 1)) ∧ (decode cL_law 720 = .ok (.iconst 1, 1)) ∧ (decode cL_law 721 = .ok (.iadd, 1)) ∧ (decode cL_law 722 = .ok (.iaload, 1)) ∧ (decode cL_law 723 = .ok (.invokevirtual 85, 3)) := by decide +kernel
theorem dL_law_714 : decode cL_law 714 = .ok (.goto 643, 3) := by exact dch_440.1
theorem dL_law_717 : decode cL_law 717 = .ok (.aload_n 1, 1) := by exact dch_440.2.1
theorem dL_law_718 : decode cL_law 718 = .ok (.aload_n 0, 1) := by exact dch_440.2.2.1
theorem dL_law_719 : decode cL_law 719 = .ok (.iload_n 3, 1) := by exact dch_440.2.2.2.1
theorem dL_law_720 : decode cL_law 720 = .ok (.iconst 1, 1) := by exact dch_440.2.2.2.2.1
theorem dL_law_721 : decode cL_law 721 = .ok (.iadd, 1) := by exact dch_440.2.2.2.2.2.1
theorem dL_law_722 : decode cL_law 722 = .ok (.iaload, 1) := by exact dch_440.2.2.2.2.2.2.1
theorem dL_law_723 : decode cL_law 723 = .ok (.invokevirtual 85, 3) := by exact dch_440.2.2.2.2.2.2.2
theorem dch_448 : (decode cL_law 726 = .ok (.pop, 1)) ∧ (decode cL_law 727 = .ok (.aload_n 2, 1)) ∧ (decode cL_law 728 = .ok (.aload_n 0, 1)) ∧ (decode cL_law 729 = .ok (.iload_n 3, 1)) ∧ (decode cL_law 730 = .ok (.iconst 1, 1)) ∧ (decode cL_law 731 = .ok (.iadd, 1)) ∧ (decode cL_law 732 = .ok (.iaload, 1)) ∧ (decode cL_law 733 = .ok (.invokevirtual 88, 3)) := by decide +kernel
theorem dL_law_726 : decode cL_law 726 = .ok (.pop, 1) := by exact dch_448.1
theorem dL_law_727 : decode cL_law 727 = .ok (.aload_n 2, 1) := by exact dch_448.2.1
theorem dL_law_728 : decode cL_law 728 = .ok (.aload_n 0, 1) := by exact dch_448.2.2.1
theorem dL_law_729 : decode cL_law 729 = .ok (.iload_n 3, 1) := by exact dch_448.2.2.2.1
theorem dL_law_730 : decode cL_law 730 = .ok (.iconst 1, 1) := by exact dch_448.2.2.2.2.1
theorem dL_law_731 : decode cL_law 731 = .ok (.iadd, 1) := by exact dch_448.2.2.2.2.2.1
theorem dL_law_732 : decode cL_law 732 = .ok (.iaload, 1) := by exact dch_448.2.2.2.2.2.2.1
theorem dL_law_733 : decode cL_law 733 = .ok (.invokevirtual 88, 3) := by exact dch_448.2.2.2.2.2.2.2
theorem dch_456 : (decode cL_law 736 = .ok (.pop, 1)) ∧ (decode cL_law 737 = .ok (.goto 620, 3)) ∧ (decode cL_law 740 = .ok (.aload_n 1, 1)) ∧ (decode cL_law 741 = .ok (.aload_n 0, 1)) ∧ (decode cL_law 742 = .ok (.iload_n 3, 1)) ∧ (decode cL_law 743 = .ok (.iconst 1, 1)) ∧ (decode cL_law 744 = .ok (.iadd, 1)) ∧ (decode cL_law 745 = .ok (.iaload, 1)) := by decide +kernel
theorem dL_law_736 : decode cL_law 736 = .ok (.pop, 1) := by exact dch_456.1
theorem dL_law_737 : decode cL_law 737 = .ok (.goto 620, 3) := by exact dch_456.2.1
theorem dL_law_740 : decode cL_law 740 = .ok (.aload_n 1, 1) := by exact dch_456.2.2.1
theorem dL_law_741 : decode cL_law 741 = .ok (.aload_n 0, 1) := by exact dch_456.2.2.2.1
theorem dL_law_742 : decode cL_law 742 = .ok (.iload_n 3, 1) := by exact dch_456.2.2.2.2.1
theorem dL_law_743 : decode cL_law 743 = .ok (.iconst 1, 1) := by exact dch_456.2.2.2.2.2.1
theorem dL_law_744 : decode cL_law 744 = .ok (.iadd, 1) := by exact dch_456.2.2.2.2.2.2.1
theorem dL_law_745 : decode cL_law 745 = .ok (.iaload, 1) := by exact dch_456.2.2.2.2.2.2.2
theorem dch_464 : (decode cL_law 746 = .ok (.aload_n 0, 1)) ∧ (decode cL_law 747 = .ok (.iload_n 3, 1)) ∧ (decode cL_law 748 = .ok (.iconst 2, 1)) ∧ (decode cL_law 749 = .ok (.iadd, 1)) ∧ (decode cL_law 750 = .ok (.iaload, 1)) ∧ (decode cL_law 751 = .ok (.invokevirtual 89, 3)) ∧ (decode cL_law 754 = .ok (.pop, 1)) ∧ (decode cL_law 755 = .ok (.aload_n 2, 1)) := by decide +kernel
theorem dL_law_746 : decode cL_law 746 = .ok (.aload_n 0, 1) := by exact dch_464.1
theorem dL_law_747 : decode cL_law 747 = .ok (.iload_n 3, 1) := by exact dch_464.2.1
theorem dL_law_748 : decode cL_law 748 = .ok (.iconst 2, 1) := by exact dch_464.2.2.1
theorem dL_law_749 : decode cL_law 749 = .ok (.iadd, 1) := by exact dch_464.2.2.2.1
theorem dL_law_750 : decode cL_law 750 = .ok (.iaload, 1) := by exact dch_464.2.2.2.2.1
theorem dL_law_751 : decode cL_law 751 = .ok (.invokevirtual 89, 3) := by exact dch_464.2.2.2.2.2.1
theorem dL_law_754 : decode cL_law 754 = .ok (.pop, 1) := by exact dch_464.2.2.2.2.2.2.1
theorem dL_law_755 : decode cL_law 755 = .ok (.aload_n 2, 1) := by exact dch_464.2.2.2.2.2.2.2
theorem dch_472 : (decode cL_law 756 = .ok (.aload_n 0, 1)) ∧ (decode cL_law 757 = .ok (.iload_n 3, 1)) ∧ (decode cL_law 758 = .ok (.iconst 1, 1)) ∧ (decode cL_law 759 = .ok (.iadd, 1)) ∧ (decode cL_law 760 = .ok (.iaload, 1)) ∧ (decode cL_law 761 = .ok (.aload_n 0, 1)) ∧ (decode cL_law 762 = .ok (.iload_n 3, 1)) ∧ (decode cL_law 763 = .ok (.iconst 2, 1)) := by decide +kernel
theorem dL_law_756 : decode cL_law 756 = .ok (.aload_n 0, 1) := by exact dch_472.1
theorem dL_law_757 : decode cL_law 757 = .ok (.iload_n 3, 1) := by exact dch_472.2.1
theorem dL_law_758 : decode cL_law 758 = .ok (.iconst 1, 1) := by exact dch_472.2.2.1
theorem dL_law_759 : decode cL_law 759 = .ok (.iadd, 1) := by exact dch_472.2.2.2.1
theorem dL_law_760 : decode cL_law 760 = .ok (.iaload, 1) := by exact dch_472.2.2.2.2.1
theorem dL_law_761 : decode cL_law 761 = .ok (.aload_n 0, 1) := by exact dch_472.2.2.2.2.2.1
theorem dL_law_762 : decode cL_law 762 = .ok (.iload_n 3, 1) := by exact dch_472.2.2.2.2.2.2.1
theorem dL_law_763 : decode cL_law 763 = .ok (.iconst 2, 1) := by exact dch_472.2.2.2.2.2.2.2
theorem dch_480 : (decode cL_law 764 = .ok (.iadd, 1)) ∧ (decode cL_law 765 = .ok (.iaload, 1)) ∧ (decode cL_law 766 = .ok (.invokevirtual 92, 3)) ∧ (decode cL_law 769 = .ok (.pop, 1)) ∧ (decode cL_law 770 = .ok (.goto 587, 3)) ∧ (decode cL_law 773 = .ok (.aload_n 1, 1)) ∧ (decode cL_law 774 = .ok (.aload_n 0, 1)) ∧ (decode cL_law 775 = .ok (.iload_n 3, 1)) := by decide +kernel
theorem dL_law_764 : decode cL_law 764 = .ok (.iadd, 1) := by exact dch_480.1
theorem dL_law_765 : decode cL_law 765 = .ok (.iaload, 1) := by exact dch_480.2.1
theorem dL_law_766 : decode cL_law 766 = .ok (.invokevirtual 92, 3) := by exact dch_480.2.2.1
theorem dL_law_769 : decode cL_law 769 = .ok (.pop, 1) := by exact dch_480.2.2.2.1
theorem dL_law_770 : decode cL_law 770 = .ok (.goto 587, 3) := by exact dch_480.2.2.2.2.1
theorem dL_law_773 : decode cL_law 773 = .ok (.aload_n 1, 1) := by exact dch_480.2.2.2.2.2.1
theorem dL_law_774 : decode cL_law 774 = .ok (.aload_n 0, 1) := by exact dch_480.2.2.2.2.2.2.1
theorem dL_law_775 : decode cL_law 775 = .ok (.iload_n 3, 1) := by exact dch_480.2.2.2.2.2.2.2
theorem dch_488 : (decode cL_law 776 = .ok (.iconst 1, 1)) ∧ (decode cL_law 777 = .ok (.iadd, 1)) ∧ (decode cL_law 778 = .ok (.iaload, 1)) ∧ (decode cL_law 779 = .ok (.aload_n 0, 1)) ∧ (decode cL_law 780 = .ok (.iload_n 3, 1)) ∧ (decode cL_law 781 = .ok (.iconst 2, 1)) ∧ (decode cL_law 782 = .ok (.iadd, 1)) ∧ (decode cL_law 783 = .ok (.iaload, 1)) := by decide +kernel
theorem dL_law_776 : decode cL_law 776 = .ok (.iconst 1, 1) := by exact dch_488.1
theorem dL_law_777 : decode cL_law 777 = .ok (.iadd, 1) := by exact dch_488.2.1
theorem dL_law_778 : decode cL_law 778 = .ok (.iaload, 1) := by exact dch_488.2.2.1
theorem dL_law_779 : decode cL_law 779 = .ok (.aload_n 0, 1) := by exact dch_488.2.2.2.1
theorem dL_law_780 : decode cL_law 780 = .ok (.iload_n 3, 1) := by exact dch_488.2.2.2.2.1
theorem dL_law_781 : decode cL_law 781 = .ok (.iconst 2, 1) := by exact dch_488.2.2.2.2.2.1
theorem dL_law_782 : decode cL_law 782 = .ok (.iadd, 1) := by exact dch_488.2.2.2.2.2.2.1
theorem dL_law_783 : decode cL_law 783 = .ok (.iaload, 1) := by exact dch_488.2.2.2.2.2.2.2
theorem dch_496 : (decode cL_law 784 = .ok (.invokevirtual 93, 3)) ∧ (decode cL_law 787 = .ok (.pop, 1)) ∧ (decode cL_law 788 = .ok (.aload_n 2, 1)) ∧ (decode cL_law 789 = .ok (.aload_n 0, 1)) ∧ (decode cL_law 790 = .ok (.iload_n 3, 1)) ∧ (decode cL_law 791 = .ok (.iconst 1, 1)) ∧ (decode cL_law 792 = .ok (.iadd, 1)) ∧ (decode cL_law 793 = .ok (.iaload, 1)) := by decide +kernel
theorem dL_law_784 : decode cL_law 784 = .ok (.invokevirtual 93, 3) := by exact dch_496.1
theorem dL_law_787 : decode cL_law 787 = .ok (.pop, 1) := by exact dch_496.2.1
theorem dL_law_788 : decode cL_law 788 = .ok (.aload_n 2, 1) := by exact dch_496.2.2.1
theorem dL_law_789 : decode cL_law 789 = .ok (.aload_n 0, 1) := by exact dch_496.2.2.2.1
theorem dL_law_790 : decode cL_law 790 = .ok (.iload_n 3, 1) := by exact dch_496.2.2.2.2.1
theorem dL_law_791 : decode cL_law 791 = .ok (.iconst 1, 1) := by exact dch_496.2.2.2.2.2.1
theorem dL_law_792 : decode cL_law 792 = .ok (.iadd, 1) := by exact dch_496.2.2.2.2.2.2.1
theorem dL_law_793 : decode cL_law 793 = .ok (.iaload, 1) := by exact dch_496.2.2.2.2.2.2.2
theorem dch_504 : (decode cL_law 794 = .ok (.aload_n 0, 1)) ∧ (decode cL_law 795 = .ok (.iload_n 3, 1)) ∧ (decode cL_law 796 = .ok (.iconst 2, 1)) ∧ (decode cL_law 797 = .ok (.iadd, 1)) ∧ (decode cL_law 798 = .ok (.iaload, 1)) ∧ (decode cL_law 799 = .ok (.invokevirtual 96, 3)) ∧ (decode cL_law 802 = .ok (.pop, 1)) ∧ (decode cL_law 803 = .ok (.goto 554, 3)) := by decide +kernel
theorem dL_law_794 : decode cL_law 794 = .ok (.aload_n 0, 1) := by exact dch_504.1
theorem dL_law_795 : decode cL_law 795 = .ok (.iload_n 3, 1) := by exact dch_504.2.1
theorem dL_law_796 : decode cL_law 796 = .ok (.iconst 2, 1) := by exact dch_504.2.2.1
theorem dL_law_797 : decode cL_law 797 = .ok (.iadd, 1) := by exact dch_504.2.2.2.1
theorem dL_law_798 : decode cL_law 798 = .ok (.iaload, 1) := by exact dch_504.2.2.2.2.1
theorem dL_law_799 : decode cL_law 799 = .ok (.invokevirtual 96, 3) := by exact dch_504.2.2.2.2.2.1
theorem dL_law_802 : decode cL_law 802 = .ok (.pop, 1) := by exact dch_504.2.2.2.2.2.2.1
theorem dL_law_803 : decode cL_law 803 = .ok (.goto 554, 3) := by exact dch_504.2.2.2.2.2.2.2
theorem dch_512 : (decode cL_law 806 = .ok (.aload_n 1, 1)) ∧ (decode cL_law 807 = .ok (.aload_n 0, 1)) ∧ (decode cL_law 808 = .ok (.iload_n 3, 1)) ∧ (decode cL_law 809 = .ok (.iconst 1, 1)) ∧ (decode cL_law 810 = .ok (.iadd, 1)) ∧ (decode cL_law 811 = .ok (.iaload, 1)) ∧ (decode cL_law 812 = .ok (.aload_n 0, 1)) ∧ (decode cL_law 813 = .ok (.iload_n 3, 1)) := by decide +kernel
theorem dL_law_806 : decode cL_law 806 = .ok (.aload_n 1, 1) := by exact dch_512.1
theorem dL_law_807 : decode cL_law 807 = .ok (.aload_n 0, 1) := by exact dch_512.2.1
theorem dL_law_808 : decode cL_law 808 = .ok (.iload_n 3, 1) := by exact dch_512.2.2.1
theorem dL_law_809 : decode cL_law 809 = .ok (.iconst 1, 1) := by exact dch_512.2.2.2.1
theorem dL_law_810 : decode cL_law 810 = .ok (.iadd, 1) := by exact dch_512.2.2.2.2.1
theorem dL_law_811 : decode cL_law 811 = .ok (.iaload, 1) := by exact dch_512.2.2.2.2.2.1
theorem dL_law_812 : decode cL_law 812 = .ok (.aload_n 0, 1) := by exact dch_512.2.2.2.2.2.2.1
theorem dL_law_813 : decode cL_law 813 = .ok (.iload_n 3, 1) := by exact dch_512.2.2.2.2.2.2.2
theorem dch_520 : (decode cL_law 814 = .ok (.iconst 2, 1)) ∧ (decode cL_law 815 = .ok (.iadd, 1)) ∧ (decode cL_law 816 = .ok (.iaload, 1)) ∧ (decode cL_law 817 = .ok (.invokevirtual 97, 3)) ∧ (decode cL_law 820 = .ok (.pop, 1)) ∧ (decode cL_law 821 = .ok (.aload_n 2, 1)) ∧ (decode cL_law 822 = .ok (.aload_n 0, 1)) ∧ (decode cL_law 823 = .ok (.iload_n 3, 1)) := by decide +kernel
theorem dL_law_814 : decode cL_law 814 = .ok (.iconst 2, 1) := by exact dch_520.1
theorem dL_law_815 : decode cL_law 815 = .ok (.iadd, 1) := by exact dch_520.2.1
theorem dL_law_816 : decode cL_law 816 = .ok (.iaload, 1) := by exact dch_520.2.2.1
theorem dL_law_817 : decode cL_law 817 = .ok (.invokevirtual 97, 3) := by exact dch_520.2.2.2.1
theorem dL_law_820 : decode cL_law 820 = .ok (.pop, 1) := by exact dch_520.2.2.2.2.1
theorem dL_law_821 : decode cL_law 821 = .ok (.aload_n 2, 1) := by exact dch_520.2.2.2.2.2.1
theorem dL_law_822 : decode cL_law 822 = .ok (.aload_n 0, 1) := by exact dch_520.2.2.2.2.2.2.1
theorem dL_law_823 : decode cL_law 823 = .ok (.iload_n 3, 1) := by exact dch_520.2.2.2.2.2.2.2
theorem dch_528 : (decode cL_law 824 = .ok (.iconst 1, 1)) ∧ (decode cL_law 825 = .ok (.iadd, 1)) ∧ (decode cL_law 826 = .ok (.iaload, 1)) ∧ (decode cL_law 827 = .ok (.aload_n 0, 1)) ∧ (decode cL_law 828 = .ok (.iload_n 3, 1)) ∧ (decode cL_law 829 = .ok (.iconst 2, 1)) ∧ (decode cL_law 830 = .ok (.iadd, 1)) ∧ (decode cL_law 831 = .ok (.iaload, 1)) := by decide +kernel
theorem dL_law_824 : decode cL_law 824 = .ok (.iconst 1, 1) := by exact dch_528.1
theorem dL_law_825 : decode cL_law 825 = .ok (.iadd, 1) := by exact dch_528.2.1
theorem dL_law_826 : decode cL_law 826 = .ok (.iaload, 1) := by exact dch_528.2.2.1
theorem dL_law_827 : decode cL_law 827 = .ok (.aload_n 0, 1) := by exact dch_528.2.2.2.1
theorem dL_law_828 : decode cL_law 828 = .ok (.iload_n 3, 1) := by exact dch_528.2.2.2.2.1
theorem dL_law_829 : decode cL_law 829 = .ok (.iconst 2, 1) := by exact dch_528.2.2.2.2.2.1
theorem dL_law_830 : decode cL_law 830 = .ok (.iadd, 1) := by exact dch_528.2.2.2.2.2.2.1
theorem dL_law_831 : decode cL_law 831 = .ok (.iaload, 1) := by exact dch_528.2.2.2.2.2.2.2
theorem dch_536 : (decode cL_law 832 = .ok (.invokevirtual 100, 3)) ∧ (decode cL_law 835 = .ok (.pop, 1)) ∧ (decode cL_law 836 = .ok (.goto 521, 3)) ∧ (decode cL_law 839 = .ok (.aload_n 1, 1)) ∧ (decode cL_law 840 = .ok (.invokevirtual 101, 3)) ∧ (decode cL_law 843 = .ok (.pop, 1)) ∧ (decode cL_law 844 = .ok (.aload_n 2, 1)) ∧ (decode cL_law 845 = .ok (.invokevirtual 104, 3)) := by decide +kernel
theorem dL_law_832 : decode cL_law 832 = .ok (.invokevirtual 100, 3) := by exact dch_536.1
theorem dL_law_835 : decode cL_law 835 = .ok (.pop, 1) := by exact dch_536.2.1
theorem dL_law_836 : decode cL_law 836 = .ok (.goto 521, 3) := by exact dch_536.2.2.1
theorem dL_law_839 : decode cL_law 839 = .ok (.aload_n 1, 1) := by exact dch_536.2.2.2.1
theorem dL_law_840 : decode cL_law 840 = .ok (.invokevirtual 101, 3) := by exact dch_536.2.2.2.2.1
theorem dL_law_843 : decode cL_law 843 = .ok (.pop, 1) := by exact dch_536.2.2.2.2.2.1
theorem dL_law_844 : decode cL_law 844 = .ok (.aload_n 2, 1) := by exact dch_536.2.2.2.2.2.2.1
theorem dL_law_845 : decode cL_law 845 = .ok (.invokevirtual 104, 3) := by exact dch_536.2.2.2.2.2.2.2
theorem dch_544 : (decode cL_law 848 = .ok (.pop, 1)) ∧ (decode cL_law 849 = .ok (.goto 508, 3)) ∧ (decode cL_law 852 = .ok (.aload_n 1, 1)) ∧ (decode cL_law 853 = .ok (.aload_n 0, 1)) ∧ (decode cL_law 854 = .ok (.iload_n 3, 1)) ∧ (decode cL_law 855 = .ok (.iconst 1, 1)) ∧ (decode cL_law 856 = .ok (.iadd, 1)) ∧ (decode cL_law 857 = .ok (.iaload, 1)) := by decide +kernel
theorem dL_law_848 : decode cL_law 848 = .ok (.pop, 1) := by exact dch_544.1
theorem dL_law_849 : decode cL_law 849 = .ok (.goto 508, 3) := by exact dch_544.2.1
theorem dL_law_852 : decode cL_law 852 = .ok (.aload_n 1, 1) := by exact dch_544.2.2.1
theorem dL_law_853 : decode cL_law 853 = .ok (.aload_n 0, 1) := by exact dch_544.2.2.2.1
theorem dL_law_854 : decode cL_law 854 = .ok (.iload_n 3, 1) := by exact dch_544.2.2.2.2.1
theorem dL_law_855 : decode cL_law 855 = .ok (.iconst 1, 1) := by exact dch_544.2.2.2.2.2.1
theorem dL_law_856 : decode cL_law 856 = .ok (.iadd, 1) := by exact dch_544.2.2.2.2.2.2.1
theorem dL_law_857 : decode cL_law 857 = .ok (.iaload, 1) := by exact dch_544.2.2.2.2.2.2.2
theorem dch_552 : (decode cL_law 858 = .ok (.invokevirtual 105, 3)) ∧ (decode cL_law 861 = .ok (.pop, 1)) ∧ (decode cL_law 862 = .ok (.aload_n 2, 1)) ∧ (decode cL_law 863 = .ok (.aload_n 0, 1)) ∧ (decode cL_law 864 = .ok (.iload_n 3, 1)) ∧ (decode cL_law 865 = .ok (.iconst 1, 1)) ∧ (decode cL_law 866 = .ok (.iadd, 1)) ∧ (decode cL_law 867 = .ok (.iaload, 1)) := by decide +kernel
theorem dL_law_858 : decode cL_law 858 = .ok (.invokevirtual 105, 3) := by exact dch_552.1
theorem dL_law_861 : decode cL_law 861 = .ok (.pop, 1) := by exact dch_552.2.1
theorem dL_law_862 : decode cL_law 862 = .ok (.aload_n 2, 1) := by exact dch_552.2.2.1
theorem dL_law_863 : decode cL_law 863 = .ok (.aload_n 0, 1) := by exact dch_552.2.2.2.1
theorem dL_law_864 : decode cL_law 864 = .ok (.iload_n 3, 1) := by exact dch_552.2.2.2.2.1
theorem dL_law_865 : decode cL_law 865 = .ok (.iconst 1, 1) := by exact dch_552.2.2.2.2.2.1
theorem dL_law_866 : decode cL_law 866 = .ok (.iadd, 1) := by exact dch_552.2.2.2.2.2.2.1
theorem dL_law_867 : decode cL_law 867 = .ok (.iaload, 1) := by exact dch_552.2.2.2.2.2.2.2
theorem dch_560 : (decode cL_law 868 = .ok (.invokevirtual 108, 3)) ∧ (decode cL_law 871 = .ok (.pop, 1)) ∧ (decode cL_law 872 = .ok (.goto 485, 3)) ∧ (decode cL_law 875 = .ok (.aload_n 1, 1)) ∧ (decode cL_law 876 = .ok (.aload_n 0, 1)) ∧ (decode cL_law 877 = .ok (.iload_n 3, 1)) ∧ (decode cL_law 878 = .ok (.iconst 1, 1)) ∧ (decode cL_law 879 = .ok (.iadd, 1)) := by decide +kernel
theorem dL_law_868 : decode cL_law 868 = .ok (.invokevirtual 108, 3) := by exact dch_560.1
theorem dL_law_871 : decode cL_law 871 = .ok (.pop, 1) := by exact dch_560.2.1
theorem dL_law_872 : decode cL_law 872 = .ok (.goto 485, 3) := by exact dch_560.2.2.1
theorem dL_law_875 : decode cL_law 875 = .ok (.aload_n 1, 1) := by exact dch_560.2.2.2.1
theorem dL_law_876 : decode cL_law 876 = .ok (.aload_n 0, 1) := by exact dch_560.2.2.2.2.1
theorem dL_law_877 : decode cL_law 877 = .ok (.iload_n 3, 1) := by exact dch_560.2.2.2.2.2.1
theorem dL_law_878 : decode cL_law 878 = .ok (.iconst 1, 1) := by exact dch_560.2.2.2.2.2.2.1
theorem dL_law_879 : decode cL_law 879 = .ok (.iadd, 1) := by exact dch_560.2.2.2.2.2.2.2
theorem dch_568 : (decode cL_law 880 = .ok (.iaload, 1)) ∧ (decode cL_law 881 = .ok (.invokevirtual 109, 3)) ∧ (decode cL_law 884 = .ok (.pop, 1)) ∧ (decode cL_law 885 = .ok (.aload_n 2, 1)) ∧ (decode cL_law 886 = .ok (.aload_n 0, 1)) ∧ (decode cL_law 887 = .ok (.iload_n 3, 1)) ∧ (decode cL_law 888 = .ok (.iconst 1, 1)) ∧ (decode cL_law 889 = .ok (.iadd, 1)) := by decide +kernel
theorem dL_law_880 : decode cL_law 880 = .ok (.iaload, 1) := by exact dch_568.1
theorem dL_law_881 : decode cL_law 881 = .ok (.invokevirtual 109, 3) := by exact dch_568.2.1
theorem dL_law_884 : decode cL_law 884 = .ok (.pop, 1) := by exact dch_568.2.2.1
theorem dL_law_885 : decode cL_law 885 = .ok (.aload_n 2, 1) := by exact dch_568.2.2.2.1
theorem dL_law_886 : decode cL_law 886 = .ok (.aload_n 0, 1) := by exact dch_568.2.2.2.2.1
theorem dL_law_887 : decode cL_law 887 = .ok (.iload_n 3, 1) := by exact dch_568.2.2.2.2.2.1
theorem dL_law_888 : decode cL_law 888 = .ok (.iconst 1, 1) := by exact dch_568.2.2.2.2.2.2.1
theorem dL_law_889 : decode cL_law 889 = .ok (.iadd, 1) := by exact dch_568.2.2.2.2.2.2.2
theorem dch_576 : (decode cL_law 890 = .ok (.iaload, 1)) ∧ (decode cL_law 891 = .ok (.invokevirtual 112, 3)) ∧ (decode cL_law 894 = .ok (.pop, 1)) ∧ (decode cL_law 895 = .ok (.goto 462, 3)) ∧ (decode cL_law 898 = .ok (.aload_n 1, 1)) ∧ (decode cL_law 899 = .ok (.aload_n 0, 1)) ∧ (decode cL_law 900 = .ok (.iload_n 3, 1)) ∧ (decode cL_law 901 = .ok (.iconst 1, 1)) := by decide +kernel
theorem dL_law_890 : decode cL_law 890 = .ok (.iaload, 1) := by exact dch_576.1
theorem dL_law_891 : decode cL_law 891 = .ok (.invokevirtual 112, 3) := by exact dch_576.2.1
theorem dL_law_894 : decode cL_law 894 = .ok (.pop, 1) := by exact dch_576.2.2.1
theorem dL_law_895 : decode cL_law 895 = .ok (.goto 462, 3) := by exact dch_576.2.2.2.1
theorem dL_law_898 : decode cL_law 898 = .ok (.aload_n 1, 1) := by exact dch_576.2.2.2.2.1
theorem dL_law_899 : decode cL_law 899 = .ok (.aload_n 0, 1) := by exact dch_576.2.2.2.2.2.1
theorem dL_law_900 : decode cL_law 900 = .ok (.iload_n 3, 1) := by exact dch_576.2.2.2.2.2.2.1
theorem dL_law_901 : decode cL_law 901 = .ok (.iconst 1, 1) := by exact dch_576.2.2.2.2.2.2.2
theorem dch_584 : (decode cL_law 902 = .ok (.iadd, 1)) ∧ (decode cL_law 903 = .ok (.iaload, 1)) ∧ (decode cL_law 904 = .ok (.aload_n 0, 1)) ∧ (decode cL_law 905 = .ok (.iload_n 3, 1)) ∧ (decode cL_law 906 = .ok (.iconst 2, 1)) ∧ (decode cL_law 907 = .ok (.iadd, 1)) ∧ (decode cL_law 908 = .ok (.iaload, 1)) ∧ (decode cL_law 909 = .ok (.invokevirtual 113, 3)) := by decide +kernel
theorem dL_law_902 : decode cL_law 902 = .ok (.iadd, 1) := by exact dch_584.1
theorem dL_law_903 : decode cL_law 903 = .ok (.iaload, 1) := by exact dch_584.2.1
theorem dL_law_904 : decode cL_law 904 = .ok (.aload_n 0, 1) := by exact dch_584.2.2.1
theorem dL_law_905 : decode cL_law 905 = .ok (.iload_n 3, 1) := by exact dch_584.2.2.2.1
theorem dL_law_906 : decode cL_law 906 = .ok (.iconst 2, 1) := by exact dch_584.2.2.2.2.1
theorem dL_law_907 : decode cL_law 907 = .ok (.iadd, 1) := by exact dch_584.2.2.2.2.2.1
theorem dL_law_908 : decode cL_law 908 = .ok (.iaload, 1) := by exact dch_584.2.2.2.2.2.2.1
theorem dL_law_909 : decode cL_law 909 = .ok (.invokevirtual 113, 3) := by exact dch_584.2.2.2.2.2.2.2
theorem dch_592 : (decode cL_law 912 = .ok (.pop, 1)) ∧ (decode cL_law 913 = .ok (.aload_n 2, 1)) ∧ (decode cL_law 914 = .ok (.aload_n 0, 1)) ∧ (decode cL_law 915 = .ok (.iload_n 3, 1)) ∧ (decode cL_law 916 = .ok (.iconst 1, 1)) ∧ (decode cL_law 917 = .ok (.iadd, 1)) ∧ (decode cL_law 918 = .ok (.iaload, 1)) ∧ (decode cL_law 919 = .ok (.aload_n 0, 1)) := by decide +kernel
theorem dL_law_912 : decode cL_law 912 = .ok (.pop, 1) := by exact dch_592.1
theorem dL_law_913 : decode cL_law 913 = .ok (.aload_n 2, 1) := by exact dch_592.2.1
theorem dL_law_914 : decode cL_law 914 = .ok (.aload_n 0, 1) := by exact dch_592.2.2.1
theorem dL_law_915 : decode cL_law 915 = .ok (.iload_n 3, 1) := by exact dch_592.2.2.2.1
theorem dL_law_916 : decode cL_law 916 = .ok (.iconst 1, 1) := by exact dch_592.2.2.2.2.1
theorem dL_law_917 : decode cL_law 917 = .ok (.iadd, 1) := by exact dch_592.2.2.2.2.2.1
theorem dL_law_918 : decode cL_law 918 = .ok (.iaload, 1) := by exact dch_592.2.2.2.2.2.2.1
theorem dL_law_919 : decode cL_law 919 = .ok (.aload_n 0, 1) := by exact dch_592.2.2.2.2.2.2.2
theorem dch_600 : (decode cL_law 920 = .ok (.iload_n 3, 1)) ∧ (decode cL_law 921 = .ok (.iconst 2, 1)) ∧ (decode cL_law 922 = .ok (.iadd, 1)) ∧ (decode cL_law 923 = .ok (.iaload, 1)) ∧ (decode cL_law 924 = .ok (.invokevirtual 116, 3)) ∧ (decode cL_law 927 = .ok (.pop, 1)) ∧ (decode cL_law 928 = .ok (.goto 429, 3)) ∧ (decode cL_law 931 = .ok (.aload_n 1, 1)) := by decide +kernel
theorem dL_law_920 : decode cL_law 920 = .ok (.iload_n 3, 1) := by exact dch_600.1
theorem dL_law_921 : decode cL_law 921 = .ok (.iconst 2, 1) := by exact dch_600.2.1
theorem dL_law_922 : decode cL_law 922 = .ok (.iadd, 1) := by exact dch_600.2.2.1
theorem dL_law_923 : decode cL_law 923 = .ok (.iaload, 1) := by exact dch_600.2.2.2.1
theorem dL_law_924 : decode cL_law 924 = .ok (.invokevirtual 116, 3) := by exact dch_600.2.2.2.2.1
theorem dL_law_927 : decode cL_law 927 = .ok (.pop, 1) := by exact dch_600.2.2.2.2.2.1
theorem dL_law_928 : decode cL_law 928 = .ok (.goto 429, 3) := by exact dch_600.2.2.2.2.2.2.1
theorem dL_law_931 : decode cL_law 931 = .ok (.aload_n 1, 1) := by exact dch_600.2.2.2.2.2.2.2
theorem dch_608 : (decode cL_law 932 = .ok (.aload_n 0, 1)) ∧ (decode cL_law 933 = .ok (.iload_n 3, 1)) ∧ (decode cL_law 934 = .ok (.iconst 1, 1)) ∧ (decode cL_law 935 = .ok (.iadd, 1)) ∧ (decode cL_law 936 = .ok (.iaload, 1)) ∧ (decode cL_law 937 = .ok (.aload_n 0, 1)) ∧ (decode cL_law 938 = .ok (.iload_n 3, 1)) ∧ (decode cL_law 939 = .ok (.iconst 2, 1)) := by decide +kernel
theorem dL_law_932 : decode cL_law 932 = .ok (.aload_n 0, 1) := by exact dch_608.1
theorem dL_law_933 : decode cL_law 933 = .ok (.iload_n 3, 1) := by exact dch_608.2.1
theorem dL_law_934 : decode cL_law 934 = .ok (.iconst 1, 1) := by exact dch_608.2.2.1
theorem dL_law_935 : decode cL_law 935 = .ok (.iadd, 1) := by exact dch_608.2.2.2.1
theorem dL_law_936 : decode cL_law 936 = .ok (.iaload, 1) := by exact dch_608.2.2.2.2.1
theorem dL_law_937 : decode cL_law 937 = .ok (.aload_n 0, 1) := by exact dch_608.2.2.2.2.2.1
theorem dL_law_938 : decode cL_law 938 = .ok (.iload_n 3, 1) := by exact dch_608.2.2.2.2.2.2.1
theorem dL_law_939 : decode cL_law 939 = .ok (.iconst 2, 1) := by exact dch_608.2.2.2.2.2.2.2
theorem dch_616 : (decode cL_law 940 = .ok (.iadd, 1)) ∧ (decode cL_law 941 = .ok (.iaload, 1)) ∧ (decode cL_law 942 = .ok (.invokevirtual 117, 3)) ∧ (decode cL_law 945 = .ok (.pop, 1)) ∧ (decode cL_law 946 = .ok (.aload_n 2, 1)) ∧ (decode cL_law 947 = .ok (.aload_n 0, 1)) ∧ (decode cL_law 948 = .ok (.iload_n 3, 1)) ∧ (decode cL_law 949 = .ok (.iconst 1, 1)) := by decide +kernel
theorem dL_law_940 : decode cL_law 940 = .ok (.iadd, 1) := by exact dch_616.1
theorem dL_law_941 : decode cL_law 941 = .ok (.iaload, 1) := by exact dch_616.2.1
theorem dL_law_942 : decode cL_law 942 = .ok (.invokevirtual 117, 3) := by exact dch_616.2.2.1
theorem dL_law_945 : decode cL_law 945 = .ok (.pop, 1) := by exact dch_616.2.2.2.1
theorem dL_law_946 : decode cL_law 946 = .ok (.aload_n 2, 1) := by exact dch_616.2.2.2.2.1
theorem dL_law_947 : decode cL_law 947 = .ok (.aload_n 0, 1) := by exact dch_616.2.2.2.2.2.1
theorem dL_law_948 : decode cL_law 948 = .ok (.iload_n 3, 1) := by exact dch_616.2.2.2.2.2.2.1
theorem dL_law_949 : decode cL_law 949 = .ok (.iconst 1, 1) := by exact dch_616.2.2.2.2.2.2.2
theorem dch_624 : (decode cL_law 950 = .ok (.iadd, 1)) ∧ (decode cL_law 951 = .ok (.iaload, 1)) ∧ (decode cL_law 952 = .ok (.aload_n 0, 1)) ∧ (decode cL_law 953 = .ok (.iload_n 3, 1)) ∧ (decode cL_law 954 = .ok (.iconst 2, 1)) ∧ (decode cL_law 955 = .ok (.iadd, 1)) ∧ (decode cL_law 956 = .ok (.iaload, 1)) ∧ (decode cL_law 957 = .ok (.invokevirtual 120, 3)) := by decide +kernel
theorem dL_law_950 : decode cL_law 950 = .ok (.iadd, 1) := by exact dch_624.1
theorem dL_law_951 : decode cL_law 951 = .ok (.iaload, 1) := by exact dch_624.2.1
theorem dL_law_952 : decode cL_law 952 = .ok (.aload_n 0, 1) := by exact dch_624.2.2.1
theorem dL_law_953 : decode cL_law 953 = .ok (.iload_n 3, 1) := by exact dch_624.2.2.2.1
theorem dL_law_954 : decode cL_law 954 = .ok (.iconst 2, 1) := by exact dch_624.2.2.2.2.1
theorem dL_law_955 : decode cL_law 955 = .ok (.iadd, 1) := by exact dch_624.2.2.2.2.2.1
theorem dL_law_956 : decode cL_law 956 = .ok (.iaload, 1) := by exact dch_624.2.2.2.2.2.2.1
theorem dL_law_957 : decode cL_law 957 = .ok (.invokevirtual 120, 3) := by exact dch_624.2.2.2.2.2.2.2
theorem dch_632 : (decode cL_law 960 = .ok (.pop, 1)) ∧ (decode cL_law 961 = .ok (.goto 396, 3)) ∧ (decode cL_law 964 = .ok (.aload_n 1, 1)) ∧ (decode cL_law 965 = .ok (.invokevirtual 121, 3)) ∧ (decode cL_law 968 = .ok (.aload_n 2, 1)) ∧ (decode cL_law 969 = .ok (.invokevirtual 124, 3)) ∧ (decode cL_law 972 = .ok (.if_icmp .eq 385, 3)) ∧ (decode cL_law 975 = .ok (.iconst 0, 1)) := by decide +kernel
theorem dL_law_960 : decode cL_law 960 = .ok (.pop, 1) := by exact dch_632.1
theorem dL_law_961 : decode cL_law 961 = .ok (.goto 396, 3) := by exact dch_632.2.1
theorem dL_law_964 : decode cL_law 964 = .ok (.aload_n 1, 1) := by exact dch_632.2.2.1
theorem dL_law_965 : decode cL_law 965 = .ok (.invokevirtual 121, 3) := by exact dch_632.2.2.2.1
theorem dL_law_968 : decode cL_law 968 = .ok (.aload_n 2, 1) := by exact dch_632.2.2.2.2.1
theorem dL_law_969 : decode cL_law 969 = .ok (.invokevirtual 124, 3) := by exact dch_632.2.2.2.2.2.1
theorem dL_law_972 : decode cL_law 972 = .ok (.if_icmp .eq 385, 3) := by exact dch_632.2.2.2.2.2.2.1
theorem dL_law_975 : decode cL_law 975 = .ok (.iconst 0, 1) := by exact dch_632.2.2.2.2.2.2.2
theorem dch_640 : (decode cL_law 976 = .ok (.ireturn, 1)) ∧ (decode cL_law 977 = .ok (.aload_n 1, 1)) ∧ (decode cL_law 978 = .ok (.invokevirtual 125, 3)) ∧ (decode cL_law 981 = .ok (.pop, 1)) ∧ (decode cL_law 982 = .ok (.aload_n 2, 1)) ∧ (decode cL_law 983 = .ok (.invokevirtual 128, 3)) ∧ (decode cL_law 986 = .ok (.pop, 1)) ∧ (decode cL_law 987 = .ok (.goto 370, 3)) := by decide +kernel
theorem dL_law_976 : decode cL_law 976 = .ok (.ireturn, 1) := by exact dch_640.1
theorem dL_law_977 : decode cL_law 977 = .ok (.aload_n 1, 1) := by exact dch_640.2.1
theorem dL_law_978 : decode cL_law 978 = .ok (.invokevirtual 125, 3) := by exact dch_640.2.2.1
theorem dL_law_981 : decode cL_law 981 = .ok (.pop, 1) := by exact dch_640.2.2.2.1
theorem dL_law_982 : decode cL_law 982 = .ok (.aload_n 2, 1) := by exact dch_640.2.2.2.2.1
theorem dL_law_983 : decode cL_law 983 = .ok (.invokevirtual 128, 3) := by exact dch_640.2.2.2.2.2.1
theorem dL_law_986 : decode cL_law 986 = .ok (.pop, 1) := by exact dch_640.2.2.2.2.2.2.1
theorem dL_law_987 : decode cL_law 987 = .ok (.goto 370, 3) := by exact dch_640.2.2.2.2.2.2.2
theorem dch_648 : (decode cL_law 990 = .ok (.aload_n 1, 1)) ∧ (decode cL_law 991 = .ok (.aload_n 0, 1)) ∧ (decode cL_law 992 = .ok (.iload_n 3, 1)) ∧ (decode cL_law 993 = .ok (.iconst 1, 1)) ∧ (decode cL_law 994 = .ok (.iadd, 1)) ∧ (decode cL_law 995 = .ok (.iaload, 1)) ∧ (decode cL_law 996 = .ok (.aload_n 0, 1)) ∧ (decode cL_law 997 = .ok (.iload_n 3, 1)) := by decide +kernel
theorem dL_law_990 : decode cL_law 990 = .ok (.aload_n 1, 1) := by exact dch_648.1
theorem dL_law_991 : decode cL_law 991 = .ok (.aload_n 0, 1) := by exact dch_648.2.1
theorem dL_law_992 : decode cL_law 992 = .ok (.iload_n 3, 1) := by exact dch_648.2.2.1
theorem dL_law_993 : decode cL_law 993 = .ok (.iconst 1, 1) := by exact dch_648.2.2.2.1
theorem dL_law_994 : decode cL_law 994 = .ok (.iadd, 1) := by exact dch_648.2.2.2.2.1
theorem dL_law_995 : decode cL_law 995 = .ok (.iaload, 1) := by exact dch_648.2.2.2.2.2.1
theorem dL_law_996 : decode cL_law 996 = .ok (.aload_n 0, 1) := by exact dch_648.2.2.2.2.2.2.1
theorem dL_law_997 : decode cL_law 997 = .ok (.iload_n 3, 1) := by exact dch_648.2.2.2.2.2.2.2
theorem dch_656 : (decode cL_law 998 = .ok (.iconst 2, 1)) ∧ (decode cL_law 999 = .ok (.iadd, 1)) ∧ (decode cL_law 1000 = .ok (.iaload, 1)) ∧ (decode cL_law 1001 = .ok (.aload_n 0, 1)) ∧ (decode cL_law 1002 = .ok (.iload_n 3, 1)) ∧ (decode cL_law 1003 = .ok (.iconst 3, 1)) ∧ (decode cL_law 1004 = .ok (.iadd, 1)) ∧ (decode cL_law 1005 = .ok (.iaload, 1)) := by decide +kernel
theorem dL_law_998 : decode cL_law 998 = .ok (.iconst 2, 1) := by exact dch_656.1
theorem dL_law_999 : decode cL_law 999 = .ok (.iadd, 1) := by exact dch_656.2.1
theorem dL_law_1000 : decode cL_law 1000 = .ok (.iaload, 1) := by exact dch_656.2.2.1
theorem dL_law_1001 : decode cL_law 1001 = .ok (.aload_n 0, 1) := by exact dch_656.2.2.2.1
theorem dL_law_1002 : decode cL_law 1002 = .ok (.iload_n 3, 1) := by exact dch_656.2.2.2.2.1
theorem dL_law_1003 : decode cL_law 1003 = .ok (.iconst 3, 1) := by exact dch_656.2.2.2.2.2.1
theorem dL_law_1004 : decode cL_law 1004 = .ok (.iadd, 1) := by exact dch_656.2.2.2.2.2.2.1
theorem dL_law_1005 : decode cL_law 1005 = .ok (.iaload, 1) := by exact dch_656.2.2.2.2.2.2.2
theorem dch_664 : (decode cL_law 1006 = .ok (.invokevirtual 129, 3)) ∧ (decode cL_law 1009 = .ok (.pop, 1)) ∧ (decode cL_law 1010 = .ok (.aload_n 2, 1)) ∧ (decode cL_law 1011 = .ok (.aload_n 0, 1)) ∧ (decode cL_law 1012 = .ok (.iload_n 3, 1)) ∧ (decode cL_law 1013 = .ok (.iconst 1, 1)) ∧ (decode cL_law 1014 = .ok (.iadd, 1)) ∧ (decode cL_law 1015 = .ok (.iaload, 1)) := by decide +kernel
theorem dL_law_1006 : decode cL_law 1006 = .ok (.invokevirtual 129, 3) := by exact dch_664.1
theorem dL_law_1009 : decode cL_law 1009 = .ok (.pop, 1) := by exact dch_664.2.1
theorem dL_law_1010 : decode cL_law 1010 = .ok (.aload_n 2, 1) := by exact dch_664.2.2.1
theorem dL_law_1011 : decode cL_law 1011 = .ok (.aload_n 0, 1) := by exact dch_664.2.2.2.1
theorem dL_law_1012 : decode cL_law 1012 = .ok (.iload_n 3, 1) := by exact dch_664.2.2.2.2.1
theorem dL_law_1013 : decode cL_law 1013 = .ok (.iconst 1, 1) := by exact dch_664.2.2.2.2.2.1
theorem dL_law_1014 : decode cL_law 1014 = .ok (.iadd, 1) := by exact dch_664.2.2.2.2.2.2.1
theorem dL_law_1015 : decode cL_law 1015 = .ok (.iaload, 1) := by exact dch_664.2.2.2.2.2.2.2
theorem dch_672 : (decode cL_law 1016 = .ok (.aload_n 0, 1)) ∧ (decode cL_law 1017 = .ok (.iload_n 3, 1)) ∧ (decode cL_law 1018 = .ok (.iconst 2, 1)) ∧ (decode cL_law 1019 = .ok (.iadd, 1)) ∧ (decode cL_law 1020 = .ok (.iaload, 1)) ∧ (decode cL_law 1021 = .ok (.aload_n 0, 1)) ∧ (decode cL_law 1022 = .ok (.iload_n 3, 1)) ∧ (decode cL_law 1023 = .ok (.iconst 3, 1)) := by decide +kernel
theorem dL_law_1016 : decode cL_law 1016 = .ok (.aload_n 0, 1) := by exact dch_672.1
theorem dL_law_1017 : decode cL_law 1017 = .ok (.iload_n 3, 1) := by exact dch_672.2.1
theorem dL_law_1018 : decode cL_law 1018 = .ok (.iconst 2, 1) := by exact dch_672.2.2.1
theorem dL_law_1019 : decode cL_law 1019 = .ok (.iadd, 1) := by exact dch_672.2.2.2.1
theorem dL_law_1020 : decode cL_law 1020 = .ok (.iaload, 1) := by exact dch_672.2.2.2.2.1
theorem dL_law_1021 : decode cL_law 1021 = .ok (.aload_n 0, 1) := by exact dch_672.2.2.2.2.2.1
theorem dL_law_1022 : decode cL_law 1022 = .ok (.iload_n 3, 1) := by exact dch_672.2.2.2.2.2.2.1
theorem dL_law_1023 : decode cL_law 1023 = .ok (.iconst 3, 1) := by exact dch_672.2.2.2.2.2.2.2
theorem dch_680 : (decode cL_law 1024 = .ok (.iadd, 1)) ∧ (decode cL_law 1025 = .ok (.iaload, 1)) ∧ (decode cL_law 1026 = .ok (.invokevirtual 132, 3)) ∧ (decode cL_law 1029 = .ok (.pop, 1)) ∧ (decode cL_law 1030 = .ok (.goto 327, 3)) ∧ (decode cL_law 1033 = .ok (.aload_n 1, 1)) ∧ (decode cL_law 1034 = .ok (.aload_n 0, 1)) ∧ (decode cL_law 1035 = .ok (.iload_n 3, 1)) := by decide +kernel
theorem dL_law_1024 : decode cL_law 1024 = .ok (.iadd, 1) := by exact dch_680.1
theorem dL_law_1025 : decode cL_law 1025 = .ok (.iaload, 1) := by exact dch_680.2.1
theorem dL_law_1026 : decode cL_law 1026 = .ok (.invokevirtual 132, 3) := by exact dch_680.2.2.1
theorem dL_law_1029 : decode cL_law 1029 = .ok (.pop, 1) := by exact dch_680.2.2.2.1
theorem dL_law_1030 : decode cL_law 1030 = .ok (.goto 327, 3) := by exact dch_680.2.2.2.2.1
theorem dL_law_1033 : decode cL_law 1033 = .ok (.aload_n 1, 1) := by exact dch_680.2.2.2.2.2.1
theorem dL_law_1034 : decode cL_law 1034 = .ok (.aload_n 0, 1) := by exact dch_680.2.2.2.2.2.2.1
theorem dL_law_1035 : decode cL_law 1035 = .ok (.iload_n 3, 1) := by exact dch_680.2.2.2.2.2.2.2
theorem dch_688 : (decode cL_law 1036 = .ok (.iconst 1, 1)) ∧ (decode cL_law 1037 = .ok (.iadd, 1)) ∧ (decode cL_law 1038 = .ok (.iaload, 1)) ∧ (decode cL_law 1039 = .ok (.invokevirtual 133, 3)) ∧ (decode cL_law 1042 = .ok (.pop, 1)) ∧ (decode cL_law 1043 = .ok (.aload_n 2, 1)) ∧ (decode cL_law 1044 = .ok (.aload_n 0, 1)) ∧ (decode cL_law 1045 = .ok (.iload_n 3, 1)) := by decide +kernel
theorem dL_law_1036 : decode cL_law 1036 = .ok (.iconst 1, 1) := by exact dch_688.1
theorem dL_law_1037 : decode cL_law 1037 = .ok (.iadd, 1) := by exact dch_688.2.1
theorem dL_law_1038 : decode cL_law 1038 = .ok (.iaload, 1) := by exact dch_688.2.2.1
theorem dL_law_1039 : decode cL_law 1039 = .ok (.invokevirtual 133, 3) := by exact dch_688.2.2.2.1
theorem dL_law_1042 : decode cL_law 1042 = .ok (.pop, 1) := by exact dch_688.2.2.2.2.1
theorem dL_law_1043 : decode cL_law 1043 = .ok (.aload_n 2, 1) := by exact dch_688.2.2.2.2.2.1
theorem dL_law_1044 : decode cL_law 1044 = .ok (.aload_n 0, 1) := by exact dch_688.2.2.2.2.2.2.1
theorem dL_law_1045 : decode cL_law 1045 = .ok (.iload_n 3, 1) := by exact dch_688.2.2.2.2.2.2.2
theorem dch_696 : (decode cL_law 1046 = .ok (.iconst 1, 1)) ∧ (decode cL_law 1047 = .ok (.iadd, 1)) ∧ (decode cL_law 1048 = .ok (.iaload, 1)) ∧ (decode cL_law 1049 = .ok (.invokevirtual 136, 3)) ∧ (decode cL_law 1052 = .ok (.pop, 1)) ∧ (decode cL_law 1053 = .ok (.goto 304, 3)) ∧ (decode cL_law 1056 = .ok (.aload_n 1, 1)) ∧ (decode cL_law 1057 = .ok (.aload_n 0, 1)) := by decide +kernel
theorem dL_law_1046 : decode cL_law 1046 = .ok (.iconst 1, 1) := by exact dch_696.1
theorem dL_law_1047 : decode cL_law 1047 = .ok (.iadd, 1) := by exact dch_696.2.1
theorem dL_law_1048 : decode cL_law 1048 = .ok (.iaload, 1) := by exact dch_696.2.2.1
theorem dL_law_1049 : decode cL_law 1049 = .ok (.invokevirtual 136, 3) := by exact dch_696.2.2.2.1
theorem dL_law_1052 : decode cL_law 1052 = .ok (.pop, 1) := by exact dch_696.2.2.2.2.1
theorem dL_law_1053 : decode cL_law 1053 = .ok (.goto 304, 3) := by exact dch_696.2.2.2.2.2.1
theorem dL_law_1056 : decode cL_law 1056 = .ok (.aload_n 1, 1) := by exact dch_696.2.2.2.2.2.2.1
theorem dL_law_1057 : decode cL_law 1057 = .ok (.aload_n 0, 1) := by exact dch_696.2.2.2.2.2.2.2
theorem dch_704 : (decode cL_law 1058 = .ok (.iload_n 3, 1)) ∧ (decode cL_law 1059 = .ok (.iconst 1, 1)) ∧ (decode cL_law 1060 = .ok (.iadd, 1)) ∧ (decode cL_law 1061 = .ok (.iaload, 1)) ∧ (decode cL_law 1062 = .ok (.aload_n 0, 1)) ∧ (decode cL_law 1063 = .ok (.iload_n 3, 1)) ∧ (decode cL_law 1064 = .ok (.iconst 2, 1)) ∧ (decode cL_law 1065 = .ok (.iadd, 1)) := by decide +kernel
theorem dL_law_1058 : decode cL_law 1058 = .ok (.iload_n 3, 1) := by exact dch_704.1
theorem dL_law_1059 : decode cL_law 1059 = .ok (.iconst 1, 1) := by exact dch_704.2.1
theorem dL_law_1060 : decode cL_law 1060 = .ok (.iadd, 1) := by exact dch_704.2.2.1
theorem dL_law_1061 : decode cL_law 1061 = .ok (.iaload, 1) := by exact dch_704.2.2.2.1
theorem dL_law_1062 : decode cL_law 1062 = .ok (.aload_n 0, 1) := by exact dch_704.2.2.2.2.1
theorem dL_law_1063 : decode cL_law 1063 = .ok (.iload_n 3, 1) := by exact dch_704.2.2.2.2.2.1
theorem dL_law_1064 : decode cL_law 1064 = .ok (.iconst 2, 1) := by exact dch_704.2.2.2.2.2.2.1
theorem dL_law_1065 : decode cL_law 1065 = .ok (.iadd, 1) := by exact dch_704.2.2.2.2.2.2.2
theorem dch_712 : (decode cL_law 1066 = .ok (.iaload, 1)) ∧ (decode cL_law 1067 = .ok (.invokevirtual 137, 3)) ∧ (decode cL_law 1070 = .ok (.pop, 1)) ∧ (decode cL_law 1071 = .ok (.aload_n 2, 1)) ∧ (decode cL_law 1072 = .ok (.aload_n 0, 1)) ∧ (decode cL_law 1073 = .ok (.iload_n 3, 1)) ∧ (decode cL_law 1074 = .ok (.iconst 1, 1)) ∧ (decode cL_law 1075 = .ok (.iadd, 1)) := by decide +kernel
theorem dL_law_1066 : decode cL_law 1066 = .ok (.iaload, 1) := by exact dch_712.1
theorem dL_law_1067 : decode cL_law 1067 = .ok (.invokevirtual 137, 3) := by exact dch_712.2.1
theorem dL_law_1070 : decode cL_law 1070 = .ok (.pop, 1) := by exact dch_712.2.2.1
theorem dL_law_1071 : decode cL_law 1071 = .ok (.aload_n 2, 1) := by exact dch_712.2.2.2.1
theorem dL_law_1072 : decode cL_law 1072 = .ok (.aload_n 0, 1) := by exact dch_712.2.2.2.2.1
theorem dL_law_1073 : decode cL_law 1073 = .ok (.iload_n 3, 1) := by exact dch_712.2.2.2.2.2.1
theorem dL_law_1074 : decode cL_law 1074 = .ok (.iconst 1, 1) := by exact dch_712.2.2.2.2.2.2.1
theorem dL_law_1075 : decode cL_law 1075 = .ok (.iadd, 1) := by exact dch_712.2.2.2.2.2.2.2
theorem dch_720 : (decode cL_law 1076 = .ok (.iaload, 1)) ∧ (decode cL_law 1077 = .ok (.aload_n 0, 1)) ∧ (decode cL_law 1078 = .ok (.iload_n 3, 1)) ∧ (decode cL_law 1079 = .ok (.iconst 2, 1)) ∧ (decode cL_law 1080 = .ok (.iadd, 1)) ∧ (decode cL_law 1081 = .ok (.iaload, 1)) ∧ (decode cL_law 1082 = .ok (.invokevirtual 140, 3)) ∧ (decode cL_law 1085 = .ok (.pop, 1)) := by decide +kernel
theorem dL_law_1076 : decode cL_law 1076 = .ok (.iaload, 1) := by exact dch_720.1
theorem dL_law_1077 : decode cL_law 1077 = .ok (.aload_n 0, 1) := by exact dch_720.2.1
theorem dL_law_1078 : decode cL_law 1078 = .ok (.iload_n 3, 1) := by exact dch_720.2.2.1
theorem dL_law_1079 : decode cL_law 1079 = .ok (.iconst 2, 1) := by exact dch_720.2.2.2.1
theorem dL_law_1080 : decode cL_law 1080 = .ok (.iadd, 1) := by exact dch_720.2.2.2.2.1
theorem dL_law_1081 : decode cL_law 1081 = .ok (.iaload, 1) := by exact dch_720.2.2.2.2.2.1
theorem dL_law_1082 : decode cL_law 1082 = .ok (.invokevirtual 140, 3) := by exact dch_720.2.2.2.2.2.2.1
theorem dL_law_1085 : decode cL_law 1085 = .ok (.pop, 1) := by exact dch_720.2.2.2.2.2.2.2
theorem dch_728 : (decode cL_law 1086 = .ok (.goto 271, 3)) ∧ (decode cL_law 1089 = .ok (.aload_n 1, 1)) ∧ (decode cL_law 1090 = .ok (.aload_n 0, 1)) ∧ (decode cL_law 1091 = .ok (.iload_n 3, 1)) ∧ (decode cL_law 1092 = .ok (.iconst 1, 1)) ∧ (decode cL_law 1093 = .ok (.iadd, 1)) ∧ (decode cL_law 1094 = .ok (.iaload, 1)) ∧ (decode cL_law 1095 = .ok (.aload_n 0, 1)) := by decide +kernel
theorem dL_law_1086 : decode cL_law 1086 = .ok (.goto 271, 3) := by exact dch_728.1
theorem dL_law_1089 : decode cL_law 1089 = .ok (.aload_n 1, 1) := by exact dch_728.2.1
theorem dL_law_1090 : decode cL_law 1090 = .ok (.aload_n 0, 1) := by exact dch_728.2.2.1
theorem dL_law_1091 : decode cL_law 1091 = .ok (.iload_n 3, 1) := by exact dch_728.2.2.2.1
theorem dL_law_1092 : decode cL_law 1092 = .ok (.iconst 1, 1) := by exact dch_728.2.2.2.2.1
theorem dL_law_1093 : decode cL_law 1093 = .ok (.iadd, 1) := by exact dch_728.2.2.2.2.2.1
theorem dL_law_1094 : decode cL_law 1094 = .ok (.iaload, 1) := by exact dch_728.2.2.2.2.2.2.1
theorem dL_law_1095 : decode cL_law 1095 = .ok (.aload_n 0, 1) := by exact dch_728.2.2.2.2.2.2.2
theorem dch_736 : (decode cL_law 1096 = .ok (.iload_n 3, 1)) ∧ (decode cL_law 1097 = .ok (.iconst 2, 1)) ∧ (decode cL_law 1098 = .ok (.iadd, 1)) ∧ (decode cL_law 1099 = .ok (.iaload, 1)) ∧ (decode cL_law 1100 = .ok (.aload_n 0, 1)) ∧ (decode cL_law 1101 = .ok (.iload_n 3, 1)) ∧ (decode cL_law 1102 = .ok (.iconst 3, 1)) ∧ (decode cL_law 1103 = .ok (.iadd, 1)) := by decide +kernel
theorem dL_law_1096 : decode cL_law 1096 = .ok (.iload_n 3, 1) := by exact dch_736.1
theorem dL_law_1097 : decode cL_law 1097 = .ok (.iconst 2, 1) := by exact dch_736.2.1
theorem dL_law_1098 : decode cL_law 1098 = .ok (.iadd, 1) := by exact dch_736.2.2.1
theorem dL_law_1099 : decode cL_law 1099 = .ok (.iaload, 1) := by exact dch_736.2.2.2.1
theorem dL_law_1100 : decode cL_law 1100 = .ok (.aload_n 0, 1) := by exact dch_736.2.2.2.2.1
theorem dL_law_1101 : decode cL_law 1101 = .ok (.iload_n 3, 1) := by exact dch_736.2.2.2.2.2.1
theorem dL_law_1102 : decode cL_law 1102 = .ok (.iconst 3, 1) := by exact dch_736.2.2.2.2.2.2.1
theorem dL_law_1103 : decode cL_law 1103 = .ok (.iadd, 1) := by exact dch_736.2.2.2.2.2.2.2
theorem dch_744 : (decode cL_law 1104 = .ok (.iaload, 1)) ∧ (decode cL_law 1105 = .ok (.invokevirtual 141, 3)) ∧ (decode cL_law 1108 = .ok (.pop, 1)) ∧ (decode cL_law 1109 = .ok (.aload_n 2, 1)) ∧ (decode cL_law 1110 = .ok (.aload_n 0, 1)) ∧ (decode cL_law 1111 = .ok (.iload_n 3, 1)) ∧ (decode cL_law 1112 = .ok (.iconst 1, 1)) ∧ (decode cL_law 1113 = .ok (.iadd, 1)) := by decide +kernel
theorem dL_law_1104 : decode cL_law 1104 = .ok (.iaload, 1) := by exact dch_744.1
theorem dL_law_1105 : decode cL_law 1105 = .ok (.invokevirtual 141, 3) := by exact dch_744.2.1
theorem dL_law_1108 : decode cL_law 1108 = .ok (.pop, 1) := by exact dch_744.2.2.1
theorem dL_law_1109 : decode cL_law 1109 = .ok (.aload_n 2, 1) := by exact dch_744.2.2.2.1
theorem dL_law_1110 : decode cL_law 1110 = .ok (.aload_n 0, 1) := by exact dch_744.2.2.2.2.1
theorem dL_law_1111 : decode cL_law 1111 = .ok (.iload_n 3, 1) := by exact dch_744.2.2.2.2.2.1
theorem dL_law_1112 : decode cL_law 1112 = .ok (.iconst 1, 1) := by exact dch_744.2.2.2.2.2.2.1
theorem dL_law_1113 : decode cL_law 1113 = .ok (.iadd, 1) := by exact dch_744.2.2.2.2.2.2.2
theorem dch_752 : (decode cL_law 1114 = .ok (.iaload, 1)) ∧ (decode cL_law 1115 = .ok (.aload_n 0, 1)) ∧ (decode cL_law 1116 = .ok (.iload_n 3, 1)) ∧ (decode cL_law 1117 = .ok (.iconst 2, 1)) ∧ (decode cL_law 1118 = .ok (.iadd, 1)) ∧ (decode cL_law 1119 = .ok (.iaload, 1)) ∧ (decode cL_law 1120 = .ok (.aload_n 0, 1)) ∧ (decode cL_law 1121 = .ok (.iload_n 3, 1)) := by decide +kernel
theorem dL_law_1114 : decode cL_law 1114 = .ok (.iaload, 1) := by exact dch_752.1
theorem dL_law_1115 : decode cL_law 1115 = .ok (.aload_n 0, 1) := by exact dch_752.2.1
theorem dL_law_1116 : decode cL_law 1116 = .ok (.iload_n 3, 1) := by exact dch_752.2.2.1
theorem dL_law_1117 : decode cL_law 1117 = .ok (.iconst 2, 1) := by exact dch_752.2.2.2.1
theorem dL_law_1118 : decode cL_law 1118 = .ok (.iadd, 1) := by exact dch_752.2.2.2.2.1
theorem dL_law_1119 : decode cL_law 1119 = .ok (.iaload, 1) := by exact dch_752.2.2.2.2.2.1
theorem dL_law_1120 : decode cL_law 1120 = .ok (.aload_n 0, 1) := by exact dch_752.2.2.2.2.2.2.1
theorem dL_law_1121 : decode cL_law 1121 = .ok (.iload_n 3, 1) := by exact dch_752.2.2.2.2.2.2.2
theorem dch_760 : (decode cL_law 1122 = .ok (.iconst 3, 1)) ∧ (decode cL_law 1123 = .ok (.iadd, 1)) ∧ (decode cL_law 1124 = .ok (.iaload, 1)) ∧ (decode cL_law 1125 = .ok (.invokevirtual 144, 3)) ∧ (decode cL_law 1128 = .ok (.pop, 1)) ∧ (decode cL_law 1129 = .ok (.goto 228, 3)) ∧ (decode cL_law 1132 = .ok (.aload_n 1, 1)) ∧ (decode cL_law 1133 = .ok (.aload_n 0, 1)) := by decide +kernel
theorem dL_law_1122 : decode cL_law 1122 = .ok (.iconst 3, 1) := by exact dch_760.1
theorem dL_law_1123 : decode cL_law 1123 = .ok (.iadd, 1) := by exact dch_760.2.1
theorem dL_law_1124 : decode cL_law 1124 = .ok (.iaload, 1) := by exact dch_760.2.2.1
theorem dL_law_1125 : decode cL_law 1125 = .ok (.invokevirtual 144, 3) := by exact dch_760.2.2.2.1
theorem dL_law_1128 : decode cL_law 1128 = .ok (.pop, 1) := by exact dch_760.2.2.2.2.1
theorem dL_law_1129 : decode cL_law 1129 = .ok (.goto 228, 3) := by exact dch_760.2.2.2.2.2.1
theorem dL_law_1132 : decode cL_law 1132 = .ok (.aload_n 1, 1) := by exact dch_760.2.2.2.2.2.2.1
theorem dL_law_1133 : decode cL_law 1133 = .ok (.aload_n 0, 1) := by exact dch_760.2.2.2.2.2.2.2
theorem dch_768 : (decode cL_law 1134 = .ok (.iload_n 3, 1)) ∧ (decode cL_law 1135 = .ok (.iconst 1, 1)) ∧ (decode cL_law 1136 = .ok (.iadd, 1)) ∧ (decode cL_law 1137 = .ok (.iaload, 1)) ∧ (decode cL_law 1138 = .ok (.aload_n 0, 1)) ∧ (decode cL_law 1139 = .ok (.iload_n 3, 1)) ∧ (decode cL_law 1140 = .ok (.iconst 2, 1)) ∧ (decode cL_law 1141 = .ok (.iadd, 1)) := by decide +kernel
theorem dL_law_1134 : decode cL_law 1134 = .ok (.iload_n 3, 1) := by exact dch_768.1
theorem dL_law_1135 : decode cL_law 1135 = .ok (.iconst 1, 1) := by exact dch_768.2.1
theorem dL_law_1136 : decode cL_law 1136 = .ok (.iadd, 1) := by exact dch_768.2.2.1
theorem dL_law_1137 : decode cL_law 1137 = .ok (.iaload, 1) := by exact dch_768.2.2.2.1
theorem dL_law_1138 : decode cL_law 1138 = .ok (.aload_n 0, 1) := by exact dch_768.2.2.2.2.1
theorem dL_law_1139 : decode cL_law 1139 = .ok (.iload_n 3, 1) := by exact dch_768.2.2.2.2.2.1
theorem dL_law_1140 : decode cL_law 1140 = .ok (.iconst 2, 1) := by exact dch_768.2.2.2.2.2.2.1
theorem dL_law_1141 : decode cL_law 1141 = .ok (.iadd, 1) := by exact dch_768.2.2.2.2.2.2.2
theorem dch_776 : (decode cL_law 1142 = .ok (.iaload, 1)) ∧ (decode cL_law 1143 = .ok (.aload_n 0, 1)) ∧ (decode cL_law 1144 = .ok (.iload_n 3, 1)) ∧ (decode cL_law 1145 = .ok (.iconst 3, 1)) ∧ (decode cL_law 1146 = .ok (.iadd, 1)) ∧ (decode cL_law 1147 = .ok (.iaload, 1)) ∧ (decode cL_law 1148 = .ok (.i2l, 1)) ∧ (decode cL_law 1149 = .ok (.bipush 32, 2)) := by decide +kernel
theorem dL_law_1142 : decode cL_law 1142 = .ok (.iaload, 1) := by exact dch_776.1
theorem dL_law_1143 : decode cL_law 1143 = .ok (.aload_n 0, 1) := by exact dch_776.2.1
theorem dL_law_1144 : decode cL_law 1144 = .ok (.iload_n 3, 1) := by exact dch_776.2.2.1
theorem dL_law_1145 : decode cL_law 1145 = .ok (.iconst 3, 1) := by exact dch_776.2.2.2.1
theorem dL_law_1146 : decode cL_law 1146 = .ok (.iadd, 1) := by exact dch_776.2.2.2.2.1
theorem dL_law_1147 : decode cL_law 1147 = .ok (.iaload, 1) := by exact dch_776.2.2.2.2.2.1
theorem dL_law_1148 : decode cL_law 1148 = .ok (.i2l, 1) := by exact dch_776.2.2.2.2.2.2.1
theorem dL_law_1149 : decode cL_law 1149 = .ok (.bipush 32, 2) := by exact dch_776.2.2.2.2.2.2.2
theorem dch_784 : (decode cL_law 1151 = .ok (.lshl, 1)) ∧ (decode cL_law 1152 = .ok (.aload_n 0, 1)) ∧ (decode cL_law 1153 = .ok (.iload_n 3, 1)) ∧ (decode cL_law 1154 = .ok (.iconst 4, 1)) ∧ (decode cL_law 1155 = .ok (.iadd, 1)) ∧ (decode cL_law 1156 = .ok (.iaload, 1)) ∧ (decode cL_law 1157 = .ok (.i2l, 1)) ∧ (decode cL_law 1158 = .ok (.ldc2_w 145, 3)) := by decide +kernel
theorem dL_law_1151 : decode cL_law 1151 = .ok (.lshl, 1) := by exact dch_784.1
theorem dL_law_1152 : decode cL_law 1152 = .ok (.aload_n 0, 1) := by exact dch_784.2.1
theorem dL_law_1153 : decode cL_law 1153 = .ok (.iload_n 3, 1) := by exact dch_784.2.2.1
theorem dL_law_1154 : decode cL_law 1154 = .ok (.iconst 4, 1) := by exact dch_784.2.2.2.1
theorem dL_law_1155 : decode cL_law 1155 = .ok (.iadd, 1) := by exact dch_784.2.2.2.2.1
theorem dL_law_1156 : decode cL_law 1156 = .ok (.iaload, 1) := by exact dch_784.2.2.2.2.2.1
theorem dL_law_1157 : decode cL_law 1157 = .ok (.i2l, 1) := by exact dch_784.2.2.2.2.2.2.1
theorem dL_law_1158 : decode cL_law 1158 = .ok (.ldc2_w 145, 3) := by exact dch_784.2.2.2.2.2.2.2
theorem dch_792 : (decode cL_law 1161 = .ok (.land, 1)) ∧ (decode cL_law 1162 = .ok (.lor, 1)) ∧ (decode cL_law 1163 = .ok (.invokevirtual 147, 3)) ∧ (decode cL_law 1166 = .ok (.pop, 1)) ∧ (decode cL_law 1167 = .ok (.aload_n 2, 1)) ∧ (decode cL_law 1168 = .ok (.aload_n 0, 1)) ∧ (decode cL_law 1169 = .ok (.iload_n 3, 1)) ∧ (decode cL_law 1170 = .ok (.iconst 1, 1)) := by decide +kernel
theorem dL_law_1161 : decode cL_law 1161 = .ok (.land, 1) := by exact dch_792.1
theorem dL_law_1162 : decode cL_law 1162 = .ok (.lor, 1) := by exact dch_792.2.1
theorem dL_law_1163 : decode cL_law 1163 = .ok (.invokevirtual 147, 3) := by exact dch_792.2.2.1
theorem dL_law_1166 : decode cL_law 1166 = .ok (.pop, 1) := by exact dch_792.2.2.2.1
theorem dL_law_1167 : decode cL_law 1167 = .ok (.aload_n 2, 1) := by exact dch_792.2.2.2.2.1
theorem dL_law_1168 : decode cL_law 1168 = .ok (.aload_n 0, 1) := by exact dch_792.2.2.2.2.2.1
theorem dL_law_1169 : decode cL_law 1169 = .ok (.iload_n 3, 1) := by exact dch_792.2.2.2.2.2.2.1
theorem dL_law_1170 : decode cL_law 1170 = .ok (.iconst 1, 1) := by exact dch_792.2.2.2.2.2.2.2
theorem dch_800 : (decode cL_law 1171 = .ok (.iadd, 1)) ∧ (decode cL_law 1172 = .ok (.iaload, 1)) ∧ (decode cL_law 1173 = .ok (.aload_n 0, 1)) ∧ (decode cL_law 1174 = .ok (.iload_n 3, 1)) ∧ (decode cL_law 1175 = .ok (.iconst 2, 1)) ∧ (decode cL_law 1176 = .ok (.iadd, 1)) ∧ (decode cL_law 1177 = .ok (.iaload, 1)) ∧ (decode cL_law 1178 = .ok (.aload_n 0, 1)) := by decide +kernel
theorem dL_law_1171 : decode cL_law 1171 = .ok (.iadd, 1) := by exact dch_800.1
theorem dL_law_1172 : decode cL_law 1172 = .ok (.iaload, 1) := by exact dch_800.2.1
theorem dL_law_1173 : decode cL_law 1173 = .ok (.aload_n 0, 1) := by exact dch_800.2.2.1
theorem dL_law_1174 : decode cL_law 1174 = .ok (.iload_n 3, 1) := by exact dch_800.2.2.2.1
theorem dL_law_1175 : decode cL_law 1175 = .ok (.iconst 2, 1) := by exact dch_800.2.2.2.2.1
theorem dL_law_1176 : decode cL_law 1176 = .ok (.iadd, 1) := by exact dch_800.2.2.2.2.2.1
theorem dL_law_1177 : decode cL_law 1177 = .ok (.iaload, 1) := by exact dch_800.2.2.2.2.2.2.1
theorem dL_law_1178 : decode cL_law 1178 = .ok (.aload_n 0, 1) := by exact dch_800.2.2.2.2.2.2.2
theorem dch_808 : (decode cL_law 1179 = .ok (.iload_n 3, 1)) ∧ (decode cL_law 1180 = .ok (.iconst 3, 1)) ∧ (decode cL_law 1181 = .ok (.iadd, 1)) ∧ (decode cL_law 1182 = .ok (.iaload, 1)) ∧ (decode cL_law 1183 = .ok (.i2l, 1)) ∧ (decode cL_law 1184 = .ok (.bipush 32, 2)) ∧ (decode cL_law 1186 = .ok (.lshl, 1)) ∧ (decode cL_law 1187 = .ok (.aload_n 0, 1)) := by decide +kernel
theorem dL_law_1179 : decode cL_law 1179 = .ok (.iload_n 3, 1) := by exact dch_808.1
theorem dL_law_1180 : decode cL_law 1180 = .ok (.iconst 3, 1) := by exact dch_808.2.1
theorem dL_law_1181 : decode cL_law 1181 = .ok (.iadd, 1) := by exact dch_808.2.2.1
theorem dL_law_1182 : decode cL_law 1182 = .ok (.iaload, 1) := by exact dch_808.2.2.2.1
theorem dL_law_1183 : decode cL_law 1183 = .ok (.i2l, 1) := by exact dch_808.2.2.2.2.1
theorem dL_law_1184 : decode cL_law 1184 = .ok (.bipush 32, 2) := by exact dch_808.2.2.2.2.2.1
theorem dL_law_1186 : decode cL_law 1186 = .ok (.lshl, 1) := by exact dch_808.2.2.2.2.2.2.1
theorem dL_law_1187 : decode cL_law 1187 = .ok (.aload_n 0, 1) := by exact dch_808.2.2.2.2.2.2.2
theorem dch_816 : (decode cL_law 1188 = .ok (.iload_n 3, 1)) ∧ (decode cL_law 1189 = .ok (.iconst 4, 1)) ∧ (decode cL_law 1190 = .ok (.iadd, 1)) ∧ (decode cL_law 1191 = .ok (.iaload, 1)) ∧ (decode cL_law 1192 = .ok (.i2l, 1)) ∧ (decode cL_law 1193 = .ok (.ldc2_w 145, 3)) ∧ (decode cL_law 1196 = .ok (.land, 1)) ∧ (decode cL_law 1197 = .ok (.lor, 1)) := by decide +kernel
theorem dL_law_1188 : decode cL_law 1188 = .ok (.iload_n 3, 1) := by exact dch_816.1
theorem dL_law_1189 : decode cL_law 1189 = .ok (.iconst 4, 1) := by exact dch_816.2.1
theorem dL_law_1190 : decode cL_law 1190 = .ok (.iadd, 1) := by exact dch_816.2.2.1
theorem dL_law_1191 : decode cL_law 1191 = .ok (.iaload, 1) := by exact dch_816.2.2.2.1
theorem dL_law_1192 : decode cL_law 1192 = .ok (.i2l, 1) := by exact dch_816.2.2.2.2.1
theorem dL_law_1193 : decode cL_law 1193 = .ok (.ldc2_w 145, 3) := by exact dch_816.2.2.2.2.2.1
theorem dL_law_1196 : decode cL_law 1196 = .ok (.land, 1) := by exact dch_816.2.2.2.2.2.2.1
theorem dL_law_1197 : decode cL_law 1197 = .ok (.lor, 1) := by exact dch_816.2.2.2.2.2.2.2
theorem dch_824 : (decode cL_law 1198 = .ok (.invokevirtual 151, 3)) ∧ (decode cL_law 1201 = .ok (.pop, 1)) ∧ (decode cL_law 1202 = .ok (.goto 155, 3)) ∧ (decode cL_law 1205 = .ok (.aload_n 1, 1)) ∧ (decode cL_law 1206 = .ok (.aload_n 0, 1)) ∧ (decode cL_law 1207 = .ok (.iload_n 3, 1)) ∧ (decode cL_law 1208 = .ok (.iconst 1, 1)) ∧ (decode cL_law 1209 = .ok (.iadd, 1)) := by decide +kernel
theorem dL_law_1198 : decode cL_law 1198 = .ok (.invokevirtual 151, 3) := by exact dch_824.1
theorem dL_law_1201 : decode cL_law 1201 = .ok (.pop, 1) := by exact dch_824.2.1
theorem dL_law_1202 : decode cL_law 1202 = .ok (.goto 155, 3) := by exact dch_824.2.2.1
theorem dL_law_1205 : decode cL_law 1205 = .ok (.aload_n 1, 1) := by exact dch_824.2.2.2.1
theorem dL_law_1206 : decode cL_law 1206 = .ok (.aload_n 0, 1) := by exact dch_824.2.2.2.2.1
theorem dL_law_1207 : decode cL_law 1207 = .ok (.iload_n 3, 1) := by exact dch_824.2.2.2.2.2.1
theorem dL_law_1208 : decode cL_law 1208 = .ok (.iconst 1, 1) := by exact dch_824.2.2.2.2.2.2.1
theorem dL_law_1209 : decode cL_law 1209 = .ok (.iadd, 1) := by exact dch_824.2.2.2.2.2.2.2
theorem dch_832 : (decode cL_law 1210 = .ok (.iaload, 1)) ∧ (decode cL_law 1211 = .ok (.aload_n 0, 1)) ∧ (decode cL_law 1212 = .ok (.iload_n 3, 1)) ∧ (decode cL_law 1213 = .ok (.iconst 2, 1)) ∧ (decode cL_law 1214 = .ok (.iadd, 1)) ∧ (decode cL_law 1215 = .ok (.iaload, 1)) ∧ (decode cL_law 1216 = .ok (.invokevirtual 152, 3)) ∧ (decode cL_law 1219 = .ok (.pop2, 1)) := by decide +kernel
theorem dL_law_1210 : decode cL_law 1210 = .ok (.iaload, 1) := by exact dch_832.1
theorem dL_law_1211 : decode cL_law 1211 = .ok (.aload_n 0, 1) := by exact dch_832.2.1
theorem dL_law_1212 : decode cL_law 1212 = .ok (.iload_n 3, 1) := by exact dch_832.2.2.1
theorem dL_law_1213 : decode cL_law 1213 = .ok (.iconst 2, 1) := by exact dch_832.2.2.2.1
theorem dL_law_1214 : decode cL_law 1214 = .ok (.iadd, 1) := by exact dch_832.2.2.2.2.1
theorem dL_law_1215 : decode cL_law 1215 = .ok (.iaload, 1) := by exact dch_832.2.2.2.2.2.1
theorem dL_law_1216 : decode cL_law 1216 = .ok (.invokevirtual 152, 3) := by exact dch_832.2.2.2.2.2.2.1
theorem dL_law_1219 : decode cL_law 1219 = .ok (.pop2, 1) := by exact dch_832.2.2.2.2.2.2.2
theorem dch_840 : (decode cL_law 1220 = .ok (.aload_n 2, 1)) ∧ (decode cL_law 1221 = .ok (.aload_n 0, 1)) ∧ (decode cL_law 1222 = .ok (.iload_n 3, 1)) ∧ (decode cL_law 1223 = .ok (.iconst 1, 1)) ∧ (decode cL_law 1224 = .ok (.iadd, 1)) ∧ (decode cL_law 1225 = .ok (.iaload, 1)) ∧ (decode cL_law 1226 = .ok (.aload_n 0, 1)) ∧ (decode cL_law 1227 = .ok (.iload_n 3, 1)) := by decide +kernel
theorem dL_law_1220 : decode cL_law 1220 = .ok (.aload_n 2, 1) := by exact dch_840.1
theorem dL_law_1221 : decode cL_law 1221 = .ok (.aload_n 0, 1) := by exact dch_840.2.1
theorem dL_law_1222 : decode cL_law 1222 = .ok (.iload_n 3, 1) := by exact dch_840.2.2.1
theorem dL_law_1223 : decode cL_law 1223 = .ok (.iconst 1, 1) := by exact dch_840.2.2.2.1
theorem dL_law_1224 : decode cL_law 1224 = .ok (.iadd, 1) := by exact dch_840.2.2.2.2.1
theorem dL_law_1225 : decode cL_law 1225 = .ok (.iaload, 1) := by exact dch_840.2.2.2.2.2.1
theorem dL_law_1226 : decode cL_law 1226 = .ok (.aload_n 0, 1) := by exact dch_840.2.2.2.2.2.2.1
theorem dL_law_1227 : decode cL_law 1227 = .ok (.iload_n 3, 1) := by exact dch_840.2.2.2.2.2.2.2
theorem dch_848 : (decode cL_law 1228 = .ok (.iconst 2, 1)) ∧ (decode cL_law 1229 = .ok (.iadd, 1)) ∧ (decode cL_law 1230 = .ok (.iaload, 1)) ∧ (decode cL_law 1231 = .ok (.invokevirtual 156, 3)) ∧ (decode cL_law 1234 = .ok (.pop2, 1)) ∧ (decode cL_law 1235 = .ok (.goto 122, 3)) ∧ (decode cL_law 1238 = .ok (.aload_n 1, 1)) ∧ (decode cL_law 1239 = .ok (.aload_n 0, 1)) := by decide +kernel
theorem dL_law_1228 : decode cL_law 1228 = .ok (.iconst 2, 1) := by exact dch_848.1
theorem dL_law_1229 : decode cL_law 1229 = .ok (.iadd, 1) := by exact dch_848.2.1
theorem dL_law_1230 : decode cL_law 1230 = .ok (.iaload, 1) := by exact dch_848.2.2.1
theorem dL_law_1231 : decode cL_law 1231 = .ok (.invokevirtual 156, 3) := by exact dch_848.2.2.2.1
theorem dL_law_1234 : decode cL_law 1234 = .ok (.pop2, 1) := by exact dch_848.2.2.2.2.1
theorem dL_law_1235 : decode cL_law 1235 = .ok (.goto 122, 3) := by exact dch_848.2.2.2.2.2.1
theorem dL_law_1238 : decode cL_law 1238 = .ok (.aload_n 1, 1) := by exact dch_848.2.2.2.2.2.2.1
theorem dL_law_1239 : decode cL_law 1239 = .ok (.aload_n 0, 1) := by exact dch_848.2.2.2.2.2.2.2
theorem dch_856 : (decode cL_law 1240 = .ok (.iload_n 3, 1)) ∧ (decode cL_law 1241 = .ok (.iconst 1, 1)) ∧ (decode cL_law 1242 = .ok (.iadd, 1)) ∧ (decode cL_law 1243 = .ok (.iaload, 1)) ∧ (decode cL_law 1244 = .ok (.aload_n 0, 1)) ∧ (decode cL_law 1245 = .ok (.iload_n 3, 1)) ∧ (decode cL_law 1246 = .ok (.iconst 2, 1)) ∧ (decode cL_law 1247 = .ok (.iadd, 1)) := by decide +kernel
theorem dL_law_1240 : decode cL_law 1240 = .ok (.iload_n 3, 1) := by exact dch_856.1
theorem dL_law_1241 : decode cL_law 1241 = .ok (.iconst 1, 1) := by exact dch_856.2.1
theorem dL_law_1242 : decode cL_law 1242 = .ok (.iadd, 1) := by exact dch_856.2.2.1
theorem dL_law_1243 : decode cL_law 1243 = .ok (.iaload, 1) := by exact dch_856.2.2.2.1
theorem dL_law_1244 : decode cL_law 1244 = .ok (.aload_n 0, 1) := by exact dch_856.2.2.2.2.1
theorem dL_law_1245 : decode cL_law 1245 = .ok (.iload_n 3, 1) := by exact dch_856.2.2.2.2.2.1
theorem dL_law_1246 : decode cL_law 1246 = .ok (.iconst 2, 1) := by exact dch_856.2.2.2.2.2.2.1
theorem dL_law_1247 : decode cL_law 1247 = .ok (.iadd, 1) := by exact dch_856.2.2.2.2.2.2.2
theorem dch_864 : (decode cL_law 1248 = .ok (.iaload, 1)) ∧ (decode cL_law 1249 = .ok (.aload_n 0, 1)) ∧ (decode cL_law 1250 = .ok (.iload_n 3, 1)) ∧ (decode cL_law 1251 = .ok (.iconst 3, 1)) ∧ (decode cL_law 1252 = .ok (.iadd, 1)) ∧ (decode cL_law 1253 = .ok (.iaload, 1)) ∧ (decode cL_law 1254 = .ok (.aload_n 0, 1)) ∧ (decode cL_law 1255 = .ok (.iload_n 3, 1)) := by decide +kernel
theorem dL_law_1248 : decode cL_law 1248 = .ok (.iaload, 1) := by exact dch_864.1
theorem dL_law_1249 : decode cL_law 1249 = .ok (.aload_n 0, 1) := by exact dch_864.2.1
theorem dL_law_1250 : decode cL_law 1250 = .ok (.iload_n 3, 1) := by exact dch_864.2.2.1
theorem dL_law_1251 : decode cL_law 1251 = .ok (.iconst 3, 1) := by exact dch_864.2.2.2.1
theorem dL_law_1252 : decode cL_law 1252 = .ok (.iadd, 1) := by exact dch_864.2.2.2.2.1
theorem dL_law_1253 : decode cL_law 1253 = .ok (.iaload, 1) := by exact dch_864.2.2.2.2.2.1
theorem dL_law_1254 : decode cL_law 1254 = .ok (.aload_n 0, 1) := by exact dch_864.2.2.2.2.2.2.1
theorem dL_law_1255 : decode cL_law 1255 = .ok (.iload_n 3, 1) := by exact dch_864.2.2.2.2.2.2.2
theorem dch_872 : (decode cL_law 1256 = .ok (.iconst 4, 1)) ∧ (decode cL_law 1257 = .ok (.iadd, 1)) ∧ (decode cL_law 1258 = .ok (.iaload, 1)) ∧ (decode cL_law 1259 = .ok (.aload_n 0, 1)) ∧ (decode cL_law 1260 = .ok (.iload_n 3, 1)) ∧ (decode cL_law 1261 = .ok (.iconst 5, 1)) ∧ (decode cL_law 1262 = .ok (.iadd, 1)) ∧ (decode cL_law 1263 = .ok (.iaload, 1)) := by decide +kernel
theorem dL_law_1256 : decode cL_law 1256 = .ok (.iconst 4, 1) := by exact dch_872.1
theorem dL_law_1257 : decode cL_law 1257 = .ok (.iadd, 1) := by exact dch_872.2.1
theorem dL_law_1258 : decode cL_law 1258 = .ok (.iaload, 1) := by exact dch_872.2.2.1
theorem dL_law_1259 : decode cL_law 1259 = .ok (.aload_n 0, 1) := by exact dch_872.2.2.2.1
theorem dL_law_1260 : decode cL_law 1260 = .ok (.iload_n 3, 1) := by exact dch_872.2.2.2.2.1
theorem dL_law_1261 : decode cL_law 1261 = .ok (.iconst 5, 1) := by exact dch_872.2.2.2.2.2.1
theorem dL_law_1262 : decode cL_law 1262 = .ok (.iadd, 1) := by exact dch_872.2.2.2.2.2.2.1
theorem dL_law_1263 : decode cL_law 1263 = .ok (.iaload, 1) := by exact dch_872.2.2.2.2.2.2.2
theorem dch_880 : (decode cL_law 1264 = .ok (.invokevirtual 157, 3)) ∧ (decode cL_law 1267 = .ok (.pop, 1)) ∧ (decode cL_law 1268 = .ok (.aload_n 2, 1)) ∧ (decode cL_law 1269 = .ok (.aload_n 0, 1)) ∧ (decode cL_law 1270 = .ok (.iload_n 3, 1)) ∧ (decode cL_law 1271 = .ok (.iconst 1, 1)) ∧ (decode cL_law 1272 = .ok (.iadd, 1)) ∧ (decode cL_law 1273 = .ok (.iaload, 1)) := by decide +kernel
theorem dL_law_1264 : decode cL_law 1264 = .ok (.invokevirtual 157, 3) := by exact dch_880.1
theorem dL_law_1267 : decode cL_law 1267 = .ok (.pop, 1) := by exact dch_880.2.1
theorem dL_law_1268 : decode cL_law 1268 = .ok (.aload_n 2, 1) := by exact dch_880.2.2.1
theorem dL_law_1269 : decode cL_law 1269 = .ok (.aload_n 0, 1) := by exact dch_880.2.2.2.1
theorem dL_law_1270 : decode cL_law 1270 = .ok (.iload_n 3, 1) := by exact dch_880.2.2.2.2.1
theorem dL_law_1271 : decode cL_law 1271 = .ok (.iconst 1, 1) := by exact dch_880.2.2.2.2.2.1
theorem dL_law_1272 : decode cL_law 1272 = .ok (.iadd, 1) := by exact dch_880.2.2.2.2.2.2.1
theorem dL_law_1273 : decode cL_law 1273 = .ok (.iaload, 1) := by exact dch_880.2.2.2.2.2.2.2
theorem dch_888 : (decode cL_law 1274 = .ok (.aload_n 0, 1)) ∧ (decode cL_law 1275 = .ok (.iload_n 3, 1)) ∧ (decode cL_law 1276 = .ok (.iconst 2, 1)) ∧ (decode cL_law 1277 = .ok (.iadd, 1)) ∧ (decode cL_law 1278 = .ok (.iaload, 1)) ∧ (decode cL_law 1279 = .ok (.aload_n 0, 1)) ∧ (decode cL_law 1280 = .ok (.iload_n 3, 1)) ∧ (decode cL_law 1281 = .ok (.iconst 3, 1)) := by decide +kernel
theorem dL_law_1274 : decode cL_law 1274 = .ok (.aload_n 0, 1) := by exact dch_888.1
theorem dL_law_1275 : decode cL_law 1275 = .ok (.iload_n 3, 1) := by exact dch_888.2.1
theorem dL_law_1276 : decode cL_law 1276 = .ok (.iconst 2, 1) := by exact dch_888.2.2.1
theorem dL_law_1277 : decode cL_law 1277 = .ok (.iadd, 1) := by exact dch_888.2.2.2.1
theorem dL_law_1278 : decode cL_law 1278 = .ok (.iaload, 1) := by exact dch_888.2.2.2.2.1
theorem dL_law_1279 : decode cL_law 1279 = .ok (.aload_n 0, 1) := by exact dch_888.2.2.2.2.2.1
theorem dL_law_1280 : decode cL_law 1280 = .ok (.iload_n 3, 1) := by exact dch_888.2.2.2.2.2.2.1
theorem dL_law_1281 : decode cL_law 1281 = .ok (.iconst 3, 1) := by exact dch_888.2.2.2.2.2.2.2
theorem dch_896 : (decode cL_law 1282 = .ok (.iadd, 1)) ∧ (decode cL_law 1283 = .ok (.iaload, 1)) ∧ (decode cL_law 1284 = .ok (.aload_n 0, 1)) ∧ (decode cL_law 1285 = .ok (.iload_n 3, 1)) ∧ (decode cL_law 1286 = .ok (.iconst 4, 1)) ∧ (decode cL_law 1287 = .ok (.iadd, 1)) ∧ (decode cL_law 1288 = .ok (.iaload, 1)) ∧ (decode cL_law 1289 = .ok (.aload_n 0, 1)) := by decide +kernel
theorem dL_law_1282 : decode cL_law 1282 = .ok (.iadd, 1) := by exact dch_896.1
theorem dL_law_1283 : decode cL_law 1283 = .ok (.iaload, 1) := by exact dch_896.2.1
theorem dL_law_1284 : decode cL_law 1284 = .ok (.aload_n 0, 1) := by exact dch_896.2.2.1
theorem dL_law_1285 : decode cL_law 1285 = .ok (.iload_n 3, 1) := by exact dch_896.2.2.2.1
theorem dL_law_1286 : decode cL_law 1286 = .ok (.iconst 4, 1) := by exact dch_896.2.2.2.2.1
theorem dL_law_1287 : decode cL_law 1287 = .ok (.iadd, 1) := by exact dch_896.2.2.2.2.2.1
theorem dL_law_1288 : decode cL_law 1288 = .ok (.iaload, 1) := by exact dch_896.2.2.2.2.2.2.1
theorem dL_law_1289 : decode cL_law 1289 = .ok (.aload_n 0, 1) := by exact dch_896.2.2.2.2.2.2.2
theorem dch_904 : (decode cL_law 1290 = .ok (.iload_n 3, 1)) ∧ (decode cL_law 1291 = .ok (.iconst 5, 1)) ∧ (decode cL_law 1292 = .ok (.iadd, 1)) ∧ (decode cL_law 1293 = .ok (.iaload, 1)) ∧ (decode cL_law 1294 = .ok (.invokevirtual 161, 3)) ∧ (decode cL_law 1297 = .ok (.pop, 1)) ∧ (decode cL_law 1298 = .ok (.goto 59, 3)) ∧ (decode cL_law 1301 = .ok (.aload_n 1, 1)) := by decide +kernel
theorem dL_law_1290 : decode cL_law 1290 = .ok (.iload_n 3, 1) := by exact dch_904.1
theorem dL_law_1291 : decode cL_law 1291 = .ok (.iconst 5, 1) := by exact dch_904.2.1
theorem dL_law_1292 : decode cL_law 1292 = .ok (.iadd, 1) := by exact dch_904.2.2.1
theorem dL_law_1293 : decode cL_law 1293 = .ok (.iaload, 1) := by exact dch_904.2.2.2.1
theorem dL_law_1294 : decode cL_law 1294 = .ok (.invokevirtual 161, 3) := by exact dch_904.2.2.2.2.1
theorem dL_law_1297 : decode cL_law 1297 = .ok (.pop, 1) := by exact dch_904.2.2.2.2.2.1
theorem dL_law_1298 : decode cL_law 1298 = .ok (.goto 59, 3) := by exact dch_904.2.2.2.2.2.2.1
theorem dL_law_1301 : decode cL_law 1301 = .ok (.aload_n 1, 1) := by exact dch_904.2.2.2.2.2.2.2
theorem dch_912 : (decode cL_law 1302 = .ok (.aload_n 0, 1)) ∧ (decode cL_law 1303 = .ok (.iload_n 3, 1)) ∧ (decode cL_law 1304 = .ok (.iconst 1, 1)) ∧ (decode cL_law 1305 = .ok (.iadd, 1)) ∧ (decode cL_law 1306 = .ok (.iaload, 1)) ∧ (decode cL_law 1307 = .ok (.aload_n 0, 1)) ∧ (decode cL_law 1308 = .ok (.iload_n 3, 1)) ∧ (decode cL_law 1309 = .ok (.iconst 2, 1)) := by decide +kernel
theorem dL_law_1302 : decode cL_law 1302 = .ok (.aload_n 0, 1) := by exact dch_912.1
theorem dL_law_1303 : decode cL_law 1303 = .ok (.iload_n 3, 1) := by exact dch_912.2.1
theorem dL_law_1304 : decode cL_law 1304 = .ok (.iconst 1, 1) := by exact dch_912.2.2.1
theorem dL_law_1305 : decode cL_law 1305 = .ok (.iadd, 1) := by exact dch_912.2.2.2.1
theorem dL_law_1306 : decode cL_law 1306 = .ok (.iaload, 1) := by exact dch_912.2.2.2.2.1
theorem dL_law_1307 : decode cL_law 1307 = .ok (.aload_n 0, 1) := by exact dch_912.2.2.2.2.2.1
theorem dL_law_1308 : decode cL_law 1308 = .ok (.iload_n 3, 1) := by exact dch_912.2.2.2.2.2.2.1
theorem dL_law_1309 : decode cL_law 1309 = .ok (.iconst 2, 1) := by exact dch_912.2.2.2.2.2.2.2
theorem dch_920 : (decode cL_law 1310 = .ok (.iadd, 1)) ∧ (decode cL_law 1311 = .ok (.iaload, 1)) ∧ (decode cL_law 1312 = .ok (.invokevirtual 162, 3)) ∧ (decode cL_law 1315 = .ok (.pop, 1)) ∧ (decode cL_law 1316 = .ok (.aload_n 2, 1)) ∧ (decode cL_law 1317 = .ok (.aload_n 0, 1)) ∧ (decode cL_law 1318 = .ok (.iload_n 3, 1)) ∧ (decode cL_law 1319 = .ok (.iconst 1, 1)) := by decide +kernel
theorem dL_law_1310 : decode cL_law 1310 = .ok (.iadd, 1) := by exact dch_920.1
theorem dL_law_1311 : decode cL_law 1311 = .ok (.iaload, 1) := by exact dch_920.2.1
theorem dL_law_1312 : decode cL_law 1312 = .ok (.invokevirtual 162, 3) := by exact dch_920.2.2.1
theorem dL_law_1315 : decode cL_law 1315 = .ok (.pop, 1) := by exact dch_920.2.2.2.1
theorem dL_law_1316 : decode cL_law 1316 = .ok (.aload_n 2, 1) := by exact dch_920.2.2.2.2.1
theorem dL_law_1317 : decode cL_law 1317 = .ok (.aload_n 0, 1) := by exact dch_920.2.2.2.2.2.1
theorem dL_law_1318 : decode cL_law 1318 = .ok (.iload_n 3, 1) := by exact dch_920.2.2.2.2.2.2.1
theorem dL_law_1319 : decode cL_law 1319 = .ok (.iconst 1, 1) := by exact dch_920.2.2.2.2.2.2.2
theorem dch_928 : (decode cL_law 1320 = .ok (.iadd, 1)) ∧ (decode cL_law 1321 = .ok (.iaload, 1)) ∧ (decode cL_law 1322 = .ok (.aload_n 0, 1)) ∧ (decode cL_law 1323 = .ok (.iload_n 3, 1)) ∧ (decode cL_law 1324 = .ok (.iconst 2, 1)) ∧ (decode cL_law 1325 = .ok (.iadd, 1)) ∧ (decode cL_law 1326 = .ok (.iaload, 1)) ∧ (decode cL_law 1327 = .ok (.invokevirtual 165, 3)) := by decide +kernel
theorem dL_law_1320 : decode cL_law 1320 = .ok (.iadd, 1) := by exact dch_928.1
theorem dL_law_1321 : decode cL_law 1321 = .ok (.iaload, 1) := by exact dch_928.2.1
theorem dL_law_1322 : decode cL_law 1322 = .ok (.aload_n 0, 1) := by exact dch_928.2.2.1
theorem dL_law_1323 : decode cL_law 1323 = .ok (.iload_n 3, 1) := by exact dch_928.2.2.2.1
theorem dL_law_1324 : decode cL_law 1324 = .ok (.iconst 2, 1) := by exact dch_928.2.2.2.2.1
theorem dL_law_1325 : decode cL_law 1325 = .ok (.iadd, 1) := by exact dch_928.2.2.2.2.2.1
theorem dL_law_1326 : decode cL_law 1326 = .ok (.iaload, 1) := by exact dch_928.2.2.2.2.2.2.1
theorem dL_law_1327 : decode cL_law 1327 = .ok (.invokevirtual 165, 3) := by exact dch_928.2.2.2.2.2.2.2
theorem dch_936 : (decode cL_law 1330 = .ok (.pop, 1)) ∧ (decode cL_law 1331 = .ok (.goto 26, 3)) ∧ (decode cL_law 1334 = .ok (.aload_n 1, 1)) ∧ (decode cL_law 1335 = .ok (.aload_n 0, 1)) ∧ (decode cL_law 1336 = .ok (.iload_n 3, 1)) ∧ (decode cL_law 1337 = .ok (.iconst 1, 1)) ∧ (decode cL_law 1338 = .ok (.iadd, 1)) ∧ (decode cL_law 1339 = .ok (.iaload, 1)) := by decide +kernel
theorem dL_law_1330 : decode cL_law 1330 = .ok (.pop, 1) := by exact dch_936.1
theorem dL_law_1331 : decode cL_law 1331 = .ok (.goto 26, 3) := by exact dch_936.2.1
theorem dL_law_1334 : decode cL_law 1334 = .ok (.aload_n 1, 1) := by exact dch_936.2.2.1
theorem dL_law_1335 : decode cL_law 1335 = .ok (.aload_n 0, 1) := by exact dch_936.2.2.2.1
theorem dL_law_1336 : decode cL_law 1336 = .ok (.iload_n 3, 1) := by exact dch_936.2.2.2.2.1
theorem dL_law_1337 : decode cL_law 1337 = .ok (.iconst 1, 1) := by exact dch_936.2.2.2.2.2.1
theorem dL_law_1338 : decode cL_law 1338 = .ok (.iadd, 1) := by exact dch_936.2.2.2.2.2.2.1
theorem dL_law_1339 : decode cL_law 1339 = .ok (.iaload, 1) := by exact dch_936.2.2.2.2.2.2.2
theorem dch_944 : (decode cL_law 1340 = .ok (.invokevirtual 166, 3)) ∧ (decode cL_law 1343 = .ok (.pop, 1)) ∧ (decode cL_law 1344 = .ok (.aload_n 2, 1)) ∧ (decode cL_law 1345 = .ok (.aload_n 0, 1)) ∧ (decode cL_law 1346 = .ok (.iload_n 3, 1)) ∧ (decode cL_law 1347 = .ok (.iconst 1, 1)) ∧ (decode cL_law 1348 = .ok (.iadd, 1)) ∧ (decode cL_law 1349 = .ok (.iaload, 1)) := by decide +kernel
theorem dL_law_1340 : decode cL_law 1340 = .ok (.invokevirtual 166, 3) := by exact dch_944.1
theorem dL_law_1343 : decode cL_law 1343 = .ok (.pop, 1) := by exact dch_944.2.1
theorem dL_law_1344 : decode cL_law 1344 = .ok (.aload_n 2, 1) := by exact dch_944.2.2.1
theorem dL_law_1345 : decode cL_law 1345 = .ok (.aload_n 0, 1) := by exact dch_944.2.2.2.1
theorem dL_law_1346 : decode cL_law 1346 = .ok (.iload_n 3, 1) := by exact dch_944.2.2.2.2.1
theorem dL_law_1347 : decode cL_law 1347 = .ok (.iconst 1, 1) := by exact dch_944.2.2.2.2.2.1
theorem dL_law_1348 : decode cL_law 1348 = .ok (.iadd, 1) := by exact dch_944.2.2.2.2.2.2.1
theorem dL_law_1349 : decode cL_law 1349 = .ok (.iaload, 1) := by exact dch_944.2.2.2.2.2.2.2
theorem dch_952 : (decode cL_law 1350 = .ok (.invokevirtual 169, 3)) ∧ (decode cL_law 1353 = .ok (.pop, 1)) ∧ (decode cL_law 1354 = .ok (.goto 3, 3)) ∧ (decode cL_law 1357 = .ok (.iinc 3 6, 3)) ∧ (decode cL_law 1360 = .ok (.goto (-1342), 3)) ∧ (decode cL_law 1363 = .ok (.iconst 1, 1)) ∧ (decode cL_law 1364 = .ok (.ireturn, 1)) := by decide +kernel
theorem dL_law_1350 : decode cL_law 1350 = .ok (.invokevirtual 169, 3) := by exact dch_952.1
theorem dL_law_1353 : decode cL_law 1353 = .ok (.pop, 1) := by exact dch_952.2.1
theorem dL_law_1354 : decode cL_law 1354 = .ok (.goto 3, 3) := by exact dch_952.2.2.1
theorem dL_law_1357 : decode cL_law 1357 = .ok (.iinc 3 6, 3) := by exact dch_952.2.2.2.1
theorem dL_law_1360 : decode cL_law 1360 = .ok (.goto (-1342), 3) := by exact dch_952.2.2.2.2.1
theorem dL_law_1363 : decode cL_law 1363 = .ok (.iconst 1, 1) := by exact dch_952.2.2.2.2.2.1
theorem dL_law_1364 : decode cL_law 1364 = .ok (.ireturn, 1) := by exact dch_952.2.2.2.2.2.2
