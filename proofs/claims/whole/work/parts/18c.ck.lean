set_option maxRecDepth 1000000 in
theorem ck_200 : ckL prog_14_method_11_code 12 false (some .boolean) cd_200 0 = true := by decide +kernel
set_option maxRecDepth 1000000 in
theorem ck_201 : ckL prog_14_method_12_code 12 false (some .boolean) cd_201 0 = true := by decide +kernel
set_option maxRecDepth 1000000 in
theorem ck_202 : ckL prog_14_method_13_code 12 false (none) cd_202 0 = true := by decide +kernel
set_option maxRecDepth 1000000 in
theorem ck_203 : ckL prog_14_method_14_code 12 false (some .boolean) cd_203 0 = true := by decide +kernel
set_option maxRecDepth 1000000 in
theorem ck_204 : ckL prog_14_method_15_code 12 false (some .boolean) cd_204 0 = true := by decide +kernel
set_option maxRecDepth 1000000 in
theorem ck_205 : ckL prog_14_method_16_code 12 false (none) cd_205 0 = true := by decide +kernel
set_option maxRecDepth 1000000 in
theorem ck_206 : ckL prog_14_method_17_code 12 false (some .boolean) cd_206 0 = true := by decide +kernel
set_option maxRecDepth 1000000 in
theorem ck_207 : ckL prog_14_method_18_code 12 false (some .int) cd_207 0 = true := by decide +kernel
set_option maxRecDepth 1000000 in
theorem ck_208 : ckL prog_14_method_19_code 12 false (some .int) cd_208 0 = true := by decide +kernel
set_option maxRecDepth 1000000 in
theorem ck_209 : ckL prog_14_method_20_code 12 false (none) cd_209 0 = true := by decide +kernel
set_option maxRecDepth 1000000 in
theorem ck_210 : ckL prog_14_method_21_code 12 false (none) cd_210 0 = true := by decide +kernel
set_option maxRecDepth 1000000 in
theorem ck_211 : ckL prog_14_method_22_code 12 false (none) cd_211 0 = true := by decide +kernel
set_option maxRecDepth 1000000 in
theorem ck_212 : ckL prog_14_method_23_code 12 false (none) cd_212 0 = true := by decide +kernel
set_option maxRecDepth 1000000 in
theorem ck_213 : ckL prog_14_method_24_code 12 false (none) cd_213 0 = true := by decide +kernel
set_option maxRecDepth 1000000 in
theorem ck_214 : ckL prog_14_method_25_code 12 false (none) cd_214 0 = true := by decide +kernel
set_option maxRecDepth 1000000 in
theorem ck_215 : ckL prog_14_method_26_code 12 false (none) cd_215 0 = true := by decide +kernel
set_option maxRecDepth 1000000 in
theorem ck_216 : ckL prog_14_method_27_code 12 false (none) cd_216 0 = true := by decide +kernel
set_option maxRecDepth 1000000 in
theorem ck_217 : ckL prog_14_method_28_code 12 false (none) cd_217 0 = true := by decide +kernel
set_option maxRecDepth 1000000 in
theorem ck_218 : ckL prog_14_method_29_code 12 false (some .boolean) cd_218 0 = true := by decide +kernel
set_option maxRecDepth 1000000 in
theorem ck_219 : ckL prog_14_method_30_code 12 false (none) cd_219 0 = true := by decide +kernel
set_option maxRecDepth 1000000 in
theorem ck_220 : ckL prog_14_method_31_code 12 false (some .int) cd_220 0 = true := by decide +kernel
set_option maxRecDepth 1000000 in
theorem ck_221 : ckL prog_14_method_32_code 12 false (some .int) cd_221 0 = true := by decide +kernel
set_option maxRecDepth 1000000 in
theorem ck_222 : ckL prog_14_method_33_code 12 false (some .int) cd_222 0 = true := by decide +kernel
set_option maxRecDepth 1000000 in
theorem ck_223 : ckL prog_14_method_34_code 12 false (none) cd_223 0 = true := by decide +kernel
set_option maxRecDepth 1000000 in
theorem ck_224 : ckL prog_14_method_35_code 12 false (none) cd_224 0 = true := by decide +kernel
set_option maxRecDepth 1000000 in
theorem ck_225 : ckL prog_14_method_36_code 12 false (none) cd_225 0 = true := by decide +kernel
set_option maxRecDepth 1000000 in
theorem ck_226 : ckL prog_14_method_37_code 12 false (some .int) cd_226 0 = true := by decide +kernel
set_option maxRecDepth 1000000 in
theorem ck_227 : ckL prog_14_method_38_code 12 false (some .int) cd_227 0 = true := by decide +kernel
set_option maxRecDepth 1000000 in
theorem ck_228 : ckL prog_14_method_39_code 12 false (some .int) cd_228 0 = true := by decide +kernel
set_option maxRecDepth 1000000 in
theorem ck_229 : ckL prog_14_method_40_code 12 false (some .int) cd_229 0 = true := by decide +kernel
set_option maxRecDepth 1000000 in
theorem ck_230 : ckL prog_14_method_41_code 12 false (some .int) cd_230 0 = true := by decide +kernel
set_option maxRecDepth 1000000 in
theorem ck_231 : ckL prog_14_method_42_code 12 false (some .int) cd_231 0 = true := by decide +kernel
set_option maxRecDepth 1000000 in
theorem ck_232 : ckL prog_14_method_43_code 12 false (some .int) cd_232 0 = true := by decide +kernel
set_option maxRecDepth 1000000 in
theorem ck_233 : ckL prog_14_method_44_code 12 false (some .int) cd_233 0 = true := by decide +kernel
set_option maxRecDepth 1000000 in
theorem ck_234 : ckL prog_14_method_45_code 12 false (some .boolean) cd_234 0 = true := by decide +kernel
set_option maxRecDepth 1000000 in
theorem ck_235 : ckL prog_14_method_46_code 12 false (some .boolean) cd_235 0 = true := by decide +kernel
set_option maxRecDepth 1000000 in
theorem ck_236 : ckL prog_14_method_47_code 12 false (some .int) cd_236 0 = true := by decide +kernel
set_option maxRecDepth 1000000 in
theorem ck_237 : ckL prog_14_method_48_code 12 false (some .boolean) cd_237 0 = true := by decide +kernel
set_option maxRecDepth 1000000 in
theorem ck_238 : ckL prog_14_method_49_code 12 false (some .int) cd_238 0 = true := by decide +kernel
set_option maxRecDepth 1000000 in
theorem ck_239 : ckL prog_14_method_50_code 12 false (some .int) cd_239 0 = true := by decide +kernel
set_option maxRecDepth 1000000 in
theorem ck_240 : ckL prog_14_method_51_code 12 false (some .boolean) cd_240 0 = true := by decide +kernel
set_option maxRecDepth 1000000 in
theorem ck_241 : ckL prog_14_method_52_code 12 false (some .int) cd_241 0 = true := by decide +kernel
set_option maxRecDepth 1000000 in
theorem ck_242 : ckL prog_14_method_53_code 12 false (some .int) cd_242 0 = true := by decide +kernel
set_option maxRecDepth 1000000 in
theorem ck_243 : ckL prog_14_method_54_code 12 false (some .int) cd_243 0 = true := by decide +kernel
set_option maxRecDepth 1000000 in
theorem ck_244 : ckL prog_14_method_55_code 12 false (some .int) cd_244 0 = true := by decide +kernel
set_option maxRecDepth 1000000 in
theorem ck_245 : ckL prog_14_method_56_code 12 false (some .int) cd_245 0 = true := by decide +kernel
set_option maxRecDepth 1000000 in
theorem ck_246 : ckL prog_14_method_57_code 12 false (some .int) cd_246 0 = true := by decide +kernel
set_option maxRecDepth 1000000 in
theorem ck_247 : ckL prog_14_method_58_code 12 false (some .boolean) cd_247 0 = true := by decide +kernel
set_option maxRecDepth 1000000 in
theorem ck_248 : ckL prog_14_method_59_code 12 false (some .int) cd_248 0 = true := by decide +kernel
set_option maxRecDepth 1000000 in
theorem ck_249 : ckL prog_14_method_60_code 12 false (some .int) cd_249 0 = true := by decide +kernel
set_option maxRecDepth 1000000 in
theorem ck_250 : ckL prog_14_method_61_code 12 false (some .int) cd_250 0 = true := by decide +kernel
set_option maxRecDepth 1000000 in
theorem ck_251 : ckL prog_14_method_62_code 12 false (some .int) cd_251 0 = true := by decide +kernel
set_option maxRecDepth 1000000 in
theorem ck_252 : ckL prog_14_method_63_code 12 false (some .int) cd_252 0 = true := by decide +kernel
set_option maxRecDepth 1000000 in
theorem ck_253 : ckL prog_14_method_64_code 12 false (some .boolean) cd_253 0 = true := by decide +kernel
set_option maxRecDepth 1000000 in
theorem ck_254 : ckL prog_14_method_65_code 12 false (some .boolean) cd_254 0 = true := by decide +kernel
set_option maxRecDepth 1000000 in
theorem ck_255 : ckL prog_14_method_66_code 12 false (some .int) cd_255 0 = true := by decide +kernel
set_option maxRecDepth 1000000 in
theorem ck_256 : ckL prog_14_method_67_code 12 false (some .boolean) cd_256 0 = true := by decide +kernel
set_option maxRecDepth 1000000 in
theorem ck_257 : ckL prog_14_method_68_code 12 false (some .boolean) cd_257 0 = true := by decide +kernel
set_option maxRecDepth 1000000 in
theorem ck_258 : ckL prog_14_method_69_code 12 false (some .boolean) cd_258 0 = true := by decide +kernel
set_option maxRecDepth 1000000 in
theorem ck_259 : ckL prog_14_method_70_code 12 false (some .long) cd_259 0 = true := by decide +kernel
set_option maxRecDepth 1000000 in
theorem ck_260 : ckL prog_14_method_71_code 12 false (none) cd_260 0 = true := by decide +kernel
set_option maxRecDepth 1000000 in
theorem ck_261 : ckL prog_14_method_72_code 12 false (none) cd_261 0 = true := by decide +kernel
set_option maxRecDepth 1000000 in
theorem ck_262 : ckL prog_14_method_73_code 12 false (some .int) cd_262 0 = true := by decide +kernel
set_option maxRecDepth 1000000 in
theorem ck_263 : ckL prog_14_method_74_code 12 false (some .boolean) cd_263 0 = true := by decide +kernel
set_option maxRecDepth 1000000 in
theorem ck_264 : ckL prog_14_method_75_code 12 false (some .int) cd_264 0 = true := by decide +kernel
set_option maxRecDepth 1000000 in
theorem ck_265 : ckL prog_14_method_76_code 12 false (some .int) cd_265 0 = true := by decide +kernel
set_option maxRecDepth 1000000 in
theorem ck_266 : ckL prog_14_method_77_code 12 false (some .int) cd_266 0 = true := by decide +kernel
set_option maxRecDepth 1000000 in
theorem ck_267 : ckL prog_14_method_78_code 12 false (some .int) cd_267 0 = true := by decide +kernel
set_option maxRecDepth 1000000 in
theorem ck_268 : ckL prog_14_method_79_code 12 false (some .boolean) cd_268 0 = true := by decide +kernel
set_option maxRecDepth 1000000 in
theorem ck_269 : ckL prog_14_method_80_code 12 false (some .int) cd_269 0 = true := by decide +kernel
set_option maxRecDepth 1000000 in
theorem ck_270 : ckL prog_14_method_81_code 12 false (some .int) cd_270 0 = true := by decide +kernel
set_option maxRecDepth 1000000 in
theorem ck_271 : ckL prog_14_method_82_code 12 false (some .boolean) cd_271 0 = true := by decide +kernel
set_option maxRecDepth 1000000 in
theorem ck_272 : ckL prog_14_method_83_code 12 false (none) cd_272 0 = true := by decide +kernel
set_option maxRecDepth 1000000 in
theorem ck_273 : ckL prog_14_method_84_code 12 false (some .int) cd_273 0 = true := by decide +kernel
set_option maxRecDepth 1000000 in
theorem ck_274 : ckL prog_14_method_85_code 12 false (some .int) cd_274 0 = true := by decide +kernel
set_option maxRecDepth 1000000 in
theorem ck_275 : ckL prog_14_method_86_code 12 false (some .boolean) cd_275 0 = true := by decide +kernel
set_option maxRecDepth 1000000 in
theorem ck_276 : ckL prog_14_method_87_code 12 false (some .int) cd_276 0 = true := by decide +kernel
set_option maxRecDepth 1000000 in
theorem ck_277 : ckL prog_14_method_88_code 12 false (some .int) cd_277 0 = true := by decide +kernel
set_option maxRecDepth 1000000 in
theorem ck_278 : ckL prog_14_method_89_code 12 false (some .boolean) cd_278 0 = true := by decide +kernel
set_option maxRecDepth 1000000 in
theorem ck_279 : ckL prog_14_method_90_code 12 false (some .int) cd_279 0 = true := by decide +kernel
set_option maxRecDepth 1000000 in
theorem ck_280 : ckL prog_14_method_91_code 12 false (some .int) cd_280 0 = true := by decide +kernel
set_option maxRecDepth 1000000 in
theorem ck_281 : ckL prog_14_method_92_code 12 false (some .boolean) cd_281 0 = true := by decide +kernel
set_option maxRecDepth 1000000 in
theorem ck_282 : ckL prog_14_method_93_code 12 false (some .int) cd_282 0 = true := by decide +kernel
set_option maxRecDepth 1000000 in
theorem ck_283 : ckL prog_14_method_94_code 12 false (some .int) cd_283 0 = true := by decide +kernel
set_option maxRecDepth 1000000 in
theorem ck_284 : ckL prog_14_method_95_code 12 false (some .int) cd_284 0 = true := by decide +kernel
set_option maxRecDepth 1000000 in
theorem ck_285 : ckL prog_14_method_96_code 12 false (some .boolean) cd_285 0 = true := by decide +kernel
set_option maxRecDepth 1000000 in
theorem ck_286 : ckL prog_14_method_97_code 12 false (some .boolean) cd_286 0 = true := by decide +kernel
set_option maxRecDepth 1000000 in
theorem ck_287 : ckL prog_14_method_98_code 12 false (some .int) cd_287 0 = true := by decide +kernel
