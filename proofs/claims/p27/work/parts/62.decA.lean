theorem dlw_A_0 : zdal code [(0, (.new 7, 3)), (3, (.dup, 1)), (4, (.invokespecial 9, 3)), (7, (.astore_n 1, 1)), (8, (.new 10, 3)), (11, (.dup, 1)), (12, (.invokespecial 12, 3)), (15, (.astore_n 2, 1)), (16, (.iconst 0, 1)), (17, (.istore_n 3, 1)), (18, (.iload_n 3, 1)), (19, (.aload_n 0, 1)), (20, (.arraylength, 1)), (21, (.bipush 6, 2)), (23, (.isub, 1)), (24, (.if_icmp .gt 1492, 3)), (27, (.aload_n 0, 1)), (28, (.iload_n 3, 1)), (29, (.iaload, 1)), (30, (.bipush 63, 2)), (32, (.iand, 1)), (33, (.tableswitch 1477 0 45 #[199, 262, 285, 298, 321, 344, 377, 410, 433, 456, 479, 512, 545, 578, 621, 654, 687, 710, 733, 766, 809, 832, 855, 878, 911, 924, 957, 990, 1013, 1036, 1079, 1132, 1145, 1178, 1211, 1234, 1257, 1280, 1293, 1316, 1339, 1352, 1385, 1398, 1421, 1464], 199)), (232, (.aload_n 1, 1)), (233, (.aload_n 0, 1)), (234, (.iload_n 3, 1)), (235, (.iconst 1, 1)), (236, (.iadd, 1)), (237, (.iaload, 1)), (238, (.aload_n 0, 1)), (239, (.iload_n 3, 1)), (240, (.iconst 2, 1)), (241, (.iadd, 1)), (242, (.iaload, 1)), (243, (.aload_n 0, 1)), (244, (.iload_n 3, 1)), (245, (.iconst 3, 1)), (246, (.iadd, 1)), (247, (.iaload, 1)), (248, (.aload_n 0, 1)), (249, (.iload_n 3, 1)), (250, (.iconst 4, 1)), (251, (.iadd, 1)), (252, (.iaload, 1)), (253, (.aload_n 0, 1)), (254, (.iload_n 3, 1)), (255, (.iconst 5, 1)), (256, (.iadd, 1)), (257, (.iaload, 1)), (258, (.invokevirtual 13, 3)), (261, (.pop, 1)), (262, (.aload_n 2, 1)), (263, (.aload_n 0, 1)), (264, (.iload_n 3, 1)), (265, (.iconst 1, 1)), (266, (.iadd, 1)), (267, (.iaload, 1)), (268, (.aload_n 0, 1)), (269, (.iload_n 3, 1)), (270, (.iconst 2, 1)), (271, (.iadd, 1)), (272, (.iaload, 1)), (273, (.aload_n 0, 1)), (274, (.iload_n 3, 1)), (275, (.iconst 3, 1))] = true := zDs 0 (by decide +kernel)
theorem d_Law_0 : decode code 0 = .ok (.new 7, 3) := zdal_p dlw_A_0 (i := 0) rfl
theorem d_Law_3 : decode code 3 = .ok (.dup, 1) := zdal_p dlw_A_0 (i := 1) rfl
theorem d_Law_4 : decode code 4 = .ok (.invokespecial 9, 3) := zdal_p dlw_A_0 (i := 2) rfl
theorem d_Law_7 : decode code 7 = .ok (.astore_n 1, 1) := zdal_p dlw_A_0 (i := 3) rfl
theorem d_Law_8 : decode code 8 = .ok (.new 10, 3) := zdal_p dlw_A_0 (i := 4) rfl
theorem d_Law_11 : decode code 11 = .ok (.dup, 1) := zdal_p dlw_A_0 (i := 5) rfl
theorem d_Law_12 : decode code 12 = .ok (.invokespecial 12, 3) := zdal_p dlw_A_0 (i := 6) rfl
theorem d_Law_15 : decode code 15 = .ok (.astore_n 2, 1) := zdal_p dlw_A_0 (i := 7) rfl
theorem d_Law_16 : decode code 16 = .ok (.iconst 0, 1) := zdal_p dlw_A_0 (i := 8) rfl
theorem d_Law_17 : decode code 17 = .ok (.istore_n 3, 1) := zdal_p dlw_A_0 (i := 9) rfl
theorem d_Law_18 : decode code 18 = .ok (.iload_n 3, 1) := zdal_p dlw_A_0 (i := 10) rfl
theorem d_Law_19 : decode code 19 = .ok (.aload_n 0, 1) := zdal_p dlw_A_0 (i := 11) rfl
theorem d_Law_20 : decode code 20 = .ok (.arraylength, 1) := zdal_p dlw_A_0 (i := 12) rfl
theorem d_Law_21 : decode code 21 = .ok (.bipush 6, 2) := zdal_p dlw_A_0 (i := 13) rfl
theorem d_Law_23 : decode code 23 = .ok (.isub, 1) := zdal_p dlw_A_0 (i := 14) rfl
theorem d_Law_24 : decode code 24 = .ok (.if_icmp .gt 1492, 3) := zdal_p dlw_A_0 (i := 15) rfl
theorem d_Law_27 : decode code 27 = .ok (.aload_n 0, 1) := zdal_p dlw_A_0 (i := 16) rfl
theorem d_Law_28 : decode code 28 = .ok (.iload_n 3, 1) := zdal_p dlw_A_0 (i := 17) rfl
theorem d_Law_29 : decode code 29 = .ok (.iaload, 1) := zdal_p dlw_A_0 (i := 18) rfl
theorem d_Law_30 : decode code 30 = .ok (.bipush 63, 2) := zdal_p dlw_A_0 (i := 19) rfl
theorem d_Law_32 : decode code 32 = .ok (.iand, 1) := zdal_p dlw_A_0 (i := 20) rfl
theorem d_Law_33 : decode code 33 = .ok (.tableswitch 1477 0 45 #[199, 262, 285, 298, 321, 344, 377, 410, 433, 456, 479, 512, 545, 578, 621, 654, 687, 710, 733, 766, 809, 832, 855, 878, 911, 924, 957, 990, 1013, 1036, 1079, 1132, 1145, 1178, 1211, 1234, 1257, 1280, 1293, 1316, 1339, 1352, 1385, 1398, 1421, 1464], 199) := zdal_p dlw_A_0 (i := 21) rfl
theorem d_Law_232 : decode code 232 = .ok (.aload_n 1, 1) := zdal_p dlw_A_0 (i := 22) rfl
theorem d_Law_233 : decode code 233 = .ok (.aload_n 0, 1) := zdal_p dlw_A_0 (i := 23) rfl
theorem d_Law_234 : decode code 234 = .ok (.iload_n 3, 1) := zdal_p dlw_A_0 (i := 24) rfl
theorem d_Law_235 : decode code 235 = .ok (.iconst 1, 1) := zdal_p dlw_A_0 (i := 25) rfl
theorem d_Law_236 : decode code 236 = .ok (.iadd, 1) := zdal_p dlw_A_0 (i := 26) rfl
theorem d_Law_237 : decode code 237 = .ok (.iaload, 1) := zdal_p dlw_A_0 (i := 27) rfl
theorem d_Law_238 : decode code 238 = .ok (.aload_n 0, 1) := zdal_p dlw_A_0 (i := 28) rfl
theorem d_Law_239 : decode code 239 = .ok (.iload_n 3, 1) := zdal_p dlw_A_0 (i := 29) rfl
theorem d_Law_240 : decode code 240 = .ok (.iconst 2, 1) := zdal_p dlw_A_0 (i := 30) rfl
theorem d_Law_241 : decode code 241 = .ok (.iadd, 1) := zdal_p dlw_A_0 (i := 31) rfl
theorem d_Law_242 : decode code 242 = .ok (.iaload, 1) := zdal_p dlw_A_0 (i := 32) rfl
theorem d_Law_243 : decode code 243 = .ok (.aload_n 0, 1) := zdal_p dlw_A_0 (i := 33) rfl
theorem d_Law_244 : decode code 244 = .ok (.iload_n 3, 1) := zdal_p dlw_A_0 (i := 34) rfl
theorem d_Law_245 : decode code 245 = .ok (.iconst 3, 1) := zdal_p dlw_A_0 (i := 35) rfl
theorem d_Law_246 : decode code 246 = .ok (.iadd, 1) := zdal_p dlw_A_0 (i := 36) rfl
theorem d_Law_247 : decode code 247 = .ok (.iaload, 1) := zdal_p dlw_A_0 (i := 37) rfl
theorem d_Law_248 : decode code 248 = .ok (.aload_n 0, 1) := zdal_p dlw_A_0 (i := 38) rfl
theorem d_Law_249 : decode code 249 = .ok (.iload_n 3, 1) := zdal_p dlw_A_0 (i := 39) rfl
theorem d_Law_250 : decode code 250 = .ok (.iconst 4, 1) := zdal_p dlw_A_0 (i := 40) rfl
theorem d_Law_251 : decode code 251 = .ok (.iadd, 1) := zdal_p dlw_A_0 (i := 41) rfl
theorem d_Law_252 : decode code 252 = .ok (.iaload, 1) := zdal_p dlw_A_0 (i := 42) rfl
theorem d_Law_253 : decode code 253 = .ok (.aload_n 0, 1) := zdal_p dlw_A_0 (i := 43) rfl
theorem d_Law_254 : decode code 254 = .ok (.iload_n 3, 1) := zdal_p dlw_A_0 (i := 44) rfl
theorem d_Law_255 : decode code 255 = .ok (.iconst 5, 1) := zdal_p dlw_A_0 (i := 45) rfl
theorem d_Law_256 : decode code 256 = .ok (.iadd, 1) := zdal_p dlw_A_0 (i := 46) rfl
theorem d_Law_257 : decode code 257 = .ok (.iaload, 1) := zdal_p dlw_A_0 (i := 47) rfl
theorem d_Law_258 : decode code 258 = .ok (.invokevirtual 13, 3) := zdal_p dlw_A_0 (i := 48) rfl
theorem d_Law_261 : decode code 261 = .ok (.pop, 1) := zdal_p dlw_A_0 (i := 49) rfl
theorem d_Law_262 : decode code 262 = .ok (.aload_n 2, 1) := zdal_p dlw_A_0 (i := 50) rfl
theorem d_Law_263 : decode code 263 = .ok (.aload_n 0, 1) := zdal_p dlw_A_0 (i := 51) rfl
theorem d_Law_264 : decode code 264 = .ok (.iload_n 3, 1) := zdal_p dlw_A_0 (i := 52) rfl
theorem d_Law_265 : decode code 265 = .ok (.iconst 1, 1) := zdal_p dlw_A_0 (i := 53) rfl
theorem d_Law_266 : decode code 266 = .ok (.iadd, 1) := zdal_p dlw_A_0 (i := 54) rfl
theorem d_Law_267 : decode code 267 = .ok (.iaload, 1) := zdal_p dlw_A_0 (i := 55) rfl
theorem d_Law_268 : decode code 268 = .ok (.aload_n 0, 1) := zdal_p dlw_A_0 (i := 56) rfl
theorem d_Law_269 : decode code 269 = .ok (.iload_n 3, 1) := zdal_p dlw_A_0 (i := 57) rfl
theorem d_Law_270 : decode code 270 = .ok (.iconst 2, 1) := zdal_p dlw_A_0 (i := 58) rfl
theorem d_Law_271 : decode code 271 = .ok (.iadd, 1) := zdal_p dlw_A_0 (i := 59) rfl
theorem d_Law_272 : decode code 272 = .ok (.iaload, 1) := zdal_p dlw_A_0 (i := 60) rfl
theorem d_Law_273 : decode code 273 = .ok (.aload_n 0, 1) := zdal_p dlw_A_0 (i := 61) rfl
theorem d_Law_274 : decode code 274 = .ok (.iload_n 3, 1) := zdal_p dlw_A_0 (i := 62) rfl
theorem d_Law_275 : decode code 275 = .ok (.iconst 3, 1) := zdal_p dlw_A_0 (i := 63) rfl
theorem dlw_A_1 : zdal code [(276, (.iadd, 1)), (277, (.iaload, 1)), (278, (.aload_n 0, 1)), (279, (.iload_n 3, 1)), (280, (.iconst 4, 1)), (281, (.iadd, 1)), (282, (.iaload, 1)), (283, (.aload_n 0, 1)), (284, (.iload_n 3, 1)), (285, (.iconst 5, 1)), (286, (.iadd, 1)), (287, (.iaload, 1)), (288, (.invokevirtual 17, 3)), (291, (.pop, 1)), (292, (.goto 1218, 3)), (295, (.aload_n 1, 1)), (296, (.aload_n 0, 1)), (297, (.iload_n 3, 1)), (298, (.iconst 1, 1)), (299, (.iadd, 1)), (300, (.iaload, 1)), (301, (.invokevirtual 18, 3)), (304, (.pop, 1)), (305, (.aload_n 2, 1)), (306, (.aload_n 0, 1)), (307, (.iload_n 3, 1)), (308, (.iconst 1, 1)), (309, (.iadd, 1)), (310, (.iaload, 1)), (311, (.invokevirtual 22, 3)), (314, (.pop, 1)), (315, (.goto 1195, 3)), (318, (.aload_n 1, 1)), (319, (.invokevirtual 23, 3)), (322, (.pop, 1)), (323, (.aload_n 2, 1)), (324, (.invokevirtual 27, 3)), (327, (.pop, 1)), (328, (.goto 1182, 3)), (331, (.aload_n 1, 1)), (332, (.aload_n 0, 1)), (333, (.iload_n 3, 1)), (334, (.iconst 1, 1)), (335, (.iadd, 1)), (336, (.iaload, 1)), (337, (.invokevirtual 28, 3)), (340, (.pop, 1)), (341, (.aload_n 2, 1)), (342, (.aload_n 0, 1)), (343, (.iload_n 3, 1)), (344, (.iconst 1, 1)), (345, (.iadd, 1)), (346, (.iaload, 1)), (347, (.invokevirtual 31, 3)), (350, (.pop, 1)), (351, (.goto 1159, 3)), (354, (.aload_n 1, 1)), (355, (.aload_n 0, 1)), (356, (.iload_n 3, 1)), (357, (.iconst 1, 1)), (358, (.iadd, 1)), (359, (.iaload, 1)), (360, (.invokevirtual 32, 3)), (363, (.pop, 1))] = true := zDs 276 (by decide +kernel)
theorem d_Law_276 : decode code 276 = .ok (.iadd, 1) := zdal_p dlw_A_1 (i := 0) rfl
theorem d_Law_277 : decode code 277 = .ok (.iaload, 1) := zdal_p dlw_A_1 (i := 1) rfl
theorem d_Law_278 : decode code 278 = .ok (.aload_n 0, 1) := zdal_p dlw_A_1 (i := 2) rfl
theorem d_Law_279 : decode code 279 = .ok (.iload_n 3, 1) := zdal_p dlw_A_1 (i := 3) rfl
theorem d_Law_280 : decode code 280 = .ok (.iconst 4, 1) := zdal_p dlw_A_1 (i := 4) rfl
theorem d_Law_281 : decode code 281 = .ok (.iadd, 1) := zdal_p dlw_A_1 (i := 5) rfl
theorem d_Law_282 : decode code 282 = .ok (.iaload, 1) := zdal_p dlw_A_1 (i := 6) rfl
theorem d_Law_283 : decode code 283 = .ok (.aload_n 0, 1) := zdal_p dlw_A_1 (i := 7) rfl
theorem d_Law_284 : decode code 284 = .ok (.iload_n 3, 1) := zdal_p dlw_A_1 (i := 8) rfl
theorem d_Law_285 : decode code 285 = .ok (.iconst 5, 1) := zdal_p dlw_A_1 (i := 9) rfl
theorem d_Law_286 : decode code 286 = .ok (.iadd, 1) := zdal_p dlw_A_1 (i := 10) rfl
theorem d_Law_287 : decode code 287 = .ok (.iaload, 1) := zdal_p dlw_A_1 (i := 11) rfl
theorem d_Law_288 : decode code 288 = .ok (.invokevirtual 17, 3) := zdal_p dlw_A_1 (i := 12) rfl
theorem d_Law_291 : decode code 291 = .ok (.pop, 1) := zdal_p dlw_A_1 (i := 13) rfl
theorem d_Law_292 : decode code 292 = .ok (.goto 1218, 3) := zdal_p dlw_A_1 (i := 14) rfl
theorem d_Law_295 : decode code 295 = .ok (.aload_n 1, 1) := zdal_p dlw_A_1 (i := 15) rfl
theorem d_Law_296 : decode code 296 = .ok (.aload_n 0, 1) := zdal_p dlw_A_1 (i := 16) rfl
theorem d_Law_297 : decode code 297 = .ok (.iload_n 3, 1) := zdal_p dlw_A_1 (i := 17) rfl
theorem d_Law_298 : decode code 298 = .ok (.iconst 1, 1) := zdal_p dlw_A_1 (i := 18) rfl
theorem d_Law_299 : decode code 299 = .ok (.iadd, 1) := zdal_p dlw_A_1 (i := 19) rfl
theorem d_Law_300 : decode code 300 = .ok (.iaload, 1) := zdal_p dlw_A_1 (i := 20) rfl
theorem d_Law_301 : decode code 301 = .ok (.invokevirtual 18, 3) := zdal_p dlw_A_1 (i := 21) rfl
theorem d_Law_304 : decode code 304 = .ok (.pop, 1) := zdal_p dlw_A_1 (i := 22) rfl
theorem d_Law_305 : decode code 305 = .ok (.aload_n 2, 1) := zdal_p dlw_A_1 (i := 23) rfl
theorem d_Law_306 : decode code 306 = .ok (.aload_n 0, 1) := zdal_p dlw_A_1 (i := 24) rfl
theorem d_Law_307 : decode code 307 = .ok (.iload_n 3, 1) := zdal_p dlw_A_1 (i := 25) rfl
theorem d_Law_308 : decode code 308 = .ok (.iconst 1, 1) := zdal_p dlw_A_1 (i := 26) rfl
theorem d_Law_309 : decode code 309 = .ok (.iadd, 1) := zdal_p dlw_A_1 (i := 27) rfl
theorem d_Law_310 : decode code 310 = .ok (.iaload, 1) := zdal_p dlw_A_1 (i := 28) rfl
theorem d_Law_311 : decode code 311 = .ok (.invokevirtual 22, 3) := zdal_p dlw_A_1 (i := 29) rfl
theorem d_Law_314 : decode code 314 = .ok (.pop, 1) := zdal_p dlw_A_1 (i := 30) rfl
theorem d_Law_315 : decode code 315 = .ok (.goto 1195, 3) := zdal_p dlw_A_1 (i := 31) rfl
theorem d_Law_318 : decode code 318 = .ok (.aload_n 1, 1) := zdal_p dlw_A_1 (i := 32) rfl
theorem d_Law_319 : decode code 319 = .ok (.invokevirtual 23, 3) := zdal_p dlw_A_1 (i := 33) rfl
theorem d_Law_322 : decode code 322 = .ok (.pop, 1) := zdal_p dlw_A_1 (i := 34) rfl
theorem d_Law_323 : decode code 323 = .ok (.aload_n 2, 1) := zdal_p dlw_A_1 (i := 35) rfl
theorem d_Law_324 : decode code 324 = .ok (.invokevirtual 27, 3) := zdal_p dlw_A_1 (i := 36) rfl
theorem d_Law_327 : decode code 327 = .ok (.pop, 1) := zdal_p dlw_A_1 (i := 37) rfl
theorem d_Law_328 : decode code 328 = .ok (.goto 1182, 3) := zdal_p dlw_A_1 (i := 38) rfl
theorem d_Law_331 : decode code 331 = .ok (.aload_n 1, 1) := zdal_p dlw_A_1 (i := 39) rfl
theorem d_Law_332 : decode code 332 = .ok (.aload_n 0, 1) := zdal_p dlw_A_1 (i := 40) rfl
theorem d_Law_333 : decode code 333 = .ok (.iload_n 3, 1) := zdal_p dlw_A_1 (i := 41) rfl
theorem d_Law_334 : decode code 334 = .ok (.iconst 1, 1) := zdal_p dlw_A_1 (i := 42) rfl
theorem d_Law_335 : decode code 335 = .ok (.iadd, 1) := zdal_p dlw_A_1 (i := 43) rfl
theorem d_Law_336 : decode code 336 = .ok (.iaload, 1) := zdal_p dlw_A_1 (i := 44) rfl
theorem d_Law_337 : decode code 337 = .ok (.invokevirtual 28, 3) := zdal_p dlw_A_1 (i := 45) rfl
theorem d_Law_340 : decode code 340 = .ok (.pop, 1) := zdal_p dlw_A_1 (i := 46) rfl
theorem d_Law_341 : decode code 341 = .ok (.aload_n 2, 1) := zdal_p dlw_A_1 (i := 47) rfl
theorem d_Law_342 : decode code 342 = .ok (.aload_n 0, 1) := zdal_p dlw_A_1 (i := 48) rfl
theorem d_Law_343 : decode code 343 = .ok (.iload_n 3, 1) := zdal_p dlw_A_1 (i := 49) rfl
theorem d_Law_344 : decode code 344 = .ok (.iconst 1, 1) := zdal_p dlw_A_1 (i := 50) rfl
theorem d_Law_345 : decode code 345 = .ok (.iadd, 1) := zdal_p dlw_A_1 (i := 51) rfl
theorem d_Law_346 : decode code 346 = .ok (.iaload, 1) := zdal_p dlw_A_1 (i := 52) rfl
theorem d_Law_347 : decode code 347 = .ok (.invokevirtual 31, 3) := zdal_p dlw_A_1 (i := 53) rfl
theorem d_Law_350 : decode code 350 = .ok (.pop, 1) := zdal_p dlw_A_1 (i := 54) rfl
theorem d_Law_351 : decode code 351 = .ok (.goto 1159, 3) := zdal_p dlw_A_1 (i := 55) rfl
theorem d_Law_354 : decode code 354 = .ok (.aload_n 1, 1) := zdal_p dlw_A_1 (i := 56) rfl
theorem d_Law_355 : decode code 355 = .ok (.aload_n 0, 1) := zdal_p dlw_A_1 (i := 57) rfl
theorem d_Law_356 : decode code 356 = .ok (.iload_n 3, 1) := zdal_p dlw_A_1 (i := 58) rfl
theorem d_Law_357 : decode code 357 = .ok (.iconst 1, 1) := zdal_p dlw_A_1 (i := 59) rfl
theorem d_Law_358 : decode code 358 = .ok (.iadd, 1) := zdal_p dlw_A_1 (i := 60) rfl
theorem d_Law_359 : decode code 359 = .ok (.iaload, 1) := zdal_p dlw_A_1 (i := 61) rfl
theorem d_Law_360 : decode code 360 = .ok (.invokevirtual 32, 3) := zdal_p dlw_A_1 (i := 62) rfl
theorem d_Law_363 : decode code 363 = .ok (.pop, 1) := zdal_p dlw_A_1 (i := 63) rfl
theorem dlw_A_2 : zdal code [(364, (.aload_n 2, 1)), (365, (.aload_n 0, 1)), (366, (.iload_n 3, 1)), (367, (.iconst 1, 1)), (368, (.iadd, 1)), (369, (.iaload, 1)), (370, (.invokevirtual 35, 3)), (373, (.pop, 1)), (374, (.goto 1136, 3)), (377, (.aload_n 1, 1)), (378, (.aload_n 0, 1)), (379, (.iload_n 3, 1)), (380, (.iconst 1, 1)), (381, (.iadd, 1)), (382, (.iaload, 1)), (383, (.aload_n 0, 1)), (384, (.iload_n 3, 1)), (385, (.iconst 2, 1)), (386, (.iadd, 1)), (387, (.iaload, 1)), (388, (.invokevirtual 36, 3)), (391, (.pop, 1)), (392, (.aload_n 2, 1)), (393, (.aload_n 0, 1)), (394, (.iload_n 3, 1)), (395, (.iconst 1, 1)), (396, (.iadd, 1)), (397, (.iaload, 1)), (398, (.aload_n 0, 1)), (399, (.iload_n 3, 1)), (400, (.iconst 2, 1)), (401, (.iadd, 1)), (402, (.iaload, 1)), (403, (.invokevirtual 40, 3)), (406, (.pop, 1)), (407, (.goto 1103, 3)), (410, (.aload_n 1, 1)), (411, (.aload_n 0, 1)), (412, (.iload_n 3, 1)), (413, (.iconst 1, 1)), (414, (.iadd, 1)), (415, (.iaload, 1)), (416, (.aload_n 0, 1)), (417, (.iload_n 3, 1)), (418, (.iconst 2, 1)), (419, (.iadd, 1)), (420, (.iaload, 1)), (421, (.invokevirtual 41, 3)), (424, (.pop, 1)), (425, (.aload_n 2, 1)), (426, (.aload_n 0, 1)), (427, (.iload_n 3, 1)), (428, (.iconst 1, 1)), (429, (.iadd, 1)), (430, (.iaload, 1)), (431, (.aload_n 0, 1)), (432, (.iload_n 3, 1)), (433, (.iconst 2, 1)), (434, (.iadd, 1)), (435, (.iaload, 1)), (436, (.invokevirtual 44, 3)), (439, (.pop, 1)), (440, (.goto 1070, 3)), (443, (.aload_n 1, 1))] = true := zDs 364 (by decide +kernel)
theorem d_Law_364 : decode code 364 = .ok (.aload_n 2, 1) := zdal_p dlw_A_2 (i := 0) rfl
theorem d_Law_365 : decode code 365 = .ok (.aload_n 0, 1) := zdal_p dlw_A_2 (i := 1) rfl
theorem d_Law_366 : decode code 366 = .ok (.iload_n 3, 1) := zdal_p dlw_A_2 (i := 2) rfl
theorem d_Law_367 : decode code 367 = .ok (.iconst 1, 1) := zdal_p dlw_A_2 (i := 3) rfl
theorem d_Law_368 : decode code 368 = .ok (.iadd, 1) := zdal_p dlw_A_2 (i := 4) rfl
theorem d_Law_369 : decode code 369 = .ok (.iaload, 1) := zdal_p dlw_A_2 (i := 5) rfl
theorem d_Law_370 : decode code 370 = .ok (.invokevirtual 35, 3) := zdal_p dlw_A_2 (i := 6) rfl
theorem d_Law_373 : decode code 373 = .ok (.pop, 1) := zdal_p dlw_A_2 (i := 7) rfl
theorem d_Law_374 : decode code 374 = .ok (.goto 1136, 3) := zdal_p dlw_A_2 (i := 8) rfl
theorem d_Law_377 : decode code 377 = .ok (.aload_n 1, 1) := zdal_p dlw_A_2 (i := 9) rfl
theorem d_Law_378 : decode code 378 = .ok (.aload_n 0, 1) := zdal_p dlw_A_2 (i := 10) rfl
theorem d_Law_379 : decode code 379 = .ok (.iload_n 3, 1) := zdal_p dlw_A_2 (i := 11) rfl
theorem d_Law_380 : decode code 380 = .ok (.iconst 1, 1) := zdal_p dlw_A_2 (i := 12) rfl
theorem d_Law_381 : decode code 381 = .ok (.iadd, 1) := zdal_p dlw_A_2 (i := 13) rfl
theorem d_Law_382 : decode code 382 = .ok (.iaload, 1) := zdal_p dlw_A_2 (i := 14) rfl
theorem d_Law_383 : decode code 383 = .ok (.aload_n 0, 1) := zdal_p dlw_A_2 (i := 15) rfl
theorem d_Law_384 : decode code 384 = .ok (.iload_n 3, 1) := zdal_p dlw_A_2 (i := 16) rfl
theorem d_Law_385 : decode code 385 = .ok (.iconst 2, 1) := zdal_p dlw_A_2 (i := 17) rfl
theorem d_Law_386 : decode code 386 = .ok (.iadd, 1) := zdal_p dlw_A_2 (i := 18) rfl
theorem d_Law_387 : decode code 387 = .ok (.iaload, 1) := zdal_p dlw_A_2 (i := 19) rfl
theorem d_Law_388 : decode code 388 = .ok (.invokevirtual 36, 3) := zdal_p dlw_A_2 (i := 20) rfl
theorem d_Law_391 : decode code 391 = .ok (.pop, 1) := zdal_p dlw_A_2 (i := 21) rfl
theorem d_Law_392 : decode code 392 = .ok (.aload_n 2, 1) := zdal_p dlw_A_2 (i := 22) rfl
theorem d_Law_393 : decode code 393 = .ok (.aload_n 0, 1) := zdal_p dlw_A_2 (i := 23) rfl
theorem d_Law_394 : decode code 394 = .ok (.iload_n 3, 1) := zdal_p dlw_A_2 (i := 24) rfl
theorem d_Law_395 : decode code 395 = .ok (.iconst 1, 1) := zdal_p dlw_A_2 (i := 25) rfl
theorem d_Law_396 : decode code 396 = .ok (.iadd, 1) := zdal_p dlw_A_2 (i := 26) rfl
theorem d_Law_397 : decode code 397 = .ok (.iaload, 1) := zdal_p dlw_A_2 (i := 27) rfl
theorem d_Law_398 : decode code 398 = .ok (.aload_n 0, 1) := zdal_p dlw_A_2 (i := 28) rfl
theorem d_Law_399 : decode code 399 = .ok (.iload_n 3, 1) := zdal_p dlw_A_2 (i := 29) rfl
theorem d_Law_400 : decode code 400 = .ok (.iconst 2, 1) := zdal_p dlw_A_2 (i := 30) rfl
theorem d_Law_401 : decode code 401 = .ok (.iadd, 1) := zdal_p dlw_A_2 (i := 31) rfl
theorem d_Law_402 : decode code 402 = .ok (.iaload, 1) := zdal_p dlw_A_2 (i := 32) rfl
theorem d_Law_403 : decode code 403 = .ok (.invokevirtual 40, 3) := zdal_p dlw_A_2 (i := 33) rfl
theorem d_Law_406 : decode code 406 = .ok (.pop, 1) := zdal_p dlw_A_2 (i := 34) rfl
theorem d_Law_407 : decode code 407 = .ok (.goto 1103, 3) := zdal_p dlw_A_2 (i := 35) rfl
theorem d_Law_410 : decode code 410 = .ok (.aload_n 1, 1) := zdal_p dlw_A_2 (i := 36) rfl
theorem d_Law_411 : decode code 411 = .ok (.aload_n 0, 1) := zdal_p dlw_A_2 (i := 37) rfl
theorem d_Law_412 : decode code 412 = .ok (.iload_n 3, 1) := zdal_p dlw_A_2 (i := 38) rfl
theorem d_Law_413 : decode code 413 = .ok (.iconst 1, 1) := zdal_p dlw_A_2 (i := 39) rfl
theorem d_Law_414 : decode code 414 = .ok (.iadd, 1) := zdal_p dlw_A_2 (i := 40) rfl
theorem d_Law_415 : decode code 415 = .ok (.iaload, 1) := zdal_p dlw_A_2 (i := 41) rfl
theorem d_Law_416 : decode code 416 = .ok (.aload_n 0, 1) := zdal_p dlw_A_2 (i := 42) rfl
theorem d_Law_417 : decode code 417 = .ok (.iload_n 3, 1) := zdal_p dlw_A_2 (i := 43) rfl
theorem d_Law_418 : decode code 418 = .ok (.iconst 2, 1) := zdal_p dlw_A_2 (i := 44) rfl
theorem d_Law_419 : decode code 419 = .ok (.iadd, 1) := zdal_p dlw_A_2 (i := 45) rfl
theorem d_Law_420 : decode code 420 = .ok (.iaload, 1) := zdal_p dlw_A_2 (i := 46) rfl
theorem d_Law_421 : decode code 421 = .ok (.invokevirtual 41, 3) := zdal_p dlw_A_2 (i := 47) rfl
theorem d_Law_424 : decode code 424 = .ok (.pop, 1) := zdal_p dlw_A_2 (i := 48) rfl
theorem d_Law_425 : decode code 425 = .ok (.aload_n 2, 1) := zdal_p dlw_A_2 (i := 49) rfl
theorem d_Law_426 : decode code 426 = .ok (.aload_n 0, 1) := zdal_p dlw_A_2 (i := 50) rfl
theorem d_Law_427 : decode code 427 = .ok (.iload_n 3, 1) := zdal_p dlw_A_2 (i := 51) rfl
theorem d_Law_428 : decode code 428 = .ok (.iconst 1, 1) := zdal_p dlw_A_2 (i := 52) rfl
theorem d_Law_429 : decode code 429 = .ok (.iadd, 1) := zdal_p dlw_A_2 (i := 53) rfl
theorem d_Law_430 : decode code 430 = .ok (.iaload, 1) := zdal_p dlw_A_2 (i := 54) rfl
theorem d_Law_431 : decode code 431 = .ok (.aload_n 0, 1) := zdal_p dlw_A_2 (i := 55) rfl
theorem d_Law_432 : decode code 432 = .ok (.iload_n 3, 1) := zdal_p dlw_A_2 (i := 56) rfl
theorem d_Law_433 : decode code 433 = .ok (.iconst 2, 1) := zdal_p dlw_A_2 (i := 57) rfl
theorem d_Law_434 : decode code 434 = .ok (.iadd, 1) := zdal_p dlw_A_2 (i := 58) rfl
theorem d_Law_435 : decode code 435 = .ok (.iaload, 1) := zdal_p dlw_A_2 (i := 59) rfl
theorem d_Law_436 : decode code 436 = .ok (.invokevirtual 44, 3) := zdal_p dlw_A_2 (i := 60) rfl
theorem d_Law_439 : decode code 439 = .ok (.pop, 1) := zdal_p dlw_A_2 (i := 61) rfl
theorem d_Law_440 : decode code 440 = .ok (.goto 1070, 3) := zdal_p dlw_A_2 (i := 62) rfl
theorem d_Law_443 : decode code 443 = .ok (.aload_n 1, 1) := zdal_p dlw_A_2 (i := 63) rfl
theorem dlw_A_3 : zdal code [(444, (.aload_n 0, 1)), (445, (.iload_n 3, 1)), (446, (.iconst 1, 1)), (447, (.iadd, 1)), (448, (.iaload, 1)), (449, (.invokevirtual 45, 3)), (452, (.pop, 1)), (453, (.aload_n 2, 1)), (454, (.aload_n 0, 1)), (455, (.iload_n 3, 1)), (456, (.iconst 1, 1)), (457, (.iadd, 1)), (458, (.iaload, 1)), (459, (.invokevirtual 48, 3)), (462, (.pop, 1)), (463, (.goto 1047, 3)), (466, (.aload_n 1, 1)), (467, (.aload_n 0, 1)), (468, (.iload_n 3, 1)), (469, (.iconst 1, 1)), (470, (.iadd, 1)), (471, (.iaload, 1)), (472, (.invokevirtual 49, 3)), (475, (.pop, 1)), (476, (.aload_n 2, 1)), (477, (.aload_n 0, 1)), (478, (.iload_n 3, 1)), (479, (.iconst 1, 1)), (480, (.iadd, 1)), (481, (.iaload, 1)), (482, (.invokevirtual 52, 3)), (485, (.pop, 1)), (486, (.goto 1024, 3)), (489, (.aload_n 1, 1)), (490, (.aload_n 0, 1)), (491, (.iload_n 3, 1)), (492, (.iconst 1, 1)), (493, (.iadd, 1)), (494, (.iaload, 1)), (495, (.invokevirtual 53, 3)), (498, (.pop, 1)), (499, (.aload_n 2, 1)), (500, (.aload_n 0, 1)), (501, (.iload_n 3, 1)), (502, (.iconst 1, 1)), (503, (.iadd, 1)), (504, (.iaload, 1)), (505, (.invokevirtual 56, 3)), (508, (.pop, 1)), (509, (.goto 1001, 3)), (512, (.aload_n 1, 1)), (513, (.aload_n 0, 1)), (514, (.iload_n 3, 1)), (515, (.iconst 1, 1)), (516, (.iadd, 1)), (517, (.iaload, 1)), (518, (.aload_n 0, 1)), (519, (.iload_n 3, 1)), (520, (.iconst 2, 1)), (521, (.iadd, 1)), (522, (.iaload, 1)), (523, (.invokevirtual 57, 3)), (526, (.pop, 1)), (527, (.aload_n 2, 1))] = true := zDs 444 (by decide +kernel)
theorem d_Law_444 : decode code 444 = .ok (.aload_n 0, 1) := zdal_p dlw_A_3 (i := 0) rfl
theorem d_Law_445 : decode code 445 = .ok (.iload_n 3, 1) := zdal_p dlw_A_3 (i := 1) rfl
theorem d_Law_446 : decode code 446 = .ok (.iconst 1, 1) := zdal_p dlw_A_3 (i := 2) rfl
theorem d_Law_447 : decode code 447 = .ok (.iadd, 1) := zdal_p dlw_A_3 (i := 3) rfl
theorem d_Law_448 : decode code 448 = .ok (.iaload, 1) := zdal_p dlw_A_3 (i := 4) rfl
theorem d_Law_449 : decode code 449 = .ok (.invokevirtual 45, 3) := zdal_p dlw_A_3 (i := 5) rfl
theorem d_Law_452 : decode code 452 = .ok (.pop, 1) := zdal_p dlw_A_3 (i := 6) rfl
theorem d_Law_453 : decode code 453 = .ok (.aload_n 2, 1) := zdal_p dlw_A_3 (i := 7) rfl
theorem d_Law_454 : decode code 454 = .ok (.aload_n 0, 1) := zdal_p dlw_A_3 (i := 8) rfl
theorem d_Law_455 : decode code 455 = .ok (.iload_n 3, 1) := zdal_p dlw_A_3 (i := 9) rfl
theorem d_Law_456 : decode code 456 = .ok (.iconst 1, 1) := zdal_p dlw_A_3 (i := 10) rfl
theorem d_Law_457 : decode code 457 = .ok (.iadd, 1) := zdal_p dlw_A_3 (i := 11) rfl
theorem d_Law_458 : decode code 458 = .ok (.iaload, 1) := zdal_p dlw_A_3 (i := 12) rfl
theorem d_Law_459 : decode code 459 = .ok (.invokevirtual 48, 3) := zdal_p dlw_A_3 (i := 13) rfl
theorem d_Law_462 : decode code 462 = .ok (.pop, 1) := zdal_p dlw_A_3 (i := 14) rfl
theorem d_Law_463 : decode code 463 = .ok (.goto 1047, 3) := zdal_p dlw_A_3 (i := 15) rfl
theorem d_Law_466 : decode code 466 = .ok (.aload_n 1, 1) := zdal_p dlw_A_3 (i := 16) rfl
theorem d_Law_467 : decode code 467 = .ok (.aload_n 0, 1) := zdal_p dlw_A_3 (i := 17) rfl
theorem d_Law_468 : decode code 468 = .ok (.iload_n 3, 1) := zdal_p dlw_A_3 (i := 18) rfl
theorem d_Law_469 : decode code 469 = .ok (.iconst 1, 1) := zdal_p dlw_A_3 (i := 19) rfl
theorem d_Law_470 : decode code 470 = .ok (.iadd, 1) := zdal_p dlw_A_3 (i := 20) rfl
theorem d_Law_471 : decode code 471 = .ok (.iaload, 1) := zdal_p dlw_A_3 (i := 21) rfl
theorem d_Law_472 : decode code 472 = .ok (.invokevirtual 49, 3) := zdal_p dlw_A_3 (i := 22) rfl
theorem d_Law_475 : decode code 475 = .ok (.pop, 1) := zdal_p dlw_A_3 (i := 23) rfl
theorem d_Law_476 : decode code 476 = .ok (.aload_n 2, 1) := zdal_p dlw_A_3 (i := 24) rfl
theorem d_Law_477 : decode code 477 = .ok (.aload_n 0, 1) := zdal_p dlw_A_3 (i := 25) rfl
theorem d_Law_478 : decode code 478 = .ok (.iload_n 3, 1) := zdal_p dlw_A_3 (i := 26) rfl
theorem d_Law_479 : decode code 479 = .ok (.iconst 1, 1) := zdal_p dlw_A_3 (i := 27) rfl
theorem d_Law_480 : decode code 480 = .ok (.iadd, 1) := zdal_p dlw_A_3 (i := 28) rfl
theorem d_Law_481 : decode code 481 = .ok (.iaload, 1) := zdal_p dlw_A_3 (i := 29) rfl
theorem d_Law_482 : decode code 482 = .ok (.invokevirtual 52, 3) := zdal_p dlw_A_3 (i := 30) rfl
theorem d_Law_485 : decode code 485 = .ok (.pop, 1) := zdal_p dlw_A_3 (i := 31) rfl
theorem d_Law_486 : decode code 486 = .ok (.goto 1024, 3) := zdal_p dlw_A_3 (i := 32) rfl
theorem d_Law_489 : decode code 489 = .ok (.aload_n 1, 1) := zdal_p dlw_A_3 (i := 33) rfl
theorem d_Law_490 : decode code 490 = .ok (.aload_n 0, 1) := zdal_p dlw_A_3 (i := 34) rfl
theorem d_Law_491 : decode code 491 = .ok (.iload_n 3, 1) := zdal_p dlw_A_3 (i := 35) rfl
theorem d_Law_492 : decode code 492 = .ok (.iconst 1, 1) := zdal_p dlw_A_3 (i := 36) rfl
theorem d_Law_493 : decode code 493 = .ok (.iadd, 1) := zdal_p dlw_A_3 (i := 37) rfl
theorem d_Law_494 : decode code 494 = .ok (.iaload, 1) := zdal_p dlw_A_3 (i := 38) rfl
theorem d_Law_495 : decode code 495 = .ok (.invokevirtual 53, 3) := zdal_p dlw_A_3 (i := 39) rfl
theorem d_Law_498 : decode code 498 = .ok (.pop, 1) := zdal_p dlw_A_3 (i := 40) rfl
theorem d_Law_499 : decode code 499 = .ok (.aload_n 2, 1) := zdal_p dlw_A_3 (i := 41) rfl
theorem d_Law_500 : decode code 500 = .ok (.aload_n 0, 1) := zdal_p dlw_A_3 (i := 42) rfl
theorem d_Law_501 : decode code 501 = .ok (.iload_n 3, 1) := zdal_p dlw_A_3 (i := 43) rfl
theorem d_Law_502 : decode code 502 = .ok (.iconst 1, 1) := zdal_p dlw_A_3 (i := 44) rfl
theorem d_Law_503 : decode code 503 = .ok (.iadd, 1) := zdal_p dlw_A_3 (i := 45) rfl
theorem d_Law_504 : decode code 504 = .ok (.iaload, 1) := zdal_p dlw_A_3 (i := 46) rfl
theorem d_Law_505 : decode code 505 = .ok (.invokevirtual 56, 3) := zdal_p dlw_A_3 (i := 47) rfl
theorem d_Law_508 : decode code 508 = .ok (.pop, 1) := zdal_p dlw_A_3 (i := 48) rfl
theorem d_Law_509 : decode code 509 = .ok (.goto 1001, 3) := zdal_p dlw_A_3 (i := 49) rfl
theorem d_Law_512 : decode code 512 = .ok (.aload_n 1, 1) := zdal_p dlw_A_3 (i := 50) rfl
theorem d_Law_513 : decode code 513 = .ok (.aload_n 0, 1) := zdal_p dlw_A_3 (i := 51) rfl
theorem d_Law_514 : decode code 514 = .ok (.iload_n 3, 1) := zdal_p dlw_A_3 (i := 52) rfl
theorem d_Law_515 : decode code 515 = .ok (.iconst 1, 1) := zdal_p dlw_A_3 (i := 53) rfl
theorem d_Law_516 : decode code 516 = .ok (.iadd, 1) := zdal_p dlw_A_3 (i := 54) rfl
theorem d_Law_517 : decode code 517 = .ok (.iaload, 1) := zdal_p dlw_A_3 (i := 55) rfl
theorem d_Law_518 : decode code 518 = .ok (.aload_n 0, 1) := zdal_p dlw_A_3 (i := 56) rfl
theorem d_Law_519 : decode code 519 = .ok (.iload_n 3, 1) := zdal_p dlw_A_3 (i := 57) rfl
theorem d_Law_520 : decode code 520 = .ok (.iconst 2, 1) := zdal_p dlw_A_3 (i := 58) rfl
theorem d_Law_521 : decode code 521 = .ok (.iadd, 1) := zdal_p dlw_A_3 (i := 59) rfl
theorem d_Law_522 : decode code 522 = .ok (.iaload, 1) := zdal_p dlw_A_3 (i := 60) rfl
theorem d_Law_523 : decode code 523 = .ok (.invokevirtual 57, 3) := zdal_p dlw_A_3 (i := 61) rfl
theorem d_Law_526 : decode code 526 = .ok (.pop, 1) := zdal_p dlw_A_3 (i := 62) rfl
theorem d_Law_527 : decode code 527 = .ok (.aload_n 2, 1) := zdal_p dlw_A_3 (i := 63) rfl
theorem dlw_A_4 : zdal code [(528, (.aload_n 0, 1)), (529, (.iload_n 3, 1)), (530, (.iconst 1, 1)), (531, (.iadd, 1))] = true := zDs 528 (by decide +kernel)
theorem d_Law_528 : decode code 528 = .ok (.aload_n 0, 1) := zdal_p dlw_A_4 (i := 0) rfl
theorem d_Law_529 : decode code 529 = .ok (.iload_n 3, 1) := zdal_p dlw_A_4 (i := 1) rfl
theorem d_Law_530 : decode code 530 = .ok (.iconst 1, 1) := zdal_p dlw_A_4 (i := 2) rfl
theorem d_Law_531 : decode code 531 = .ok (.iadd, 1) := zdal_p dlw_A_4 (i := 3) rfl
