theorem dlw_A_0 : zdal code [(0, (.new 7, 3)), (3, (.dup, 1)), (4, (.invokespecial 9, 3)), (7, (.astore_n 1, 1)), (8, (.new 10, 3)), (11, (.dup, 1)), (12, (.invokespecial 12, 3)), (15, (.astore_n 2, 1)), (16, (.iconst 0, 1)), (17, (.istore_n 3, 1)), (18, (.iload_n 3, 1)), (19, (.aload_n 0, 1)), (20, (.arraylength, 1)), (21, (.bipush 6, 2)), (23, (.isub, 1)), (24, (.if_icmp .gt 1492, 3)), (27, (.aload_n 0, 1)), (28, (.iload_n 3, 1)), (29, (.iaload, 1)), (30, (.bipush 63, 2)), (32, (.iand, 1)), (33, (.tableswitch 1477 0 45 #[199, 262, 285, 298, 321, 344, 377, 410, 433, 456, 479, 512, 545, 578, 621, 654, 687, 710, 733, 766, 809, 832, 855, 878, 911, 924, 957, 990, 1013, 1036, 1079, 1132, 1145, 1178, 1211, 1234, 1257, 1280, 1293, 1316, 1339, 1352, 1385, 1398, 1421, 1464], 199)), (232, (.aload_n 1, 1)), (233, (.aload_n 0, 1)), (234, (.iload_n 3, 1)), (235, (.iconst 1, 1)), (236, (.iadd, 1)), (237, (.iaload, 1)), (238, (.aload_n 0, 1)), (239, (.iload_n 3, 1)), (240, (.iconst 2, 1)), (241, (.iadd, 1)), (242, (.iaload, 1)), (243, (.aload_n 0, 1)), (244, (.iload_n 3, 1)), (245, (.iconst 3, 1)), (246, (.iadd, 1)), (247, (.iaload, 1)), (248, (.aload_n 0, 1)), (249, (.iload_n 3, 1)), (250, (.iconst 4, 1)), (251, (.iadd, 1)), (252, (.iaload, 1)), (253, (.aload_n 0, 1)), (254, (.iload_n 3, 1)), (255, (.iconst 5, 1)), (256, (.iadd, 1)), (257, (.iaload, 1)), (258, (.invokevirtual 13, 3)), (261, (.pop, 1)), (262, (.aload_n 2, 1)), (263, (.aload_n 0, 1)), (264, (.iload_n 3, 1)), (265, (.iconst 1, 1)), (266, (.iadd, 1)), (267, (.iaload, 1)), (268, (.aload_n 0, 1)), (269, (.iload_n 3, 1)), (270, (.iconst 2, 1)), (271, (.iadd, 1)), (272, (.iaload, 1)), (273, (.aload_n 0, 1)), (274, (.iload_n 3, 1)), (275, (.iconst 3, 1))] = true := zYQs 0 (by decide +kernel)
theorem d_Law_0 : decode code 0 = .ok (.new 7, 3) := zdal_p dlw_A_0 (i := 0) rfl
theorem d_Law_3 : decode code 3 = .ok (.dup, 1) := zdal_p dlw_A_0 (i := 1) rfl
theorem d_Law_4 : decode code 4 = .ok (.invokespecial 9, 3) := zdal_p dlw_A_0 (i := 2) rfl
theorem d_Law_7 : decode code 7 = .ok (.astore_n 1, 1) := zdal_p dlw_A_0 (i := 3) rfl
theorem d_Law_8 : decode code 8 = .ok (.new 10, 3) := zdal_p dlw_A_0 (i := 4) rfl
theorem d_Law_11 : decode code 11 = .ok (.dup, 1) := zdal_p dlw_A_0 (i := 5) rfl
theorem d_Law_12 : decode code 12 = .ok (.invokespecial 12, 3) := zdal_p dlw_A_0 (i := 6) rfl
theorem d_Law_15 : decode code 15 = .ok (.astore_n 2, 1) := zdal_p dlw_A_0 (i := 7) rfl
theorem d_Law_16 : decode code 16 = .ok (.iconst 0, 1) := zdal_p dlw_A_0 (i := 8) rfl
theorem d_Law_17 : decode code 17 = .ok (.istore_n 3, 1) := zdal_p dlw_A_0 (i := 9) rfl
theorem d_Law_18 : decode code 18 = .ok (.iload_n 3, 1) := zdal_p dlw_A_0 (i := 10) rfl
theorem d_Law_19 : decode code 19 = .ok (.aload_n 0, 1) := zdal_p dlw_A_0 (i := 11) rfl
theorem d_Law_20 : decode code 20 = .ok (.arraylength, 1) := zdal_p dlw_A_0 (i := 12) rfl
theorem d_Law_21 : decode code 21 = .ok (.bipush 6, 2) := zdal_p dlw_A_0 (i := 13) rfl
theorem d_Law_23 : decode code 23 = .ok (.isub, 1) := zdal_p dlw_A_0 (i := 14) rfl
theorem d_Law_24 : decode code 24 = .ok (.if_icmp .gt 1492, 3) := zdal_p dlw_A_0 (i := 15) rfl
theorem d_Law_27 : decode code 27 = .ok (.aload_n 0, 1) := zdal_p dlw_A_0 (i := 16) rfl
theorem d_Law_28 : decode code 28 = .ok (.iload_n 3, 1) := zdal_p dlw_A_0 (i := 17) rfl
theorem d_Law_29 : decode code 29 = .ok (.iaload, 1) := zdal_p dlw_A_0 (i := 18) rfl
theorem d_Law_30 : decode code 30 = .ok (.bipush 63, 2) := zdal_p dlw_A_0 (i := 19) rfl
theorem d_Law_32 : decode code 32 = .ok (.iand, 1) := zdal_p dlw_A_0 (i := 20) rfl
theorem d_Law_33 : decode code 33 = .ok (.tableswitch 1477 0 45 #[199, 262, 285, 298, 321, 344, 377, 410, 433, 456, 479, 512, 545, 578, 621, 654, 687, 710, 733, 766, 809, 832, 855, 878, 911, 924, 957, 990, 1013, 1036, 1079, 1132, 1145, 1178, 1211, 1234, 1257, 1280, 1293, 1316, 1339, 1352, 1385, 1398, 1421, 1464], 199) := zdal_p dlw_A_0 (i := 21) rfl
theorem d_Law_232 : decode code 232 = .ok (.aload_n 1, 1) := zdal_p dlw_A_0 (i := 22) rfl
theorem d_Law_233 : decode code 233 = .ok (.aload_n 0, 1) := zdal_p dlw_A_0 (i := 23) rfl
theorem d_Law_234 : decode code 234 = .ok (.iload_n 3, 1) := zdal_p dlw_A_0 (i := 24) rfl
theorem d_Law_235 : decode code 235 = .ok (.iconst 1, 1) := zdal_p dlw_A_0 (i := 25) rfl
theorem d_Law_236 : decode code 236 = .ok (.iadd, 1) := zdal_p dlw_A_0 (i := 26) rfl
theorem d_Law_237 : decode code 237 = .ok (.iaload, 1) := zdal_p dlw_A_0 (i := 27) rfl
theorem d_Law_238 : decode code 238 = .ok (.aload_n 0, 1) := zdal_p dlw_A_0 (i := 28) rfl
theorem d_Law_239 : decode code 239 = .ok (.iload_n 3, 1) := zdal_p dlw_A_0 (i := 29) rfl
theorem d_Law_240 : decode code 240 = .ok (.iconst 2, 1) := zdal_p dlw_A_0 (i := 30) rfl
theorem d_Law_241 : decode code 241 = .ok (.iadd, 1) := zdal_p dlw_A_0 (i := 31) rfl
theorem d_Law_242 : decode code 242 = .ok (.iaload, 1) := zdal_p dlw_A_0 (i := 32) rfl
theorem d_Law_243 : decode code 243 = .ok (.aload_n 0, 1) := zdal_p dlw_A_0 (i := 33) rfl
theorem d_Law_244 : decode code 244 = .ok (.iload_n 3, 1) := zdal_p dlw_A_0 (i := 34) rfl
theorem d_Law_245 : decode code 245 = .ok (.iconst 3, 1) := zdal_p dlw_A_0 (i := 35) rfl
theorem d_Law_246 : decode code 246 = .ok (.iadd, 1) := zdal_p dlw_A_0 (i := 36) rfl
theorem d_Law_247 : decode code 247 = .ok (.iaload, 1) := zdal_p dlw_A_0 (i := 37) rfl
theorem d_Law_248 : decode code 248 = .ok (.aload_n 0, 1) := zdal_p dlw_A_0 (i := 38) rfl
theorem d_Law_249 : decode code 249 = .ok (.iload_n 3, 1) := zdal_p dlw_A_0 (i := 39) rfl
theorem d_Law_250 : decode code 250 = .ok (.iconst 4, 1) := zdal_p dlw_A_0 (i := 40) rfl
theorem d_Law_251 : decode code 251 = .ok (.iadd, 1) := zdal_p dlw_A_0 (i := 41) rfl
theorem d_Law_252 : decode code 252 = .ok (.iaload, 1) := zdal_p dlw_A_0 (i := 42) rfl
theorem d_Law_253 : decode code 253 = .ok (.aload_n 0, 1) := zdal_p dlw_A_0 (i := 43) rfl
theorem d_Law_254 : decode code 254 = .ok (.iload_n 3, 1) := zdal_p dlw_A_0 (i := 44) rfl
theorem d_Law_255 : decode code 255 = .ok (.iconst 5, 1) := zdal_p dlw_A_0 (i := 45) rfl
theorem d_Law_256 : decode code 256 = .ok (.iadd, 1) := zdal_p dlw_A_0 (i := 46) rfl
theorem d_Law_257 : decode code 257 = .ok (.iaload, 1) := zdal_p dlw_A_0 (i := 47) rfl
theorem d_Law_258 : decode code 258 = .ok (.invokevirtual 13, 3) := zdal_p dlw_A_0 (i := 48) rfl
theorem d_Law_261 : decode code 261 = .ok (.pop, 1) := zdal_p dlw_A_0 (i := 49) rfl
theorem d_Law_262 : decode code 262 = .ok (.aload_n 2, 1) := zdal_p dlw_A_0 (i := 50) rfl
theorem d_Law_263 : decode code 263 = .ok (.aload_n 0, 1) := zdal_p dlw_A_0 (i := 51) rfl
theorem d_Law_264 : decode code 264 = .ok (.iload_n 3, 1) := zdal_p dlw_A_0 (i := 52) rfl
theorem d_Law_265 : decode code 265 = .ok (.iconst 1, 1) := zdal_p dlw_A_0 (i := 53) rfl
theorem d_Law_266 : decode code 266 = .ok (.iadd, 1) := zdal_p dlw_A_0 (i := 54) rfl
theorem d_Law_267 : decode code 267 = .ok (.iaload, 1) := zdal_p dlw_A_0 (i := 55) rfl
theorem d_Law_268 : decode code 268 = .ok (.aload_n 0, 1) := zdal_p dlw_A_0 (i := 56) rfl
theorem d_Law_269 : decode code 269 = .ok (.iload_n 3, 1) := zdal_p dlw_A_0 (i := 57) rfl
theorem d_Law_270 : decode code 270 = .ok (.iconst 2, 1) := zdal_p dlw_A_0 (i := 58) rfl
theorem d_Law_271 : decode code 271 = .ok (.iadd, 1) := zdal_p dlw_A_0 (i := 59) rfl
theorem d_Law_272 : decode code 272 = .ok (.iaload, 1) := zdal_p dlw_A_0 (i := 60) rfl
theorem d_Law_273 : decode code 273 = .ok (.aload_n 0, 1) := zdal_p dlw_A_0 (i := 61) rfl
theorem d_Law_274 : decode code 274 = .ok (.iload_n 3, 1) := zdal_p dlw_A_0 (i := 62) rfl
theorem d_Law_275 : decode code 275 = .ok (.iconst 3, 1) := zdal_p dlw_A_0 (i := 63) rfl
theorem dlw_A_1 : zdal code [(276, (.iadd, 1)), (277, (.iaload, 1)), (278, (.aload_n 0, 1)), (279, (.iload_n 3, 1)), (280, (.iconst 4, 1)), (281, (.iadd, 1)), (282, (.iaload, 1)), (283, (.aload_n 0, 1)), (284, (.iload_n 3, 1)), (285, (.iconst 5, 1)), (286, (.iadd, 1)), (287, (.iaload, 1)), (288, (.invokevirtual 17, 3)), (291, (.pop, 1)), (292, (.goto 1218, 3)), (295, (.aload_n 1, 1)), (296, (.aload_n 0, 1)), (297, (.iload_n 3, 1)), (298, (.iconst 1, 1)), (299, (.iadd, 1)), (300, (.iaload, 1)), (301, (.invokevirtual 18, 3)), (304, (.pop, 1)), (305, (.aload_n 2, 1)), (306, (.aload_n 0, 1)), (307, (.iload_n 3, 1)), (308, (.iconst 1, 1)), (309, (.iadd, 1)), (310, (.iaload, 1)), (311, (.invokevirtual 22, 3)), (314, (.pop, 1)), (315, (.goto 1195, 3)), (318, (.aload_n 1, 1)), (319, (.invokevirtual 23, 3)), (322, (.pop, 1)), (323, (.aload_n 2, 1)), (324, (.invokevirtual 27, 3)), (327, (.pop, 1)), (328, (.goto 1182, 3)), (331, (.aload_n 1, 1)), (332, (.aload_n 0, 1)), (333, (.iload_n 3, 1)), (334, (.iconst 1, 1)), (335, (.iadd, 1)), (336, (.iaload, 1)), (337, (.invokevirtual 28, 3)), (340, (.pop, 1)), (341, (.aload_n 2, 1)), (342, (.aload_n 0, 1)), (343, (.iload_n 3, 1)), (344, (.iconst 1, 1)), (345, (.iadd, 1)), (346, (.iaload, 1)), (347, (.invokevirtual 31, 3)), (350, (.pop, 1)), (351, (.goto 1159, 3)), (354, (.aload_n 1, 1)), (355, (.aload_n 0, 1)), (356, (.iload_n 3, 1)), (357, (.iconst 1, 1)), (358, (.iadd, 1)), (359, (.iaload, 1)), (360, (.invokevirtual 32, 3)), (363, (.aload_n 2, 1))] = true := zYQs 276 (by decide +kernel)
theorem d_Law_276 : decode code 276 = .ok (.iadd, 1) := zdal_p dlw_A_1 (i := 0) rfl
theorem d_Law_277 : decode code 277 = .ok (.iaload, 1) := zdal_p dlw_A_1 (i := 1) rfl
theorem d_Law_278 : decode code 278 = .ok (.aload_n 0, 1) := zdal_p dlw_A_1 (i := 2) rfl
theorem d_Law_279 : decode code 279 = .ok (.iload_n 3, 1) := zdal_p dlw_A_1 (i := 3) rfl
theorem d_Law_280 : decode code 280 = .ok (.iconst 4, 1) := zdal_p dlw_A_1 (i := 4) rfl
theorem d_Law_281 : decode code 281 = .ok (.iadd, 1) := zdal_p dlw_A_1 (i := 5) rfl
theorem d_Law_282 : decode code 282 = .ok (.iaload, 1) := zdal_p dlw_A_1 (i := 6) rfl
theorem d_Law_283 : decode code 283 = .ok (.aload_n 0, 1) := zdal_p dlw_A_1 (i := 7) rfl
theorem d_Law_284 : decode code 284 = .ok (.iload_n 3, 1) := zdal_p dlw_A_1 (i := 8) rfl
theorem d_Law_285 : decode code 285 = .ok (.iconst 5, 1) := zdal_p dlw_A_1 (i := 9) rfl
theorem d_Law_286 : decode code 286 = .ok (.iadd, 1) := zdal_p dlw_A_1 (i := 10) rfl
theorem d_Law_287 : decode code 287 = .ok (.iaload, 1) := zdal_p dlw_A_1 (i := 11) rfl
theorem d_Law_288 : decode code 288 = .ok (.invokevirtual 17, 3) := zdal_p dlw_A_1 (i := 12) rfl
theorem d_Law_291 : decode code 291 = .ok (.pop, 1) := zdal_p dlw_A_1 (i := 13) rfl
theorem d_Law_292 : decode code 292 = .ok (.goto 1218, 3) := zdal_p dlw_A_1 (i := 14) rfl
theorem d_Law_295 : decode code 295 = .ok (.aload_n 1, 1) := zdal_p dlw_A_1 (i := 15) rfl
theorem d_Law_296 : decode code 296 = .ok (.aload_n 0, 1) := zdal_p dlw_A_1 (i := 16) rfl
theorem d_Law_297 : decode code 297 = .ok (.iload_n 3, 1) := zdal_p dlw_A_1 (i := 17) rfl
theorem d_Law_298 : decode code 298 = .ok (.iconst 1, 1) := zdal_p dlw_A_1 (i := 18) rfl
theorem d_Law_299 : decode code 299 = .ok (.iadd, 1) := zdal_p dlw_A_1 (i := 19) rfl
theorem d_Law_300 : decode code 300 = .ok (.iaload, 1) := zdal_p dlw_A_1 (i := 20) rfl
theorem d_Law_301 : decode code 301 = .ok (.invokevirtual 18, 3) := zdal_p dlw_A_1 (i := 21) rfl
theorem d_Law_304 : decode code 304 = .ok (.pop, 1) := zdal_p dlw_A_1 (i := 22) rfl
theorem d_Law_305 : decode code 305 = .ok (.aload_n 2, 1) := zdal_p dlw_A_1 (i := 23) rfl
theorem d_Law_306 : decode code 306 = .ok (.aload_n 0, 1) := zdal_p dlw_A_1 (i := 24) rfl
theorem d_Law_307 : decode code 307 = .ok (.iload_n 3, 1) := zdal_p dlw_A_1 (i := 25) rfl
theorem d_Law_308 : decode code 308 = .ok (.iconst 1, 1) := zdal_p dlw_A_1 (i := 26) rfl
theorem d_Law_309 : decode code 309 = .ok (.iadd, 1) := zdal_p dlw_A_1 (i := 27) rfl
theorem d_Law_310 : decode code 310 = .ok (.iaload, 1) := zdal_p dlw_A_1 (i := 28) rfl
theorem d_Law_311 : decode code 311 = .ok (.invokevirtual 22, 3) := zdal_p dlw_A_1 (i := 29) rfl
theorem d_Law_314 : decode code 314 = .ok (.pop, 1) := zdal_p dlw_A_1 (i := 30) rfl
theorem d_Law_315 : decode code 315 = .ok (.goto 1195, 3) := zdal_p dlw_A_1 (i := 31) rfl
theorem d_Law_318 : decode code 318 = .ok (.aload_n 1, 1) := zdal_p dlw_A_1 (i := 32) rfl
theorem d_Law_319 : decode code 319 = .ok (.invokevirtual 23, 3) := zdal_p dlw_A_1 (i := 33) rfl
theorem d_Law_322 : decode code 322 = .ok (.pop, 1) := zdal_p dlw_A_1 (i := 34) rfl
theorem d_Law_323 : decode code 323 = .ok (.aload_n 2, 1) := zdal_p dlw_A_1 (i := 35) rfl
theorem d_Law_324 : decode code 324 = .ok (.invokevirtual 27, 3) := zdal_p dlw_A_1 (i := 36) rfl
theorem d_Law_327 : decode code 327 = .ok (.pop, 1) := zdal_p dlw_A_1 (i := 37) rfl
theorem d_Law_328 : decode code 328 = .ok (.goto 1182, 3) := zdal_p dlw_A_1 (i := 38) rfl
theorem d_Law_331 : decode code 331 = .ok (.aload_n 1, 1) := zdal_p dlw_A_1 (i := 39) rfl
theorem d_Law_332 : decode code 332 = .ok (.aload_n 0, 1) := zdal_p dlw_A_1 (i := 40) rfl
theorem d_Law_333 : decode code 333 = .ok (.iload_n 3, 1) := zdal_p dlw_A_1 (i := 41) rfl
theorem d_Law_334 : decode code 334 = .ok (.iconst 1, 1) := zdal_p dlw_A_1 (i := 42) rfl
theorem d_Law_335 : decode code 335 = .ok (.iadd, 1) := zdal_p dlw_A_1 (i := 43) rfl
theorem d_Law_336 : decode code 336 = .ok (.iaload, 1) := zdal_p dlw_A_1 (i := 44) rfl
theorem d_Law_337 : decode code 337 = .ok (.invokevirtual 28, 3) := zdal_p dlw_A_1 (i := 45) rfl
theorem d_Law_340 : decode code 340 = .ok (.pop, 1) := zdal_p dlw_A_1 (i := 46) rfl
theorem d_Law_341 : decode code 341 = .ok (.aload_n 2, 1) := zdal_p dlw_A_1 (i := 47) rfl
theorem d_Law_342 : decode code 342 = .ok (.aload_n 0, 1) := zdal_p dlw_A_1 (i := 48) rfl
theorem d_Law_343 : decode code 343 = .ok (.iload_n 3, 1) := zdal_p dlw_A_1 (i := 49) rfl
theorem d_Law_344 : decode code 344 = .ok (.iconst 1, 1) := zdal_p dlw_A_1 (i := 50) rfl
theorem d_Law_345 : decode code 345 = .ok (.iadd, 1) := zdal_p dlw_A_1 (i := 51) rfl
theorem d_Law_346 : decode code 346 = .ok (.iaload, 1) := zdal_p dlw_A_1 (i := 52) rfl
theorem d_Law_347 : decode code 347 = .ok (.invokevirtual 31, 3) := zdal_p dlw_A_1 (i := 53) rfl
theorem d_Law_350 : decode code 350 = .ok (.pop, 1) := zdal_p dlw_A_1 (i := 54) rfl
theorem d_Law_351 : decode code 351 = .ok (.goto 1159, 3) := zdal_p dlw_A_1 (i := 55) rfl
theorem d_Law_354 : decode code 354 = .ok (.aload_n 1, 1) := zdal_p dlw_A_1 (i := 56) rfl
theorem d_Law_355 : decode code 355 = .ok (.aload_n 0, 1) := zdal_p dlw_A_1 (i := 57) rfl
theorem d_Law_356 : decode code 356 = .ok (.iload_n 3, 1) := zdal_p dlw_A_1 (i := 58) rfl
theorem d_Law_357 : decode code 357 = .ok (.iconst 1, 1) := zdal_p dlw_A_1 (i := 59) rfl
theorem d_Law_358 : decode code 358 = .ok (.iadd, 1) := zdal_p dlw_A_1 (i := 60) rfl
theorem d_Law_359 : decode code 359 = .ok (.iaload, 1) := zdal_p dlw_A_1 (i := 61) rfl
theorem d_Law_360 : decode code 360 = .ok (.invokevirtual 32, 3) := zdal_p dlw_A_1 (i := 62) rfl
theorem d_Law_363 : decode code 363 = .ok (.aload_n 2, 1) := zdal_p dlw_A_1 (i := 63) rfl
theorem dlw_A_2 : zdal code [(364, (.aload_n 0, 1)), (365, (.iload_n 3, 1)), (366, (.iconst 1, 1)), (367, (.iadd, 1)), (368, (.iaload, 1)), (369, (.invokevirtual 35, 3)), (372, (.if_icmp .eq 1138, 3)), (375, (.iconst 0, 1)), (376, (.ireturn, 1)), (377, (.aload_n 1, 1)), (378, (.aload_n 0, 1)), (379, (.iload_n 3, 1)), (380, (.iconst 1, 1)), (381, (.iadd, 1)), (382, (.iaload, 1)), (383, (.aload_n 0, 1)), (384, (.iload_n 3, 1)), (385, (.iconst 2, 1)), (386, (.iadd, 1)), (387, (.iaload, 1)), (388, (.invokevirtual 36, 3)), (391, (.pop, 1)), (392, (.aload_n 2, 1)), (393, (.aload_n 0, 1)), (394, (.iload_n 3, 1)), (395, (.iconst 1, 1)), (396, (.iadd, 1)), (397, (.iaload, 1)), (398, (.aload_n 0, 1)), (399, (.iload_n 3, 1)), (400, (.iconst 2, 1)), (401, (.iadd, 1)), (402, (.iaload, 1)), (403, (.invokevirtual 40, 3)), (406, (.pop, 1)), (407, (.goto 1103, 3)), (410, (.aload_n 1, 1)), (411, (.aload_n 0, 1)), (412, (.iload_n 3, 1)), (413, (.iconst 1, 1)), (414, (.iadd, 1)), (415, (.iaload, 1)), (416, (.aload_n 0, 1)), (417, (.iload_n 3, 1)), (418, (.iconst 2, 1)), (419, (.iadd, 1)), (420, (.iaload, 1)), (421, (.invokevirtual 41, 3)), (424, (.pop, 1)), (425, (.aload_n 2, 1)), (426, (.aload_n 0, 1)), (427, (.iload_n 3, 1)), (428, (.iconst 1, 1)), (429, (.iadd, 1)), (430, (.iaload, 1)), (431, (.aload_n 0, 1)), (432, (.iload_n 3, 1)), (433, (.iconst 2, 1)), (434, (.iadd, 1)), (435, (.iaload, 1)), (436, (.invokevirtual 44, 3)), (439, (.pop, 1)), (440, (.goto 1070, 3)), (443, (.aload_n 1, 1))] = true := zYQs 364 (by decide +kernel)
theorem d_Law_364 : decode code 364 = .ok (.aload_n 0, 1) := zdal_p dlw_A_2 (i := 0) rfl
theorem d_Law_365 : decode code 365 = .ok (.iload_n 3, 1) := zdal_p dlw_A_2 (i := 1) rfl
theorem d_Law_366 : decode code 366 = .ok (.iconst 1, 1) := zdal_p dlw_A_2 (i := 2) rfl
theorem d_Law_367 : decode code 367 = .ok (.iadd, 1) := zdal_p dlw_A_2 (i := 3) rfl
theorem d_Law_368 : decode code 368 = .ok (.iaload, 1) := zdal_p dlw_A_2 (i := 4) rfl
theorem d_Law_369 : decode code 369 = .ok (.invokevirtual 35, 3) := zdal_p dlw_A_2 (i := 5) rfl
theorem d_Law_372 : decode code 372 = .ok (.if_icmp .eq 1138, 3) := zdal_p dlw_A_2 (i := 6) rfl
theorem d_Law_377 : decode code 377 = .ok (.aload_n 1, 1) := zdal_p dlw_A_2 (i := 9) rfl
theorem d_Law_378 : decode code 378 = .ok (.aload_n 0, 1) := zdal_p dlw_A_2 (i := 10) rfl
theorem d_Law_379 : decode code 379 = .ok (.iload_n 3, 1) := zdal_p dlw_A_2 (i := 11) rfl
theorem d_Law_380 : decode code 380 = .ok (.iconst 1, 1) := zdal_p dlw_A_2 (i := 12) rfl
theorem d_Law_381 : decode code 381 = .ok (.iadd, 1) := zdal_p dlw_A_2 (i := 13) rfl
theorem d_Law_382 : decode code 382 = .ok (.iaload, 1) := zdal_p dlw_A_2 (i := 14) rfl
theorem d_Law_383 : decode code 383 = .ok (.aload_n 0, 1) := zdal_p dlw_A_2 (i := 15) rfl
theorem d_Law_384 : decode code 384 = .ok (.iload_n 3, 1) := zdal_p dlw_A_2 (i := 16) rfl
theorem d_Law_385 : decode code 385 = .ok (.iconst 2, 1) := zdal_p dlw_A_2 (i := 17) rfl
theorem d_Law_386 : decode code 386 = .ok (.iadd, 1) := zdal_p dlw_A_2 (i := 18) rfl
theorem d_Law_387 : decode code 387 = .ok (.iaload, 1) := zdal_p dlw_A_2 (i := 19) rfl
theorem d_Law_388 : decode code 388 = .ok (.invokevirtual 36, 3) := zdal_p dlw_A_2 (i := 20) rfl
theorem d_Law_391 : decode code 391 = .ok (.pop, 1) := zdal_p dlw_A_2 (i := 21) rfl
theorem d_Law_392 : decode code 392 = .ok (.aload_n 2, 1) := zdal_p dlw_A_2 (i := 22) rfl
theorem d_Law_393 : decode code 393 = .ok (.aload_n 0, 1) := zdal_p dlw_A_2 (i := 23) rfl
theorem d_Law_394 : decode code 394 = .ok (.iload_n 3, 1) := zdal_p dlw_A_2 (i := 24) rfl
theorem d_Law_395 : decode code 395 = .ok (.iconst 1, 1) := zdal_p dlw_A_2 (i := 25) rfl
theorem d_Law_396 : decode code 396 = .ok (.iadd, 1) := zdal_p dlw_A_2 (i := 26) rfl
theorem d_Law_397 : decode code 397 = .ok (.iaload, 1) := zdal_p dlw_A_2 (i := 27) rfl
theorem d_Law_398 : decode code 398 = .ok (.aload_n 0, 1) := zdal_p dlw_A_2 (i := 28) rfl
theorem d_Law_399 : decode code 399 = .ok (.iload_n 3, 1) := zdal_p dlw_A_2 (i := 29) rfl
theorem d_Law_400 : decode code 400 = .ok (.iconst 2, 1) := zdal_p dlw_A_2 (i := 30) rfl
theorem d_Law_401 : decode code 401 = .ok (.iadd, 1) := zdal_p dlw_A_2 (i := 31) rfl
theorem d_Law_402 : decode code 402 = .ok (.iaload, 1) := zdal_p dlw_A_2 (i := 32) rfl
theorem d_Law_403 : decode code 403 = .ok (.invokevirtual 40, 3) := zdal_p dlw_A_2 (i := 33) rfl
theorem d_Law_406 : decode code 406 = .ok (.pop, 1) := zdal_p dlw_A_2 (i := 34) rfl
theorem d_Law_407 : decode code 407 = .ok (.goto 1103, 3) := zdal_p dlw_A_2 (i := 35) rfl
theorem d_Law_410 : decode code 410 = .ok (.aload_n 1, 1) := zdal_p dlw_A_2 (i := 36) rfl
theorem d_Law_411 : decode code 411 = .ok (.aload_n 0, 1) := zdal_p dlw_A_2 (i := 37) rfl
theorem d_Law_412 : decode code 412 = .ok (.iload_n 3, 1) := zdal_p dlw_A_2 (i := 38) rfl
theorem d_Law_413 : decode code 413 = .ok (.iconst 1, 1) := zdal_p dlw_A_2 (i := 39) rfl
theorem d_Law_414 : decode code 414 = .ok (.iadd, 1) := zdal_p dlw_A_2 (i := 40) rfl
theorem d_Law_415 : decode code 415 = .ok (.iaload, 1) := zdal_p dlw_A_2 (i := 41) rfl
theorem d_Law_416 : decode code 416 = .ok (.aload_n 0, 1) := zdal_p dlw_A_2 (i := 42) rfl
theorem d_Law_417 : decode code 417 = .ok (.iload_n 3, 1) := zdal_p dlw_A_2 (i := 43) rfl
theorem d_Law_418 : decode code 418 = .ok (.iconst 2, 1) := zdal_p dlw_A_2 (i := 44) rfl
theorem d_Law_419 : decode code 419 = .ok (.iadd, 1) := zdal_p dlw_A_2 (i := 45) rfl
theorem d_Law_420 : decode code 420 = .ok (.iaload, 1) := zdal_p dlw_A_2 (i := 46) rfl
theorem d_Law_421 : decode code 421 = .ok (.invokevirtual 41, 3) := zdal_p dlw_A_2 (i := 47) rfl
theorem d_Law_424 : decode code 424 = .ok (.pop, 1) := zdal_p dlw_A_2 (i := 48) rfl
theorem d_Law_425 : decode code 425 = .ok (.aload_n 2, 1) := zdal_p dlw_A_2 (i := 49) rfl
theorem d_Law_426 : decode code 426 = .ok (.aload_n 0, 1) := zdal_p dlw_A_2 (i := 50) rfl
theorem d_Law_427 : decode code 427 = .ok (.iload_n 3, 1) := zdal_p dlw_A_2 (i := 51) rfl
theorem d_Law_428 : decode code 428 = .ok (.iconst 1, 1) := zdal_p dlw_A_2 (i := 52) rfl
theorem d_Law_429 : decode code 429 = .ok (.iadd, 1) := zdal_p dlw_A_2 (i := 53) rfl
theorem d_Law_430 : decode code 430 = .ok (.iaload, 1) := zdal_p dlw_A_2 (i := 54) rfl
theorem d_Law_431 : decode code 431 = .ok (.aload_n 0, 1) := zdal_p dlw_A_2 (i := 55) rfl
theorem d_Law_432 : decode code 432 = .ok (.iload_n 3, 1) := zdal_p dlw_A_2 (i := 56) rfl
theorem d_Law_433 : decode code 433 = .ok (.iconst 2, 1) := zdal_p dlw_A_2 (i := 57) rfl
theorem d_Law_434 : decode code 434 = .ok (.iadd, 1) := zdal_p dlw_A_2 (i := 58) rfl
theorem d_Law_435 : decode code 435 = .ok (.iaload, 1) := zdal_p dlw_A_2 (i := 59) rfl
theorem d_Law_436 : decode code 436 = .ok (.invokevirtual 44, 3) := zdal_p dlw_A_2 (i := 60) rfl
theorem d_Law_439 : decode code 439 = .ok (.pop, 1) := zdal_p dlw_A_2 (i := 61) rfl
theorem d_Law_440 : decode code 440 = .ok (.goto 1070, 3) := zdal_p dlw_A_2 (i := 62) rfl
theorem d_Law_443 : decode code 443 = .ok (.aload_n 1, 1) := zdal_p dlw_A_2 (i := 63) rfl
theorem dlw_A_3 : zdal code [(444, (.aload_n 0, 1)), (445, (.iload_n 3, 1)), (446, (.iconst 1, 1)), (447, (.iadd, 1)), (448, (.iaload, 1)), (449, (.invokevirtual 45, 3)), (452, (.pop, 1)), (453, (.aload_n 2, 1)), (454, (.aload_n 0, 1)), (455, (.iload_n 3, 1)), (456, (.iconst 1, 1)), (457, (.iadd, 1)), (458, (.iaload, 1)), (459, (.invokevirtual 48, 3)), (462, (.pop, 1)), (463, (.goto 1047, 3)), (466, (.aload_n 1, 1)), (467, (.aload_n 0, 1)), (468, (.iload_n 3, 1)), (469, (.iconst 1, 1)), (470, (.iadd, 1)), (471, (.iaload, 1)), (472, (.invokevirtual 49, 3)), (475, (.pop, 1)), (476, (.aload_n 2, 1)), (477, (.aload_n 0, 1)), (478, (.iload_n 3, 1)), (479, (.iconst 1, 1)), (480, (.iadd, 1)), (481, (.iaload, 1)), (482, (.invokevirtual 52, 3)), (485, (.pop, 1)), (486, (.goto 1024, 3)), (489, (.aload_n 1, 1)), (490, (.aload_n 0, 1)), (491, (.iload_n 3, 1)), (492, (.iconst 1, 1)), (493, (.iadd, 1)), (494, (.iaload, 1)), (495, (.invokevirtual 53, 3)), (498, (.pop, 1)), (499, (.aload_n 2, 1)), (500, (.aload_n 0, 1)), (501, (.iload_n 3, 1)), (502, (.iconst 1, 1)), (503, (.iadd, 1)), (504, (.iaload, 1)), (505, (.invokevirtual 56, 3)), (508, (.pop, 1)), (509, (.goto 1001, 3)), (512, (.aload_n 1, 1)), (513, (.aload_n 0, 1)), (514, (.iload_n 3, 1)), (515, (.iconst 1, 1)), (516, (.iadd, 1)), (517, (.iaload, 1)), (518, (.aload_n 0, 1)), (519, (.iload_n 3, 1)), (520, (.iconst 2, 1)), (521, (.iadd, 1)), (522, (.iaload, 1)), (523, (.invokevirtual 57, 3)), (526, (.pop, 1)), (527, (.aload_n 2, 1))] = true := zYQs 444 (by decide +kernel)
theorem d_Law_444 : decode code 444 = .ok (.aload_n 0, 1) := zdal_p dlw_A_3 (i := 0) rfl
theorem d_Law_445 : decode code 445 = .ok (.iload_n 3, 1) := zdal_p dlw_A_3 (i := 1) rfl
theorem d_Law_446 : decode code 446 = .ok (.iconst 1, 1) := zdal_p dlw_A_3 (i := 2) rfl
theorem d_Law_447 : decode code 447 = .ok (.iadd, 1) := zdal_p dlw_A_3 (i := 3) rfl
theorem d_Law_448 : decode code 448 = .ok (.iaload, 1) := zdal_p dlw_A_3 (i := 4) rfl
theorem d_Law_449 : decode code 449 = .ok (.invokevirtual 45, 3) := zdal_p dlw_A_3 (i := 5) rfl
theorem d_Law_452 : decode code 452 = .ok (.pop, 1) := zdal_p dlw_A_3 (i := 6) rfl
theorem d_Law_453 : decode code 453 = .ok (.aload_n 2, 1) := zdal_p dlw_A_3 (i := 7) rfl
theorem d_Law_454 : decode code 454 = .ok (.aload_n 0, 1) := zdal_p dlw_A_3 (i := 8) rfl
theorem d_Law_455 : decode code 455 = .ok (.iload_n 3, 1) := zdal_p dlw_A_3 (i := 9) rfl
theorem d_Law_456 : decode code 456 = .ok (.iconst 1, 1) := zdal_p dlw_A_3 (i := 10) rfl
theorem d_Law_457 : decode code 457 = .ok (.iadd, 1) := zdal_p dlw_A_3 (i := 11) rfl
theorem d_Law_458 : decode code 458 = .ok (.iaload, 1) := zdal_p dlw_A_3 (i := 12) rfl
theorem d_Law_459 : decode code 459 = .ok (.invokevirtual 48, 3) := zdal_p dlw_A_3 (i := 13) rfl
theorem d_Law_462 : decode code 462 = .ok (.pop, 1) := zdal_p dlw_A_3 (i := 14) rfl
theorem d_Law_463 : decode code 463 = .ok (.goto 1047, 3) := zdal_p dlw_A_3 (i := 15) rfl
theorem d_Law_466 : decode code 466 = .ok (.aload_n 1, 1) := zdal_p dlw_A_3 (i := 16) rfl
theorem d_Law_467 : decode code 467 = .ok (.aload_n 0, 1) := zdal_p dlw_A_3 (i := 17) rfl
theorem d_Law_468 : decode code 468 = .ok (.iload_n 3, 1) := zdal_p dlw_A_3 (i := 18) rfl
theorem d_Law_469 : decode code 469 = .ok (.iconst 1, 1) := zdal_p dlw_A_3 (i := 19) rfl
theorem d_Law_470 : decode code 470 = .ok (.iadd, 1) := zdal_p dlw_A_3 (i := 20) rfl
theorem d_Law_471 : decode code 471 = .ok (.iaload, 1) := zdal_p dlw_A_3 (i := 21) rfl
theorem d_Law_472 : decode code 472 = .ok (.invokevirtual 49, 3) := zdal_p dlw_A_3 (i := 22) rfl
theorem d_Law_475 : decode code 475 = .ok (.pop, 1) := zdal_p dlw_A_3 (i := 23) rfl
theorem d_Law_476 : decode code 476 = .ok (.aload_n 2, 1) := zdal_p dlw_A_3 (i := 24) rfl
theorem d_Law_477 : decode code 477 = .ok (.aload_n 0, 1) := zdal_p dlw_A_3 (i := 25) rfl
theorem d_Law_478 : decode code 478 = .ok (.iload_n 3, 1) := zdal_p dlw_A_3 (i := 26) rfl
theorem d_Law_479 : decode code 479 = .ok (.iconst 1, 1) := zdal_p dlw_A_3 (i := 27) rfl
theorem d_Law_480 : decode code 480 = .ok (.iadd, 1) := zdal_p dlw_A_3 (i := 28) rfl
theorem d_Law_481 : decode code 481 = .ok (.iaload, 1) := zdal_p dlw_A_3 (i := 29) rfl
theorem d_Law_482 : decode code 482 = .ok (.invokevirtual 52, 3) := zdal_p dlw_A_3 (i := 30) rfl
theorem d_Law_485 : decode code 485 = .ok (.pop, 1) := zdal_p dlw_A_3 (i := 31) rfl
theorem d_Law_486 : decode code 486 = .ok (.goto 1024, 3) := zdal_p dlw_A_3 (i := 32) rfl
theorem d_Law_489 : decode code 489 = .ok (.aload_n 1, 1) := zdal_p dlw_A_3 (i := 33) rfl
theorem d_Law_490 : decode code 490 = .ok (.aload_n 0, 1) := zdal_p dlw_A_3 (i := 34) rfl
theorem d_Law_491 : decode code 491 = .ok (.iload_n 3, 1) := zdal_p dlw_A_3 (i := 35) rfl
theorem d_Law_492 : decode code 492 = .ok (.iconst 1, 1) := zdal_p dlw_A_3 (i := 36) rfl
theorem d_Law_493 : decode code 493 = .ok (.iadd, 1) := zdal_p dlw_A_3 (i := 37) rfl
theorem d_Law_494 : decode code 494 = .ok (.iaload, 1) := zdal_p dlw_A_3 (i := 38) rfl
theorem d_Law_495 : decode code 495 = .ok (.invokevirtual 53, 3) := zdal_p dlw_A_3 (i := 39) rfl
theorem d_Law_498 : decode code 498 = .ok (.pop, 1) := zdal_p dlw_A_3 (i := 40) rfl
theorem d_Law_499 : decode code 499 = .ok (.aload_n 2, 1) := zdal_p dlw_A_3 (i := 41) rfl
theorem d_Law_500 : decode code 500 = .ok (.aload_n 0, 1) := zdal_p dlw_A_3 (i := 42) rfl
theorem d_Law_501 : decode code 501 = .ok (.iload_n 3, 1) := zdal_p dlw_A_3 (i := 43) rfl
theorem d_Law_502 : decode code 502 = .ok (.iconst 1, 1) := zdal_p dlw_A_3 (i := 44) rfl
theorem d_Law_503 : decode code 503 = .ok (.iadd, 1) := zdal_p dlw_A_3 (i := 45) rfl
theorem d_Law_504 : decode code 504 = .ok (.iaload, 1) := zdal_p dlw_A_3 (i := 46) rfl
theorem d_Law_505 : decode code 505 = .ok (.invokevirtual 56, 3) := zdal_p dlw_A_3 (i := 47) rfl
theorem d_Law_508 : decode code 508 = .ok (.pop, 1) := zdal_p dlw_A_3 (i := 48) rfl
theorem d_Law_509 : decode code 509 = .ok (.goto 1001, 3) := zdal_p dlw_A_3 (i := 49) rfl
theorem d_Law_512 : decode code 512 = .ok (.aload_n 1, 1) := zdal_p dlw_A_3 (i := 50) rfl
theorem d_Law_513 : decode code 513 = .ok (.aload_n 0, 1) := zdal_p dlw_A_3 (i := 51) rfl
theorem d_Law_514 : decode code 514 = .ok (.iload_n 3, 1) := zdal_p dlw_A_3 (i := 52) rfl
theorem d_Law_515 : decode code 515 = .ok (.iconst 1, 1) := zdal_p dlw_A_3 (i := 53) rfl
theorem d_Law_516 : decode code 516 = .ok (.iadd, 1) := zdal_p dlw_A_3 (i := 54) rfl
theorem d_Law_517 : decode code 517 = .ok (.iaload, 1) := zdal_p dlw_A_3 (i := 55) rfl
theorem d_Law_518 : decode code 518 = .ok (.aload_n 0, 1) := zdal_p dlw_A_3 (i := 56) rfl
theorem d_Law_519 : decode code 519 = .ok (.iload_n 3, 1) := zdal_p dlw_A_3 (i := 57) rfl
theorem d_Law_520 : decode code 520 = .ok (.iconst 2, 1) := zdal_p dlw_A_3 (i := 58) rfl
theorem d_Law_521 : decode code 521 = .ok (.iadd, 1) := zdal_p dlw_A_3 (i := 59) rfl
theorem d_Law_522 : decode code 522 = .ok (.iaload, 1) := zdal_p dlw_A_3 (i := 60) rfl
theorem d_Law_523 : decode code 523 = .ok (.invokevirtual 57, 3) := zdal_p dlw_A_3 (i := 61) rfl
theorem d_Law_526 : decode code 526 = .ok (.pop, 1) := zdal_p dlw_A_3 (i := 62) rfl
theorem d_Law_527 : decode code 527 = .ok (.aload_n 2, 1) := zdal_p dlw_A_3 (i := 63) rfl
theorem dlw_A_4 : zdal code [(528, (.aload_n 0, 1)), (529, (.iload_n 3, 1)), (530, (.iconst 1, 1)), (531, (.iadd, 1))] = true := zYQs 528 (by decide +kernel)
theorem d_Law_528 : decode code 528 = .ok (.aload_n 0, 1) := zdal_p dlw_A_4 (i := 0) rfl
theorem d_Law_529 : decode code 529 = .ok (.iload_n 3, 1) := zdal_p dlw_A_4 (i := 1) rfl
theorem d_Law_530 : decode code 530 = .ok (.iconst 1, 1) := zdal_p dlw_A_4 (i := 2) rfl
theorem d_Law_531 : decode code 531 = .ok (.iadd, 1) := zdal_p dlw_A_4 (i := 3) rfl
theorem dlw_B_0 : zdal code [(532, (.iaload, 1)), (533, (.aload_n 0, 1)), (534, (.iload_n 3, 1)), (535, (.iconst 2, 1)), (536, (.iadd, 1)), (537, (.iaload, 1)), (538, (.invokevirtual 60, 3)), (541, (.pop, 1)), (542, (.goto 968, 3)), (545, (.aload_n 1, 1)), (546, (.aload_n 0, 1)), (547, (.iload_n 3, 1)), (548, (.iconst 1, 1)), (549, (.iadd, 1)), (550, (.iaload, 1)), (551, (.aload_n 0, 1)), (552, (.iload_n 3, 1)), (553, (.iconst 2, 1)), (554, (.iadd, 1)), (555, (.iaload, 1)), (556, (.invokevirtual 61, 3)), (559, (.pop, 1)), (560, (.aload_n 2, 1)), (561, (.aload_n 0, 1)), (562, (.iload_n 3, 1)), (563, (.iconst 1, 1)), (564, (.iadd, 1)), (565, (.iaload, 1)), (566, (.aload_n 0, 1)), (567, (.iload_n 3, 1)), (568, (.iconst 2, 1)), (569, (.iadd, 1)), (570, (.iaload, 1)), (571, (.invokevirtual 64, 3)), (574, (.pop, 1)), (575, (.goto 935, 3)), (578, (.aload_n 1, 1)), (579, (.aload_n 0, 1)), (580, (.iload_n 3, 1)), (581, (.iconst 1, 1)), (582, (.iadd, 1)), (583, (.iaload, 1)), (584, (.aload_n 0, 1)), (585, (.iload_n 3, 1)), (586, (.iconst 2, 1)), (587, (.iadd, 1)), (588, (.iaload, 1)), (589, (.invokevirtual 65, 3)), (592, (.pop, 1)), (593, (.aload_n 2, 1)), (594, (.aload_n 0, 1)), (595, (.iload_n 3, 1)), (596, (.iconst 1, 1)), (597, (.iadd, 1)), (598, (.iaload, 1)), (599, (.aload_n 0, 1)), (600, (.iload_n 3, 1)), (601, (.iconst 2, 1)), (602, (.iadd, 1)), (603, (.iaload, 1)), (604, (.invokevirtual 68, 3)), (607, (.pop, 1)), (608, (.goto 902, 3)), (611, (.aload_n 1, 1))] = true := zYQs 532 (by decide +kernel)
theorem d_Law_532 : decode code 532 = .ok (.iaload, 1) := zdal_p dlw_B_0 (i := 0) rfl
theorem d_Law_533 : decode code 533 = .ok (.aload_n 0, 1) := zdal_p dlw_B_0 (i := 1) rfl
theorem d_Law_534 : decode code 534 = .ok (.iload_n 3, 1) := zdal_p dlw_B_0 (i := 2) rfl
theorem d_Law_535 : decode code 535 = .ok (.iconst 2, 1) := zdal_p dlw_B_0 (i := 3) rfl
theorem d_Law_536 : decode code 536 = .ok (.iadd, 1) := zdal_p dlw_B_0 (i := 4) rfl
theorem d_Law_537 : decode code 537 = .ok (.iaload, 1) := zdal_p dlw_B_0 (i := 5) rfl
theorem d_Law_538 : decode code 538 = .ok (.invokevirtual 60, 3) := zdal_p dlw_B_0 (i := 6) rfl
theorem d_Law_541 : decode code 541 = .ok (.pop, 1) := zdal_p dlw_B_0 (i := 7) rfl
theorem d_Law_542 : decode code 542 = .ok (.goto 968, 3) := zdal_p dlw_B_0 (i := 8) rfl
theorem d_Law_545 : decode code 545 = .ok (.aload_n 1, 1) := zdal_p dlw_B_0 (i := 9) rfl
theorem d_Law_546 : decode code 546 = .ok (.aload_n 0, 1) := zdal_p dlw_B_0 (i := 10) rfl
theorem d_Law_547 : decode code 547 = .ok (.iload_n 3, 1) := zdal_p dlw_B_0 (i := 11) rfl
theorem d_Law_548 : decode code 548 = .ok (.iconst 1, 1) := zdal_p dlw_B_0 (i := 12) rfl
theorem d_Law_549 : decode code 549 = .ok (.iadd, 1) := zdal_p dlw_B_0 (i := 13) rfl
theorem d_Law_550 : decode code 550 = .ok (.iaload, 1) := zdal_p dlw_B_0 (i := 14) rfl
theorem d_Law_551 : decode code 551 = .ok (.aload_n 0, 1) := zdal_p dlw_B_0 (i := 15) rfl
theorem d_Law_552 : decode code 552 = .ok (.iload_n 3, 1) := zdal_p dlw_B_0 (i := 16) rfl
theorem d_Law_553 : decode code 553 = .ok (.iconst 2, 1) := zdal_p dlw_B_0 (i := 17) rfl
theorem d_Law_554 : decode code 554 = .ok (.iadd, 1) := zdal_p dlw_B_0 (i := 18) rfl
theorem d_Law_555 : decode code 555 = .ok (.iaload, 1) := zdal_p dlw_B_0 (i := 19) rfl
theorem d_Law_556 : decode code 556 = .ok (.invokevirtual 61, 3) := zdal_p dlw_B_0 (i := 20) rfl
theorem d_Law_559 : decode code 559 = .ok (.pop, 1) := zdal_p dlw_B_0 (i := 21) rfl
theorem d_Law_560 : decode code 560 = .ok (.aload_n 2, 1) := zdal_p dlw_B_0 (i := 22) rfl
theorem d_Law_561 : decode code 561 = .ok (.aload_n 0, 1) := zdal_p dlw_B_0 (i := 23) rfl
theorem d_Law_562 : decode code 562 = .ok (.iload_n 3, 1) := zdal_p dlw_B_0 (i := 24) rfl
theorem d_Law_563 : decode code 563 = .ok (.iconst 1, 1) := zdal_p dlw_B_0 (i := 25) rfl
theorem d_Law_564 : decode code 564 = .ok (.iadd, 1) := zdal_p dlw_B_0 (i := 26) rfl
theorem d_Law_565 : decode code 565 = .ok (.iaload, 1) := zdal_p dlw_B_0 (i := 27) rfl
theorem d_Law_566 : decode code 566 = .ok (.aload_n 0, 1) := zdal_p dlw_B_0 (i := 28) rfl
theorem d_Law_567 : decode code 567 = .ok (.iload_n 3, 1) := zdal_p dlw_B_0 (i := 29) rfl
theorem d_Law_568 : decode code 568 = .ok (.iconst 2, 1) := zdal_p dlw_B_0 (i := 30) rfl
theorem d_Law_569 : decode code 569 = .ok (.iadd, 1) := zdal_p dlw_B_0 (i := 31) rfl
theorem d_Law_570 : decode code 570 = .ok (.iaload, 1) := zdal_p dlw_B_0 (i := 32) rfl
theorem d_Law_571 : decode code 571 = .ok (.invokevirtual 64, 3) := zdal_p dlw_B_0 (i := 33) rfl
theorem d_Law_574 : decode code 574 = .ok (.pop, 1) := zdal_p dlw_B_0 (i := 34) rfl
theorem d_Law_575 : decode code 575 = .ok (.goto 935, 3) := zdal_p dlw_B_0 (i := 35) rfl
theorem d_Law_578 : decode code 578 = .ok (.aload_n 1, 1) := zdal_p dlw_B_0 (i := 36) rfl
theorem d_Law_579 : decode code 579 = .ok (.aload_n 0, 1) := zdal_p dlw_B_0 (i := 37) rfl
theorem d_Law_580 : decode code 580 = .ok (.iload_n 3, 1) := zdal_p dlw_B_0 (i := 38) rfl
theorem d_Law_581 : decode code 581 = .ok (.iconst 1, 1) := zdal_p dlw_B_0 (i := 39) rfl
theorem d_Law_582 : decode code 582 = .ok (.iadd, 1) := zdal_p dlw_B_0 (i := 40) rfl
theorem d_Law_583 : decode code 583 = .ok (.iaload, 1) := zdal_p dlw_B_0 (i := 41) rfl
theorem d_Law_584 : decode code 584 = .ok (.aload_n 0, 1) := zdal_p dlw_B_0 (i := 42) rfl
theorem d_Law_585 : decode code 585 = .ok (.iload_n 3, 1) := zdal_p dlw_B_0 (i := 43) rfl
theorem d_Law_586 : decode code 586 = .ok (.iconst 2, 1) := zdal_p dlw_B_0 (i := 44) rfl
theorem d_Law_587 : decode code 587 = .ok (.iadd, 1) := zdal_p dlw_B_0 (i := 45) rfl
theorem d_Law_588 : decode code 588 = .ok (.iaload, 1) := zdal_p dlw_B_0 (i := 46) rfl
theorem d_Law_589 : decode code 589 = .ok (.invokevirtual 65, 3) := zdal_p dlw_B_0 (i := 47) rfl
theorem d_Law_592 : decode code 592 = .ok (.pop, 1) := zdal_p dlw_B_0 (i := 48) rfl
theorem d_Law_593 : decode code 593 = .ok (.aload_n 2, 1) := zdal_p dlw_B_0 (i := 49) rfl
theorem d_Law_594 : decode code 594 = .ok (.aload_n 0, 1) := zdal_p dlw_B_0 (i := 50) rfl
theorem d_Law_595 : decode code 595 = .ok (.iload_n 3, 1) := zdal_p dlw_B_0 (i := 51) rfl
theorem d_Law_596 : decode code 596 = .ok (.iconst 1, 1) := zdal_p dlw_B_0 (i := 52) rfl
theorem d_Law_597 : decode code 597 = .ok (.iadd, 1) := zdal_p dlw_B_0 (i := 53) rfl
theorem d_Law_598 : decode code 598 = .ok (.iaload, 1) := zdal_p dlw_B_0 (i := 54) rfl
theorem d_Law_599 : decode code 599 = .ok (.aload_n 0, 1) := zdal_p dlw_B_0 (i := 55) rfl
theorem d_Law_600 : decode code 600 = .ok (.iload_n 3, 1) := zdal_p dlw_B_0 (i := 56) rfl
theorem d_Law_601 : decode code 601 = .ok (.iconst 2, 1) := zdal_p dlw_B_0 (i := 57) rfl
theorem d_Law_602 : decode code 602 = .ok (.iadd, 1) := zdal_p dlw_B_0 (i := 58) rfl
theorem d_Law_603 : decode code 603 = .ok (.iaload, 1) := zdal_p dlw_B_0 (i := 59) rfl
theorem d_Law_604 : decode code 604 = .ok (.invokevirtual 68, 3) := zdal_p dlw_B_0 (i := 60) rfl
theorem d_Law_607 : decode code 607 = .ok (.pop, 1) := zdal_p dlw_B_0 (i := 61) rfl
theorem d_Law_608 : decode code 608 = .ok (.goto 902, 3) := zdal_p dlw_B_0 (i := 62) rfl
theorem d_Law_611 : decode code 611 = .ok (.aload_n 1, 1) := zdal_p dlw_B_0 (i := 63) rfl
theorem dlw_B_1 : zdal code [(612, (.aload_n 0, 1)), (613, (.iload_n 3, 1)), (614, (.iconst 1, 1)), (615, (.iadd, 1)), (616, (.iaload, 1)), (617, (.aload_n 0, 1)), (618, (.iload_n 3, 1)), (619, (.iconst 2, 1)), (620, (.iadd, 1)), (621, (.iaload, 1)), (622, (.aload_n 0, 1)), (623, (.iload_n 3, 1)), (624, (.iconst 3, 1)), (625, (.iadd, 1)), (626, (.iaload, 1)), (627, (.invokevirtual 69, 3)), (630, (.pop, 1)), (631, (.aload_n 2, 1)), (632, (.aload_n 0, 1)), (633, (.iload_n 3, 1)), (634, (.iconst 1, 1)), (635, (.iadd, 1)), (636, (.iaload, 1)), (637, (.aload_n 0, 1)), (638, (.iload_n 3, 1)), (639, (.iconst 2, 1)), (640, (.iadd, 1)), (641, (.iaload, 1)), (642, (.aload_n 0, 1)), (643, (.iload_n 3, 1)), (644, (.iconst 3, 1)), (645, (.iadd, 1)), (646, (.iaload, 1)), (647, (.invokevirtual 73, 3)), (650, (.pop, 1)), (651, (.goto 859, 3)), (654, (.aload_n 1, 1)), (655, (.aload_n 0, 1)), (656, (.iload_n 3, 1)), (657, (.iconst 1, 1)), (658, (.iadd, 1)), (659, (.iaload, 1)), (660, (.aload_n 0, 1)), (661, (.iload_n 3, 1)), (662, (.iconst 2, 1)), (663, (.iadd, 1)), (664, (.iaload, 1)), (665, (.invokevirtual 74, 3)), (668, (.pop, 1)), (669, (.aload_n 2, 1)), (670, (.aload_n 0, 1)), (671, (.iload_n 3, 1)), (672, (.iconst 1, 1)), (673, (.iadd, 1)), (674, (.iaload, 1)), (675, (.aload_n 0, 1)), (676, (.iload_n 3, 1)), (677, (.iconst 2, 1)), (678, (.iadd, 1)), (679, (.iaload, 1)), (680, (.invokevirtual 77, 3)), (683, (.pop, 1)), (684, (.goto 826, 3)), (687, (.aload_n 1, 1))] = true := zYQs 612 (by decide +kernel)
theorem d_Law_612 : decode code 612 = .ok (.aload_n 0, 1) := zdal_p dlw_B_1 (i := 0) rfl
theorem d_Law_613 : decode code 613 = .ok (.iload_n 3, 1) := zdal_p dlw_B_1 (i := 1) rfl
theorem d_Law_614 : decode code 614 = .ok (.iconst 1, 1) := zdal_p dlw_B_1 (i := 2) rfl
theorem d_Law_615 : decode code 615 = .ok (.iadd, 1) := zdal_p dlw_B_1 (i := 3) rfl
theorem d_Law_616 : decode code 616 = .ok (.iaload, 1) := zdal_p dlw_B_1 (i := 4) rfl
theorem d_Law_617 : decode code 617 = .ok (.aload_n 0, 1) := zdal_p dlw_B_1 (i := 5) rfl
theorem d_Law_618 : decode code 618 = .ok (.iload_n 3, 1) := zdal_p dlw_B_1 (i := 6) rfl
theorem d_Law_619 : decode code 619 = .ok (.iconst 2, 1) := zdal_p dlw_B_1 (i := 7) rfl
theorem d_Law_620 : decode code 620 = .ok (.iadd, 1) := zdal_p dlw_B_1 (i := 8) rfl
theorem d_Law_621 : decode code 621 = .ok (.iaload, 1) := zdal_p dlw_B_1 (i := 9) rfl
theorem d_Law_622 : decode code 622 = .ok (.aload_n 0, 1) := zdal_p dlw_B_1 (i := 10) rfl
theorem d_Law_623 : decode code 623 = .ok (.iload_n 3, 1) := zdal_p dlw_B_1 (i := 11) rfl
theorem d_Law_624 : decode code 624 = .ok (.iconst 3, 1) := zdal_p dlw_B_1 (i := 12) rfl
theorem d_Law_625 : decode code 625 = .ok (.iadd, 1) := zdal_p dlw_B_1 (i := 13) rfl
theorem d_Law_626 : decode code 626 = .ok (.iaload, 1) := zdal_p dlw_B_1 (i := 14) rfl
theorem d_Law_627 : decode code 627 = .ok (.invokevirtual 69, 3) := zdal_p dlw_B_1 (i := 15) rfl
theorem d_Law_630 : decode code 630 = .ok (.pop, 1) := zdal_p dlw_B_1 (i := 16) rfl
theorem d_Law_631 : decode code 631 = .ok (.aload_n 2, 1) := zdal_p dlw_B_1 (i := 17) rfl
theorem d_Law_632 : decode code 632 = .ok (.aload_n 0, 1) := zdal_p dlw_B_1 (i := 18) rfl
theorem d_Law_633 : decode code 633 = .ok (.iload_n 3, 1) := zdal_p dlw_B_1 (i := 19) rfl
theorem d_Law_634 : decode code 634 = .ok (.iconst 1, 1) := zdal_p dlw_B_1 (i := 20) rfl
theorem d_Law_635 : decode code 635 = .ok (.iadd, 1) := zdal_p dlw_B_1 (i := 21) rfl
theorem d_Law_636 : decode code 636 = .ok (.iaload, 1) := zdal_p dlw_B_1 (i := 22) rfl
theorem d_Law_637 : decode code 637 = .ok (.aload_n 0, 1) := zdal_p dlw_B_1 (i := 23) rfl
theorem d_Law_638 : decode code 638 = .ok (.iload_n 3, 1) := zdal_p dlw_B_1 (i := 24) rfl
theorem d_Law_639 : decode code 639 = .ok (.iconst 2, 1) := zdal_p dlw_B_1 (i := 25) rfl
theorem d_Law_640 : decode code 640 = .ok (.iadd, 1) := zdal_p dlw_B_1 (i := 26) rfl
theorem d_Law_641 : decode code 641 = .ok (.iaload, 1) := zdal_p dlw_B_1 (i := 27) rfl
theorem d_Law_642 : decode code 642 = .ok (.aload_n 0, 1) := zdal_p dlw_B_1 (i := 28) rfl
theorem d_Law_643 : decode code 643 = .ok (.iload_n 3, 1) := zdal_p dlw_B_1 (i := 29) rfl
theorem d_Law_644 : decode code 644 = .ok (.iconst 3, 1) := zdal_p dlw_B_1 (i := 30) rfl
theorem d_Law_645 : decode code 645 = .ok (.iadd, 1) := zdal_p dlw_B_1 (i := 31) rfl
theorem d_Law_646 : decode code 646 = .ok (.iaload, 1) := zdal_p dlw_B_1 (i := 32) rfl
theorem d_Law_647 : decode code 647 = .ok (.invokevirtual 73, 3) := zdal_p dlw_B_1 (i := 33) rfl
theorem d_Law_650 : decode code 650 = .ok (.pop, 1) := zdal_p dlw_B_1 (i := 34) rfl
theorem d_Law_651 : decode code 651 = .ok (.goto 859, 3) := zdal_p dlw_B_1 (i := 35) rfl
theorem d_Law_654 : decode code 654 = .ok (.aload_n 1, 1) := zdal_p dlw_B_1 (i := 36) rfl
theorem d_Law_655 : decode code 655 = .ok (.aload_n 0, 1) := zdal_p dlw_B_1 (i := 37) rfl
theorem d_Law_656 : decode code 656 = .ok (.iload_n 3, 1) := zdal_p dlw_B_1 (i := 38) rfl
theorem d_Law_657 : decode code 657 = .ok (.iconst 1, 1) := zdal_p dlw_B_1 (i := 39) rfl
theorem d_Law_658 : decode code 658 = .ok (.iadd, 1) := zdal_p dlw_B_1 (i := 40) rfl
theorem d_Law_659 : decode code 659 = .ok (.iaload, 1) := zdal_p dlw_B_1 (i := 41) rfl
theorem d_Law_660 : decode code 660 = .ok (.aload_n 0, 1) := zdal_p dlw_B_1 (i := 42) rfl
theorem d_Law_661 : decode code 661 = .ok (.iload_n 3, 1) := zdal_p dlw_B_1 (i := 43) rfl
theorem d_Law_662 : decode code 662 = .ok (.iconst 2, 1) := zdal_p dlw_B_1 (i := 44) rfl
theorem d_Law_663 : decode code 663 = .ok (.iadd, 1) := zdal_p dlw_B_1 (i := 45) rfl
theorem d_Law_664 : decode code 664 = .ok (.iaload, 1) := zdal_p dlw_B_1 (i := 46) rfl
theorem d_Law_665 : decode code 665 = .ok (.invokevirtual 74, 3) := zdal_p dlw_B_1 (i := 47) rfl
theorem d_Law_668 : decode code 668 = .ok (.pop, 1) := zdal_p dlw_B_1 (i := 48) rfl
theorem d_Law_669 : decode code 669 = .ok (.aload_n 2, 1) := zdal_p dlw_B_1 (i := 49) rfl
theorem d_Law_670 : decode code 670 = .ok (.aload_n 0, 1) := zdal_p dlw_B_1 (i := 50) rfl
theorem d_Law_671 : decode code 671 = .ok (.iload_n 3, 1) := zdal_p dlw_B_1 (i := 51) rfl
theorem d_Law_672 : decode code 672 = .ok (.iconst 1, 1) := zdal_p dlw_B_1 (i := 52) rfl
theorem d_Law_673 : decode code 673 = .ok (.iadd, 1) := zdal_p dlw_B_1 (i := 53) rfl
theorem d_Law_674 : decode code 674 = .ok (.iaload, 1) := zdal_p dlw_B_1 (i := 54) rfl
theorem d_Law_675 : decode code 675 = .ok (.aload_n 0, 1) := zdal_p dlw_B_1 (i := 55) rfl
theorem d_Law_676 : decode code 676 = .ok (.iload_n 3, 1) := zdal_p dlw_B_1 (i := 56) rfl
theorem d_Law_677 : decode code 677 = .ok (.iconst 2, 1) := zdal_p dlw_B_1 (i := 57) rfl
theorem d_Law_678 : decode code 678 = .ok (.iadd, 1) := zdal_p dlw_B_1 (i := 58) rfl
theorem d_Law_679 : decode code 679 = .ok (.iaload, 1) := zdal_p dlw_B_1 (i := 59) rfl
theorem d_Law_680 : decode code 680 = .ok (.invokevirtual 77, 3) := zdal_p dlw_B_1 (i := 60) rfl
theorem d_Law_683 : decode code 683 = .ok (.pop, 1) := zdal_p dlw_B_1 (i := 61) rfl
theorem d_Law_684 : decode code 684 = .ok (.goto 826, 3) := zdal_p dlw_B_1 (i := 62) rfl
theorem d_Law_687 : decode code 687 = .ok (.aload_n 1, 1) := zdal_p dlw_B_1 (i := 63) rfl
theorem dlw_B_2 : zdal code [(688, (.aload_n 0, 1)), (689, (.iload_n 3, 1)), (690, (.iconst 1, 1)), (691, (.iadd, 1)), (692, (.iaload, 1)), (693, (.aload_n 0, 1)), (694, (.iload_n 3, 1)), (695, (.iconst 2, 1)), (696, (.iadd, 1)), (697, (.iaload, 1)), (698, (.invokevirtual 78, 3)), (701, (.pop, 1)), (702, (.aload_n 2, 1)), (703, (.aload_n 0, 1)), (704, (.iload_n 3, 1)), (705, (.iconst 1, 1)), (706, (.iadd, 1)), (707, (.iaload, 1)), (708, (.aload_n 0, 1)), (709, (.iload_n 3, 1)), (710, (.iconst 2, 1)), (711, (.iadd, 1)), (712, (.iaload, 1)), (713, (.invokevirtual 81, 3)), (716, (.pop, 1)), (717, (.goto 793, 3)), (720, (.aload_n 1, 1)), (721, (.aload_n 0, 1)), (722, (.iload_n 3, 1)), (723, (.iconst 1, 1)), (724, (.iadd, 1)), (725, (.iaload, 1)), (726, (.invokevirtual 82, 3)), (729, (.pop, 1)), (730, (.aload_n 2, 1)), (731, (.aload_n 0, 1)), (732, (.iload_n 3, 1)), (733, (.iconst 1, 1)), (734, (.iadd, 1)), (735, (.iaload, 1)), (736, (.invokevirtual 85, 3)), (739, (.pop, 1)), (740, (.goto 770, 3)), (743, (.aload_n 1, 1)), (744, (.aload_n 0, 1)), (745, (.iload_n 3, 1)), (746, (.iconst 1, 1)), (747, (.iadd, 1)), (748, (.iaload, 1)), (749, (.invokevirtual 86, 3)), (752, (.pop, 1)), (753, (.aload_n 2, 1)), (754, (.aload_n 0, 1)), (755, (.iload_n 3, 1)), (756, (.iconst 1, 1)), (757, (.iadd, 1)), (758, (.iaload, 1)), (759, (.invokevirtual 89, 3)), (762, (.pop, 1)), (763, (.goto 747, 3)), (766, (.aload_n 1, 1)), (767, (.aload_n 0, 1)), (768, (.iload_n 3, 1)), (769, (.iconst 1, 1))] = true := zYQs 688 (by decide +kernel)
theorem d_Law_688 : decode code 688 = .ok (.aload_n 0, 1) := zdal_p dlw_B_2 (i := 0) rfl
theorem d_Law_689 : decode code 689 = .ok (.iload_n 3, 1) := zdal_p dlw_B_2 (i := 1) rfl
theorem d_Law_690 : decode code 690 = .ok (.iconst 1, 1) := zdal_p dlw_B_2 (i := 2) rfl
theorem d_Law_691 : decode code 691 = .ok (.iadd, 1) := zdal_p dlw_B_2 (i := 3) rfl
theorem d_Law_692 : decode code 692 = .ok (.iaload, 1) := zdal_p dlw_B_2 (i := 4) rfl
theorem d_Law_693 : decode code 693 = .ok (.aload_n 0, 1) := zdal_p dlw_B_2 (i := 5) rfl
theorem d_Law_694 : decode code 694 = .ok (.iload_n 3, 1) := zdal_p dlw_B_2 (i := 6) rfl
theorem d_Law_695 : decode code 695 = .ok (.iconst 2, 1) := zdal_p dlw_B_2 (i := 7) rfl
theorem d_Law_696 : decode code 696 = .ok (.iadd, 1) := zdal_p dlw_B_2 (i := 8) rfl
theorem d_Law_697 : decode code 697 = .ok (.iaload, 1) := zdal_p dlw_B_2 (i := 9) rfl
theorem d_Law_698 : decode code 698 = .ok (.invokevirtual 78, 3) := zdal_p dlw_B_2 (i := 10) rfl
theorem d_Law_701 : decode code 701 = .ok (.pop, 1) := zdal_p dlw_B_2 (i := 11) rfl
theorem d_Law_702 : decode code 702 = .ok (.aload_n 2, 1) := zdal_p dlw_B_2 (i := 12) rfl
theorem d_Law_703 : decode code 703 = .ok (.aload_n 0, 1) := zdal_p dlw_B_2 (i := 13) rfl
theorem d_Law_704 : decode code 704 = .ok (.iload_n 3, 1) := zdal_p dlw_B_2 (i := 14) rfl
theorem d_Law_705 : decode code 705 = .ok (.iconst 1, 1) := zdal_p dlw_B_2 (i := 15) rfl
theorem d_Law_706 : decode code 706 = .ok (.iadd, 1) := zdal_p dlw_B_2 (i := 16) rfl
theorem d_Law_707 : decode code 707 = .ok (.iaload, 1) := zdal_p dlw_B_2 (i := 17) rfl
theorem d_Law_708 : decode code 708 = .ok (.aload_n 0, 1) := zdal_p dlw_B_2 (i := 18) rfl
theorem d_Law_709 : decode code 709 = .ok (.iload_n 3, 1) := zdal_p dlw_B_2 (i := 19) rfl
theorem d_Law_710 : decode code 710 = .ok (.iconst 2, 1) := zdal_p dlw_B_2 (i := 20) rfl
theorem d_Law_711 : decode code 711 = .ok (.iadd, 1) := zdal_p dlw_B_2 (i := 21) rfl
theorem d_Law_712 : decode code 712 = .ok (.iaload, 1) := zdal_p dlw_B_2 (i := 22) rfl
theorem d_Law_713 : decode code 713 = .ok (.invokevirtual 81, 3) := zdal_p dlw_B_2 (i := 23) rfl
theorem d_Law_716 : decode code 716 = .ok (.pop, 1) := zdal_p dlw_B_2 (i := 24) rfl
theorem d_Law_717 : decode code 717 = .ok (.goto 793, 3) := zdal_p dlw_B_2 (i := 25) rfl
theorem d_Law_720 : decode code 720 = .ok (.aload_n 1, 1) := zdal_p dlw_B_2 (i := 26) rfl
theorem d_Law_721 : decode code 721 = .ok (.aload_n 0, 1) := zdal_p dlw_B_2 (i := 27) rfl
theorem d_Law_722 : decode code 722 = .ok (.iload_n 3, 1) := zdal_p dlw_B_2 (i := 28) rfl
theorem d_Law_723 : decode code 723 = .ok (.iconst 1, 1) := zdal_p dlw_B_2 (i := 29) rfl
theorem d_Law_724 : decode code 724 = .ok (.iadd, 1) := zdal_p dlw_B_2 (i := 30) rfl
theorem d_Law_725 : decode code 725 = .ok (.iaload, 1) := zdal_p dlw_B_2 (i := 31) rfl
theorem d_Law_726 : decode code 726 = .ok (.invokevirtual 82, 3) := zdal_p dlw_B_2 (i := 32) rfl
theorem d_Law_729 : decode code 729 = .ok (.pop, 1) := zdal_p dlw_B_2 (i := 33) rfl
theorem d_Law_730 : decode code 730 = .ok (.aload_n 2, 1) := zdal_p dlw_B_2 (i := 34) rfl
theorem d_Law_731 : decode code 731 = .ok (.aload_n 0, 1) := zdal_p dlw_B_2 (i := 35) rfl
theorem d_Law_732 : decode code 732 = .ok (.iload_n 3, 1) := zdal_p dlw_B_2 (i := 36) rfl
theorem d_Law_733 : decode code 733 = .ok (.iconst 1, 1) := zdal_p dlw_B_2 (i := 37) rfl
theorem d_Law_734 : decode code 734 = .ok (.iadd, 1) := zdal_p dlw_B_2 (i := 38) rfl
theorem d_Law_735 : decode code 735 = .ok (.iaload, 1) := zdal_p dlw_B_2 (i := 39) rfl
theorem d_Law_736 : decode code 736 = .ok (.invokevirtual 85, 3) := zdal_p dlw_B_2 (i := 40) rfl
theorem d_Law_739 : decode code 739 = .ok (.pop, 1) := zdal_p dlw_B_2 (i := 41) rfl
theorem d_Law_740 : decode code 740 = .ok (.goto 770, 3) := zdal_p dlw_B_2 (i := 42) rfl
theorem d_Law_743 : decode code 743 = .ok (.aload_n 1, 1) := zdal_p dlw_B_2 (i := 43) rfl
theorem d_Law_744 : decode code 744 = .ok (.aload_n 0, 1) := zdal_p dlw_B_2 (i := 44) rfl
theorem d_Law_745 : decode code 745 = .ok (.iload_n 3, 1) := zdal_p dlw_B_2 (i := 45) rfl
theorem d_Law_746 : decode code 746 = .ok (.iconst 1, 1) := zdal_p dlw_B_2 (i := 46) rfl
theorem d_Law_747 : decode code 747 = .ok (.iadd, 1) := zdal_p dlw_B_2 (i := 47) rfl
theorem d_Law_748 : decode code 748 = .ok (.iaload, 1) := zdal_p dlw_B_2 (i := 48) rfl
theorem d_Law_749 : decode code 749 = .ok (.invokevirtual 86, 3) := zdal_p dlw_B_2 (i := 49) rfl
theorem d_Law_752 : decode code 752 = .ok (.pop, 1) := zdal_p dlw_B_2 (i := 50) rfl
theorem d_Law_753 : decode code 753 = .ok (.aload_n 2, 1) := zdal_p dlw_B_2 (i := 51) rfl
theorem d_Law_754 : decode code 754 = .ok (.aload_n 0, 1) := zdal_p dlw_B_2 (i := 52) rfl
theorem d_Law_755 : decode code 755 = .ok (.iload_n 3, 1) := zdal_p dlw_B_2 (i := 53) rfl
theorem d_Law_756 : decode code 756 = .ok (.iconst 1, 1) := zdal_p dlw_B_2 (i := 54) rfl
theorem d_Law_757 : decode code 757 = .ok (.iadd, 1) := zdal_p dlw_B_2 (i := 55) rfl
theorem d_Law_758 : decode code 758 = .ok (.iaload, 1) := zdal_p dlw_B_2 (i := 56) rfl
theorem d_Law_759 : decode code 759 = .ok (.invokevirtual 89, 3) := zdal_p dlw_B_2 (i := 57) rfl
theorem d_Law_762 : decode code 762 = .ok (.pop, 1) := zdal_p dlw_B_2 (i := 58) rfl
theorem d_Law_763 : decode code 763 = .ok (.goto 747, 3) := zdal_p dlw_B_2 (i := 59) rfl
theorem d_Law_766 : decode code 766 = .ok (.aload_n 1, 1) := zdal_p dlw_B_2 (i := 60) rfl
theorem d_Law_767 : decode code 767 = .ok (.aload_n 0, 1) := zdal_p dlw_B_2 (i := 61) rfl
theorem d_Law_768 : decode code 768 = .ok (.iload_n 3, 1) := zdal_p dlw_B_2 (i := 62) rfl
theorem d_Law_769 : decode code 769 = .ok (.iconst 1, 1) := zdal_p dlw_B_2 (i := 63) rfl
theorem dlw_B_3 : zdal code [(770, (.iadd, 1)), (771, (.iaload, 1)), (772, (.aload_n 0, 1)), (773, (.iload_n 3, 1)), (774, (.iconst 2, 1)), (775, (.iadd, 1)), (776, (.iaload, 1)), (777, (.invokevirtual 90, 3)), (780, (.pop, 1)), (781, (.aload_n 2, 1)), (782, (.aload_n 0, 1)), (783, (.iload_n 3, 1)), (784, (.iconst 1, 1)), (785, (.iadd, 1)), (786, (.iaload, 1)), (787, (.aload_n 0, 1)), (788, (.iload_n 3, 1)), (789, (.iconst 2, 1)), (790, (.iadd, 1)), (791, (.iaload, 1)), (792, (.invokevirtual 93, 3)), (795, (.pop, 1)), (796, (.goto 714, 3)), (799, (.aload_n 1, 1)), (800, (.aload_n 0, 1)), (801, (.iload_n 3, 1)), (802, (.iconst 1, 1)), (803, (.iadd, 1)), (804, (.iaload, 1)), (805, (.aload_n 0, 1)), (806, (.iload_n 3, 1)), (807, (.iconst 2, 1)), (808, (.iadd, 1)), (809, (.iaload, 1)), (810, (.aload_n 0, 1)), (811, (.iload_n 3, 1)), (812, (.iconst 3, 1)), (813, (.iadd, 1)), (814, (.iaload, 1)), (815, (.invokevirtual 94, 3)), (818, (.pop, 1)), (819, (.aload_n 2, 1)), (820, (.aload_n 0, 1)), (821, (.iload_n 3, 1)), (822, (.iconst 1, 1)), (823, (.iadd, 1)), (824, (.iaload, 1)), (825, (.aload_n 0, 1)), (826, (.iload_n 3, 1)), (827, (.iconst 2, 1)), (828, (.iadd, 1)), (829, (.iaload, 1)), (830, (.aload_n 0, 1)), (831, (.iload_n 3, 1)), (832, (.iconst 3, 1)), (833, (.iadd, 1)), (834, (.iaload, 1)), (835, (.invokevirtual 97, 3)), (838, (.pop, 1)), (839, (.goto 671, 3)), (842, (.aload_n 1, 1)), (843, (.aload_n 0, 1)), (844, (.iload_n 3, 1)), (845, (.iconst 1, 1))] = true := zYQs 770 (by decide +kernel)
theorem d_Law_770 : decode code 770 = .ok (.iadd, 1) := zdal_p dlw_B_3 (i := 0) rfl
theorem d_Law_771 : decode code 771 = .ok (.iaload, 1) := zdal_p dlw_B_3 (i := 1) rfl
theorem d_Law_772 : decode code 772 = .ok (.aload_n 0, 1) := zdal_p dlw_B_3 (i := 2) rfl
theorem d_Law_773 : decode code 773 = .ok (.iload_n 3, 1) := zdal_p dlw_B_3 (i := 3) rfl
theorem d_Law_774 : decode code 774 = .ok (.iconst 2, 1) := zdal_p dlw_B_3 (i := 4) rfl
theorem d_Law_775 : decode code 775 = .ok (.iadd, 1) := zdal_p dlw_B_3 (i := 5) rfl
theorem d_Law_776 : decode code 776 = .ok (.iaload, 1) := zdal_p dlw_B_3 (i := 6) rfl
theorem d_Law_777 : decode code 777 = .ok (.invokevirtual 90, 3) := zdal_p dlw_B_3 (i := 7) rfl
theorem d_Law_780 : decode code 780 = .ok (.pop, 1) := zdal_p dlw_B_3 (i := 8) rfl
theorem d_Law_781 : decode code 781 = .ok (.aload_n 2, 1) := zdal_p dlw_B_3 (i := 9) rfl
theorem d_Law_782 : decode code 782 = .ok (.aload_n 0, 1) := zdal_p dlw_B_3 (i := 10) rfl
theorem d_Law_783 : decode code 783 = .ok (.iload_n 3, 1) := zdal_p dlw_B_3 (i := 11) rfl
theorem d_Law_784 : decode code 784 = .ok (.iconst 1, 1) := zdal_p dlw_B_3 (i := 12) rfl
theorem d_Law_785 : decode code 785 = .ok (.iadd, 1) := zdal_p dlw_B_3 (i := 13) rfl
theorem d_Law_786 : decode code 786 = .ok (.iaload, 1) := zdal_p dlw_B_3 (i := 14) rfl
theorem d_Law_787 : decode code 787 = .ok (.aload_n 0, 1) := zdal_p dlw_B_3 (i := 15) rfl
theorem d_Law_788 : decode code 788 = .ok (.iload_n 3, 1) := zdal_p dlw_B_3 (i := 16) rfl
theorem d_Law_789 : decode code 789 = .ok (.iconst 2, 1) := zdal_p dlw_B_3 (i := 17) rfl
theorem d_Law_790 : decode code 790 = .ok (.iadd, 1) := zdal_p dlw_B_3 (i := 18) rfl
theorem d_Law_791 : decode code 791 = .ok (.iaload, 1) := zdal_p dlw_B_3 (i := 19) rfl
theorem d_Law_792 : decode code 792 = .ok (.invokevirtual 93, 3) := zdal_p dlw_B_3 (i := 20) rfl
theorem d_Law_795 : decode code 795 = .ok (.pop, 1) := zdal_p dlw_B_3 (i := 21) rfl
theorem d_Law_796 : decode code 796 = .ok (.goto 714, 3) := zdal_p dlw_B_3 (i := 22) rfl
theorem d_Law_799 : decode code 799 = .ok (.aload_n 1, 1) := zdal_p dlw_B_3 (i := 23) rfl
theorem d_Law_800 : decode code 800 = .ok (.aload_n 0, 1) := zdal_p dlw_B_3 (i := 24) rfl
theorem d_Law_801 : decode code 801 = .ok (.iload_n 3, 1) := zdal_p dlw_B_3 (i := 25) rfl
theorem d_Law_802 : decode code 802 = .ok (.iconst 1, 1) := zdal_p dlw_B_3 (i := 26) rfl
theorem d_Law_803 : decode code 803 = .ok (.iadd, 1) := zdal_p dlw_B_3 (i := 27) rfl
theorem d_Law_804 : decode code 804 = .ok (.iaload, 1) := zdal_p dlw_B_3 (i := 28) rfl
theorem d_Law_805 : decode code 805 = .ok (.aload_n 0, 1) := zdal_p dlw_B_3 (i := 29) rfl
theorem d_Law_806 : decode code 806 = .ok (.iload_n 3, 1) := zdal_p dlw_B_3 (i := 30) rfl
theorem d_Law_807 : decode code 807 = .ok (.iconst 2, 1) := zdal_p dlw_B_3 (i := 31) rfl
theorem d_Law_808 : decode code 808 = .ok (.iadd, 1) := zdal_p dlw_B_3 (i := 32) rfl
theorem d_Law_809 : decode code 809 = .ok (.iaload, 1) := zdal_p dlw_B_3 (i := 33) rfl
theorem d_Law_810 : decode code 810 = .ok (.aload_n 0, 1) := zdal_p dlw_B_3 (i := 34) rfl
theorem d_Law_811 : decode code 811 = .ok (.iload_n 3, 1) := zdal_p dlw_B_3 (i := 35) rfl
theorem d_Law_812 : decode code 812 = .ok (.iconst 3, 1) := zdal_p dlw_B_3 (i := 36) rfl
theorem d_Law_813 : decode code 813 = .ok (.iadd, 1) := zdal_p dlw_B_3 (i := 37) rfl
theorem d_Law_814 : decode code 814 = .ok (.iaload, 1) := zdal_p dlw_B_3 (i := 38) rfl
theorem d_Law_815 : decode code 815 = .ok (.invokevirtual 94, 3) := zdal_p dlw_B_3 (i := 39) rfl
theorem d_Law_818 : decode code 818 = .ok (.pop, 1) := zdal_p dlw_B_3 (i := 40) rfl
theorem d_Law_819 : decode code 819 = .ok (.aload_n 2, 1) := zdal_p dlw_B_3 (i := 41) rfl
theorem d_Law_820 : decode code 820 = .ok (.aload_n 0, 1) := zdal_p dlw_B_3 (i := 42) rfl
theorem d_Law_821 : decode code 821 = .ok (.iload_n 3, 1) := zdal_p dlw_B_3 (i := 43) rfl
theorem d_Law_822 : decode code 822 = .ok (.iconst 1, 1) := zdal_p dlw_B_3 (i := 44) rfl
theorem d_Law_823 : decode code 823 = .ok (.iadd, 1) := zdal_p dlw_B_3 (i := 45) rfl
theorem d_Law_824 : decode code 824 = .ok (.iaload, 1) := zdal_p dlw_B_3 (i := 46) rfl
theorem d_Law_825 : decode code 825 = .ok (.aload_n 0, 1) := zdal_p dlw_B_3 (i := 47) rfl
theorem d_Law_826 : decode code 826 = .ok (.iload_n 3, 1) := zdal_p dlw_B_3 (i := 48) rfl
theorem d_Law_827 : decode code 827 = .ok (.iconst 2, 1) := zdal_p dlw_B_3 (i := 49) rfl
theorem d_Law_828 : decode code 828 = .ok (.iadd, 1) := zdal_p dlw_B_3 (i := 50) rfl
theorem d_Law_829 : decode code 829 = .ok (.iaload, 1) := zdal_p dlw_B_3 (i := 51) rfl
theorem d_Law_830 : decode code 830 = .ok (.aload_n 0, 1) := zdal_p dlw_B_3 (i := 52) rfl
theorem d_Law_831 : decode code 831 = .ok (.iload_n 3, 1) := zdal_p dlw_B_3 (i := 53) rfl
theorem d_Law_832 : decode code 832 = .ok (.iconst 3, 1) := zdal_p dlw_B_3 (i := 54) rfl
theorem d_Law_833 : decode code 833 = .ok (.iadd, 1) := zdal_p dlw_B_3 (i := 55) rfl
theorem d_Law_834 : decode code 834 = .ok (.iaload, 1) := zdal_p dlw_B_3 (i := 56) rfl
theorem d_Law_835 : decode code 835 = .ok (.invokevirtual 97, 3) := zdal_p dlw_B_3 (i := 57) rfl
theorem d_Law_838 : decode code 838 = .ok (.pop, 1) := zdal_p dlw_B_3 (i := 58) rfl
theorem d_Law_839 : decode code 839 = .ok (.goto 671, 3) := zdal_p dlw_B_3 (i := 59) rfl
theorem d_Law_842 : decode code 842 = .ok (.aload_n 1, 1) := zdal_p dlw_B_3 (i := 60) rfl
theorem d_Law_843 : decode code 843 = .ok (.aload_n 0, 1) := zdal_p dlw_B_3 (i := 61) rfl
theorem d_Law_844 : decode code 844 = .ok (.iload_n 3, 1) := zdal_p dlw_B_3 (i := 62) rfl
theorem d_Law_845 : decode code 845 = .ok (.iconst 1, 1) := zdal_p dlw_B_3 (i := 63) rfl
theorem dlw_B_4 : zdal code [(846, (.iadd, 1)), (847, (.iaload, 1)), (848, (.invokevirtual 98, 3)), (851, (.pop, 1))] = true := zYQs 846 (by decide +kernel)
theorem d_Law_846 : decode code 846 = .ok (.iadd, 1) := zdal_p dlw_B_4 (i := 0) rfl
theorem d_Law_847 : decode code 847 = .ok (.iaload, 1) := zdal_p dlw_B_4 (i := 1) rfl
theorem d_Law_848 : decode code 848 = .ok (.invokevirtual 98, 3) := zdal_p dlw_B_4 (i := 2) rfl
theorem d_Law_851 : decode code 851 = .ok (.pop, 1) := zdal_p dlw_B_4 (i := 3) rfl
theorem dlw_C_0 : zdal code [(852, (.aload_n 2, 1)), (853, (.aload_n 0, 1)), (854, (.iload_n 3, 1)), (855, (.iconst 1, 1)), (856, (.iadd, 1)), (857, (.iaload, 1)), (858, (.invokevirtual 101, 3)), (861, (.pop, 1)), (862, (.goto 648, 3)), (865, (.aload_n 1, 1)), (866, (.aload_n 0, 1)), (867, (.iload_n 3, 1)), (868, (.iconst 1, 1)), (869, (.iadd, 1)), (870, (.iaload, 1)), (871, (.invokevirtual 102, 3)), (874, (.pop, 1)), (875, (.aload_n 2, 1)), (876, (.aload_n 0, 1)), (877, (.iload_n 3, 1)), (878, (.iconst 1, 1)), (879, (.iadd, 1)), (880, (.iaload, 1)), (881, (.invokevirtual 105, 3)), (884, (.pop, 1)), (885, (.goto 625, 3)), (888, (.aload_n 1, 1)), (889, (.aload_n 0, 1)), (890, (.iload_n 3, 1)), (891, (.iconst 1, 1)), (892, (.iadd, 1)), (893, (.iaload, 1)), (894, (.invokevirtual 106, 3)), (897, (.pop, 1)), (898, (.aload_n 2, 1)), (899, (.aload_n 0, 1)), (900, (.iload_n 3, 1)), (901, (.iconst 1, 1)), (902, (.iadd, 1)), (903, (.iaload, 1)), (904, (.invokevirtual 109, 3)), (907, (.pop, 1)), (908, (.goto 602, 3)), (911, (.aload_n 1, 1)), (912, (.aload_n 0, 1)), (913, (.iload_n 3, 1)), (914, (.iconst 1, 1)), (915, (.iadd, 1)), (916, (.iaload, 1)), (917, (.aload_n 0, 1)), (918, (.iload_n 3, 1)), (919, (.iconst 2, 1)), (920, (.iadd, 1)), (921, (.iaload, 1)), (922, (.invokevirtual 110, 3)), (925, (.pop, 1)), (926, (.aload_n 2, 1)), (927, (.aload_n 0, 1)), (928, (.iload_n 3, 1)), (929, (.iconst 1, 1)), (930, (.iadd, 1)), (931, (.iaload, 1)), (932, (.aload_n 0, 1)), (933, (.iload_n 3, 1))] = true := zYQs 852 (by decide +kernel)
theorem d_Law_852 : decode code 852 = .ok (.aload_n 2, 1) := zdal_p dlw_C_0 (i := 0) rfl
theorem d_Law_853 : decode code 853 = .ok (.aload_n 0, 1) := zdal_p dlw_C_0 (i := 1) rfl
theorem d_Law_854 : decode code 854 = .ok (.iload_n 3, 1) := zdal_p dlw_C_0 (i := 2) rfl
theorem d_Law_855 : decode code 855 = .ok (.iconst 1, 1) := zdal_p dlw_C_0 (i := 3) rfl
theorem d_Law_856 : decode code 856 = .ok (.iadd, 1) := zdal_p dlw_C_0 (i := 4) rfl
theorem d_Law_857 : decode code 857 = .ok (.iaload, 1) := zdal_p dlw_C_0 (i := 5) rfl
theorem d_Law_858 : decode code 858 = .ok (.invokevirtual 101, 3) := zdal_p dlw_C_0 (i := 6) rfl
theorem d_Law_861 : decode code 861 = .ok (.pop, 1) := zdal_p dlw_C_0 (i := 7) rfl
theorem d_Law_862 : decode code 862 = .ok (.goto 648, 3) := zdal_p dlw_C_0 (i := 8) rfl
theorem d_Law_865 : decode code 865 = .ok (.aload_n 1, 1) := zdal_p dlw_C_0 (i := 9) rfl
theorem d_Law_866 : decode code 866 = .ok (.aload_n 0, 1) := zdal_p dlw_C_0 (i := 10) rfl
theorem d_Law_867 : decode code 867 = .ok (.iload_n 3, 1) := zdal_p dlw_C_0 (i := 11) rfl
theorem d_Law_868 : decode code 868 = .ok (.iconst 1, 1) := zdal_p dlw_C_0 (i := 12) rfl
theorem d_Law_869 : decode code 869 = .ok (.iadd, 1) := zdal_p dlw_C_0 (i := 13) rfl
theorem d_Law_870 : decode code 870 = .ok (.iaload, 1) := zdal_p dlw_C_0 (i := 14) rfl
theorem d_Law_871 : decode code 871 = .ok (.invokevirtual 102, 3) := zdal_p dlw_C_0 (i := 15) rfl
theorem d_Law_874 : decode code 874 = .ok (.pop, 1) := zdal_p dlw_C_0 (i := 16) rfl
theorem d_Law_875 : decode code 875 = .ok (.aload_n 2, 1) := zdal_p dlw_C_0 (i := 17) rfl
theorem d_Law_876 : decode code 876 = .ok (.aload_n 0, 1) := zdal_p dlw_C_0 (i := 18) rfl
theorem d_Law_877 : decode code 877 = .ok (.iload_n 3, 1) := zdal_p dlw_C_0 (i := 19) rfl
theorem d_Law_878 : decode code 878 = .ok (.iconst 1, 1) := zdal_p dlw_C_0 (i := 20) rfl
theorem d_Law_879 : decode code 879 = .ok (.iadd, 1) := zdal_p dlw_C_0 (i := 21) rfl
theorem d_Law_880 : decode code 880 = .ok (.iaload, 1) := zdal_p dlw_C_0 (i := 22) rfl
theorem d_Law_881 : decode code 881 = .ok (.invokevirtual 105, 3) := zdal_p dlw_C_0 (i := 23) rfl
theorem d_Law_884 : decode code 884 = .ok (.pop, 1) := zdal_p dlw_C_0 (i := 24) rfl
theorem d_Law_885 : decode code 885 = .ok (.goto 625, 3) := zdal_p dlw_C_0 (i := 25) rfl
theorem d_Law_888 : decode code 888 = .ok (.aload_n 1, 1) := zdal_p dlw_C_0 (i := 26) rfl
theorem d_Law_889 : decode code 889 = .ok (.aload_n 0, 1) := zdal_p dlw_C_0 (i := 27) rfl
theorem d_Law_890 : decode code 890 = .ok (.iload_n 3, 1) := zdal_p dlw_C_0 (i := 28) rfl
theorem d_Law_891 : decode code 891 = .ok (.iconst 1, 1) := zdal_p dlw_C_0 (i := 29) rfl
theorem d_Law_892 : decode code 892 = .ok (.iadd, 1) := zdal_p dlw_C_0 (i := 30) rfl
theorem d_Law_893 : decode code 893 = .ok (.iaload, 1) := zdal_p dlw_C_0 (i := 31) rfl
theorem d_Law_894 : decode code 894 = .ok (.invokevirtual 106, 3) := zdal_p dlw_C_0 (i := 32) rfl
theorem d_Law_897 : decode code 897 = .ok (.pop, 1) := zdal_p dlw_C_0 (i := 33) rfl
theorem d_Law_898 : decode code 898 = .ok (.aload_n 2, 1) := zdal_p dlw_C_0 (i := 34) rfl
theorem d_Law_899 : decode code 899 = .ok (.aload_n 0, 1) := zdal_p dlw_C_0 (i := 35) rfl
theorem d_Law_900 : decode code 900 = .ok (.iload_n 3, 1) := zdal_p dlw_C_0 (i := 36) rfl
theorem d_Law_901 : decode code 901 = .ok (.iconst 1, 1) := zdal_p dlw_C_0 (i := 37) rfl
theorem d_Law_902 : decode code 902 = .ok (.iadd, 1) := zdal_p dlw_C_0 (i := 38) rfl
theorem d_Law_903 : decode code 903 = .ok (.iaload, 1) := zdal_p dlw_C_0 (i := 39) rfl
theorem d_Law_904 : decode code 904 = .ok (.invokevirtual 109, 3) := zdal_p dlw_C_0 (i := 40) rfl
theorem d_Law_907 : decode code 907 = .ok (.pop, 1) := zdal_p dlw_C_0 (i := 41) rfl
theorem d_Law_908 : decode code 908 = .ok (.goto 602, 3) := zdal_p dlw_C_0 (i := 42) rfl
theorem d_Law_911 : decode code 911 = .ok (.aload_n 1, 1) := zdal_p dlw_C_0 (i := 43) rfl
theorem d_Law_912 : decode code 912 = .ok (.aload_n 0, 1) := zdal_p dlw_C_0 (i := 44) rfl
theorem d_Law_913 : decode code 913 = .ok (.iload_n 3, 1) := zdal_p dlw_C_0 (i := 45) rfl
theorem d_Law_914 : decode code 914 = .ok (.iconst 1, 1) := zdal_p dlw_C_0 (i := 46) rfl
theorem d_Law_915 : decode code 915 = .ok (.iadd, 1) := zdal_p dlw_C_0 (i := 47) rfl
theorem d_Law_916 : decode code 916 = .ok (.iaload, 1) := zdal_p dlw_C_0 (i := 48) rfl
theorem d_Law_917 : decode code 917 = .ok (.aload_n 0, 1) := zdal_p dlw_C_0 (i := 49) rfl
theorem d_Law_918 : decode code 918 = .ok (.iload_n 3, 1) := zdal_p dlw_C_0 (i := 50) rfl
theorem d_Law_919 : decode code 919 = .ok (.iconst 2, 1) := zdal_p dlw_C_0 (i := 51) rfl
theorem d_Law_920 : decode code 920 = .ok (.iadd, 1) := zdal_p dlw_C_0 (i := 52) rfl
theorem d_Law_921 : decode code 921 = .ok (.iaload, 1) := zdal_p dlw_C_0 (i := 53) rfl
theorem d_Law_922 : decode code 922 = .ok (.invokevirtual 110, 3) := zdal_p dlw_C_0 (i := 54) rfl
theorem d_Law_925 : decode code 925 = .ok (.pop, 1) := zdal_p dlw_C_0 (i := 55) rfl
theorem d_Law_926 : decode code 926 = .ok (.aload_n 2, 1) := zdal_p dlw_C_0 (i := 56) rfl
theorem d_Law_927 : decode code 927 = .ok (.aload_n 0, 1) := zdal_p dlw_C_0 (i := 57) rfl
theorem d_Law_928 : decode code 928 = .ok (.iload_n 3, 1) := zdal_p dlw_C_0 (i := 58) rfl
theorem d_Law_929 : decode code 929 = .ok (.iconst 1, 1) := zdal_p dlw_C_0 (i := 59) rfl
theorem d_Law_930 : decode code 930 = .ok (.iadd, 1) := zdal_p dlw_C_0 (i := 60) rfl
theorem d_Law_931 : decode code 931 = .ok (.iaload, 1) := zdal_p dlw_C_0 (i := 61) rfl
theorem d_Law_932 : decode code 932 = .ok (.aload_n 0, 1) := zdal_p dlw_C_0 (i := 62) rfl
theorem d_Law_933 : decode code 933 = .ok (.iload_n 3, 1) := zdal_p dlw_C_0 (i := 63) rfl
theorem dlw_C_1 : zdal code [(934, (.iconst 2, 1)), (935, (.iadd, 1)), (936, (.iaload, 1)), (937, (.invokevirtual 113, 3)), (940, (.pop, 1)), (941, (.goto 569, 3)), (944, (.aload_n 1, 1)), (945, (.invokevirtual 114, 3)), (948, (.pop, 1)), (949, (.aload_n 2, 1)), (950, (.invokevirtual 117, 3)), (953, (.pop, 1)), (954, (.goto 556, 3)), (957, (.aload_n 1, 1)), (958, (.aload_n 0, 1)), (959, (.iload_n 3, 1)), (960, (.iconst 1, 1)), (961, (.iadd, 1)), (962, (.iaload, 1)), (963, (.aload_n 0, 1)), (964, (.iload_n 3, 1)), (965, (.iconst 2, 1)), (966, (.iadd, 1)), (967, (.iaload, 1)), (968, (.invokevirtual 118, 3)), (971, (.pop, 1)), (972, (.aload_n 2, 1)), (973, (.aload_n 0, 1)), (974, (.iload_n 3, 1)), (975, (.iconst 1, 1)), (976, (.iadd, 1)), (977, (.iaload, 1)), (978, (.aload_n 0, 1)), (979, (.iload_n 3, 1)), (980, (.iconst 2, 1)), (981, (.iadd, 1)), (982, (.iaload, 1)), (983, (.invokevirtual 121, 3)), (986, (.pop, 1)), (987, (.goto 523, 3)), (990, (.aload_n 1, 1)), (991, (.aload_n 0, 1)), (992, (.iload_n 3, 1)), (993, (.iconst 1, 1)), (994, (.iadd, 1)), (995, (.iaload, 1)), (996, (.aload_n 0, 1)), (997, (.iload_n 3, 1)), (998, (.iconst 2, 1)), (999, (.iadd, 1)), (1000, (.iaload, 1)), (1001, (.invokevirtual 122, 3)), (1004, (.pop, 1)), (1005, (.aload_n 2, 1)), (1006, (.aload_n 0, 1)), (1007, (.iload_n 3, 1)), (1008, (.iconst 1, 1)), (1009, (.iadd, 1)), (1010, (.iaload, 1)), (1011, (.aload_n 0, 1)), (1012, (.iload_n 3, 1)), (1013, (.iconst 2, 1)), (1014, (.iadd, 1)), (1015, (.iaload, 1))] = true := zYQs 934 (by decide +kernel)
theorem d_Law_934 : decode code 934 = .ok (.iconst 2, 1) := zdal_p dlw_C_1 (i := 0) rfl
theorem d_Law_935 : decode code 935 = .ok (.iadd, 1) := zdal_p dlw_C_1 (i := 1) rfl
theorem d_Law_936 : decode code 936 = .ok (.iaload, 1) := zdal_p dlw_C_1 (i := 2) rfl
theorem d_Law_937 : decode code 937 = .ok (.invokevirtual 113, 3) := zdal_p dlw_C_1 (i := 3) rfl
theorem d_Law_940 : decode code 940 = .ok (.pop, 1) := zdal_p dlw_C_1 (i := 4) rfl
theorem d_Law_941 : decode code 941 = .ok (.goto 569, 3) := zdal_p dlw_C_1 (i := 5) rfl
theorem d_Law_944 : decode code 944 = .ok (.aload_n 1, 1) := zdal_p dlw_C_1 (i := 6) rfl
theorem d_Law_945 : decode code 945 = .ok (.invokevirtual 114, 3) := zdal_p dlw_C_1 (i := 7) rfl
theorem d_Law_948 : decode code 948 = .ok (.pop, 1) := zdal_p dlw_C_1 (i := 8) rfl
theorem d_Law_949 : decode code 949 = .ok (.aload_n 2, 1) := zdal_p dlw_C_1 (i := 9) rfl
theorem d_Law_950 : decode code 950 = .ok (.invokevirtual 117, 3) := zdal_p dlw_C_1 (i := 10) rfl
theorem d_Law_953 : decode code 953 = .ok (.pop, 1) := zdal_p dlw_C_1 (i := 11) rfl
theorem d_Law_954 : decode code 954 = .ok (.goto 556, 3) := zdal_p dlw_C_1 (i := 12) rfl
theorem d_Law_957 : decode code 957 = .ok (.aload_n 1, 1) := zdal_p dlw_C_1 (i := 13) rfl
theorem d_Law_958 : decode code 958 = .ok (.aload_n 0, 1) := zdal_p dlw_C_1 (i := 14) rfl
theorem d_Law_959 : decode code 959 = .ok (.iload_n 3, 1) := zdal_p dlw_C_1 (i := 15) rfl
theorem d_Law_960 : decode code 960 = .ok (.iconst 1, 1) := zdal_p dlw_C_1 (i := 16) rfl
theorem d_Law_961 : decode code 961 = .ok (.iadd, 1) := zdal_p dlw_C_1 (i := 17) rfl
theorem d_Law_962 : decode code 962 = .ok (.iaload, 1) := zdal_p dlw_C_1 (i := 18) rfl
theorem d_Law_963 : decode code 963 = .ok (.aload_n 0, 1) := zdal_p dlw_C_1 (i := 19) rfl
theorem d_Law_964 : decode code 964 = .ok (.iload_n 3, 1) := zdal_p dlw_C_1 (i := 20) rfl
theorem d_Law_965 : decode code 965 = .ok (.iconst 2, 1) := zdal_p dlw_C_1 (i := 21) rfl
theorem d_Law_966 : decode code 966 = .ok (.iadd, 1) := zdal_p dlw_C_1 (i := 22) rfl
theorem d_Law_967 : decode code 967 = .ok (.iaload, 1) := zdal_p dlw_C_1 (i := 23) rfl
theorem d_Law_968 : decode code 968 = .ok (.invokevirtual 118, 3) := zdal_p dlw_C_1 (i := 24) rfl
theorem d_Law_971 : decode code 971 = .ok (.pop, 1) := zdal_p dlw_C_1 (i := 25) rfl
theorem d_Law_972 : decode code 972 = .ok (.aload_n 2, 1) := zdal_p dlw_C_1 (i := 26) rfl
theorem d_Law_973 : decode code 973 = .ok (.aload_n 0, 1) := zdal_p dlw_C_1 (i := 27) rfl
theorem d_Law_974 : decode code 974 = .ok (.iload_n 3, 1) := zdal_p dlw_C_1 (i := 28) rfl
theorem d_Law_975 : decode code 975 = .ok (.iconst 1, 1) := zdal_p dlw_C_1 (i := 29) rfl
theorem d_Law_976 : decode code 976 = .ok (.iadd, 1) := zdal_p dlw_C_1 (i := 30) rfl
theorem d_Law_977 : decode code 977 = .ok (.iaload, 1) := zdal_p dlw_C_1 (i := 31) rfl
theorem d_Law_978 : decode code 978 = .ok (.aload_n 0, 1) := zdal_p dlw_C_1 (i := 32) rfl
theorem d_Law_979 : decode code 979 = .ok (.iload_n 3, 1) := zdal_p dlw_C_1 (i := 33) rfl
theorem d_Law_980 : decode code 980 = .ok (.iconst 2, 1) := zdal_p dlw_C_1 (i := 34) rfl
theorem d_Law_981 : decode code 981 = .ok (.iadd, 1) := zdal_p dlw_C_1 (i := 35) rfl
theorem d_Law_982 : decode code 982 = .ok (.iaload, 1) := zdal_p dlw_C_1 (i := 36) rfl
theorem d_Law_983 : decode code 983 = .ok (.invokevirtual 121, 3) := zdal_p dlw_C_1 (i := 37) rfl
theorem d_Law_986 : decode code 986 = .ok (.pop, 1) := zdal_p dlw_C_1 (i := 38) rfl
theorem d_Law_987 : decode code 987 = .ok (.goto 523, 3) := zdal_p dlw_C_1 (i := 39) rfl
theorem d_Law_990 : decode code 990 = .ok (.aload_n 1, 1) := zdal_p dlw_C_1 (i := 40) rfl
theorem d_Law_991 : decode code 991 = .ok (.aload_n 0, 1) := zdal_p dlw_C_1 (i := 41) rfl
theorem d_Law_992 : decode code 992 = .ok (.iload_n 3, 1) := zdal_p dlw_C_1 (i := 42) rfl
theorem d_Law_993 : decode code 993 = .ok (.iconst 1, 1) := zdal_p dlw_C_1 (i := 43) rfl
theorem d_Law_994 : decode code 994 = .ok (.iadd, 1) := zdal_p dlw_C_1 (i := 44) rfl
theorem d_Law_995 : decode code 995 = .ok (.iaload, 1) := zdal_p dlw_C_1 (i := 45) rfl
theorem d_Law_996 : decode code 996 = .ok (.aload_n 0, 1) := zdal_p dlw_C_1 (i := 46) rfl
theorem d_Law_997 : decode code 997 = .ok (.iload_n 3, 1) := zdal_p dlw_C_1 (i := 47) rfl
theorem d_Law_998 : decode code 998 = .ok (.iconst 2, 1) := zdal_p dlw_C_1 (i := 48) rfl
theorem d_Law_999 : decode code 999 = .ok (.iadd, 1) := zdal_p dlw_C_1 (i := 49) rfl
theorem d_Law_1000 : decode code 1000 = .ok (.iaload, 1) := zdal_p dlw_C_1 (i := 50) rfl
theorem d_Law_1001 : decode code 1001 = .ok (.invokevirtual 122, 3) := zdal_p dlw_C_1 (i := 51) rfl
theorem d_Law_1004 : decode code 1004 = .ok (.pop, 1) := zdal_p dlw_C_1 (i := 52) rfl
theorem d_Law_1005 : decode code 1005 = .ok (.aload_n 2, 1) := zdal_p dlw_C_1 (i := 53) rfl
theorem d_Law_1006 : decode code 1006 = .ok (.aload_n 0, 1) := zdal_p dlw_C_1 (i := 54) rfl
theorem d_Law_1007 : decode code 1007 = .ok (.iload_n 3, 1) := zdal_p dlw_C_1 (i := 55) rfl
theorem d_Law_1008 : decode code 1008 = .ok (.iconst 1, 1) := zdal_p dlw_C_1 (i := 56) rfl
theorem d_Law_1009 : decode code 1009 = .ok (.iadd, 1) := zdal_p dlw_C_1 (i := 57) rfl
theorem d_Law_1010 : decode code 1010 = .ok (.iaload, 1) := zdal_p dlw_C_1 (i := 58) rfl
theorem d_Law_1011 : decode code 1011 = .ok (.aload_n 0, 1) := zdal_p dlw_C_1 (i := 59) rfl
theorem d_Law_1012 : decode code 1012 = .ok (.iload_n 3, 1) := zdal_p dlw_C_1 (i := 60) rfl
theorem d_Law_1013 : decode code 1013 = .ok (.iconst 2, 1) := zdal_p dlw_C_1 (i := 61) rfl
theorem d_Law_1014 : decode code 1014 = .ok (.iadd, 1) := zdal_p dlw_C_1 (i := 62) rfl
theorem d_Law_1015 : decode code 1015 = .ok (.iaload, 1) := zdal_p dlw_C_1 (i := 63) rfl
theorem dlw_C_2 : zdal code [(1016, (.invokevirtual 125, 3)), (1019, (.pop, 1)), (1020, (.goto 490, 3)), (1023, (.aload_n 1, 1)), (1024, (.aload_n 0, 1)), (1025, (.iload_n 3, 1)), (1026, (.iconst 1, 1)), (1027, (.iadd, 1)), (1028, (.iaload, 1)), (1029, (.invokevirtual 126, 3)), (1032, (.pop, 1)), (1033, (.aload_n 2, 1)), (1034, (.aload_n 0, 1)), (1035, (.iload_n 3, 1)), (1036, (.iconst 1, 1)), (1037, (.iadd, 1)), (1038, (.iaload, 1)), (1039, (.invokevirtual 129, 3)), (1042, (.pop, 1)), (1043, (.goto 467, 3)), (1046, (.aload_n 1, 1)), (1047, (.aload_n 0, 1)), (1048, (.iload_n 3, 1)), (1049, (.iconst 1, 1)), (1050, (.iadd, 1)), (1051, (.iaload, 1)), (1052, (.invokevirtual 130, 3)), (1055, (.pop, 1)), (1056, (.aload_n 2, 1)), (1057, (.aload_n 0, 1)), (1058, (.iload_n 3, 1)), (1059, (.iconst 1, 1)), (1060, (.iadd, 1)), (1061, (.iaload, 1)), (1062, (.invokevirtual 133, 3)), (1065, (.pop, 1)), (1066, (.goto 444, 3)), (1069, (.aload_n 1, 1)), (1070, (.aload_n 0, 1)), (1071, (.iload_n 3, 1)), (1072, (.iconst 1, 1)), (1073, (.iadd, 1)), (1074, (.iaload, 1)), (1075, (.aload_n 0, 1)), (1076, (.iload_n 3, 1)), (1077, (.iconst 2, 1)), (1078, (.iadd, 1)), (1079, (.iaload, 1)), (1080, (.aload_n 0, 1)), (1081, (.iload_n 3, 1)), (1082, (.iconst 3, 1)), (1083, (.iadd, 1)), (1084, (.iaload, 1)), (1085, (.invokevirtual 134, 3)), (1088, (.pop, 1)), (1089, (.aload_n 2, 1)), (1090, (.aload_n 0, 1)), (1091, (.iload_n 3, 1)), (1092, (.iconst 1, 1)), (1093, (.iadd, 1)), (1094, (.iaload, 1)), (1095, (.aload_n 0, 1)), (1096, (.iload_n 3, 1)), (1097, (.iconst 2, 1))] = true := zYQs 1016 (by decide +kernel)
theorem d_Law_1016 : decode code 1016 = .ok (.invokevirtual 125, 3) := zdal_p dlw_C_2 (i := 0) rfl
theorem d_Law_1019 : decode code 1019 = .ok (.pop, 1) := zdal_p dlw_C_2 (i := 1) rfl
theorem d_Law_1020 : decode code 1020 = .ok (.goto 490, 3) := zdal_p dlw_C_2 (i := 2) rfl
theorem d_Law_1023 : decode code 1023 = .ok (.aload_n 1, 1) := zdal_p dlw_C_2 (i := 3) rfl
theorem d_Law_1024 : decode code 1024 = .ok (.aload_n 0, 1) := zdal_p dlw_C_2 (i := 4) rfl
theorem d_Law_1025 : decode code 1025 = .ok (.iload_n 3, 1) := zdal_p dlw_C_2 (i := 5) rfl
theorem d_Law_1026 : decode code 1026 = .ok (.iconst 1, 1) := zdal_p dlw_C_2 (i := 6) rfl
theorem d_Law_1027 : decode code 1027 = .ok (.iadd, 1) := zdal_p dlw_C_2 (i := 7) rfl
theorem d_Law_1028 : decode code 1028 = .ok (.iaload, 1) := zdal_p dlw_C_2 (i := 8) rfl
theorem d_Law_1029 : decode code 1029 = .ok (.invokevirtual 126, 3) := zdal_p dlw_C_2 (i := 9) rfl
theorem d_Law_1032 : decode code 1032 = .ok (.pop, 1) := zdal_p dlw_C_2 (i := 10) rfl
theorem d_Law_1033 : decode code 1033 = .ok (.aload_n 2, 1) := zdal_p dlw_C_2 (i := 11) rfl
theorem d_Law_1034 : decode code 1034 = .ok (.aload_n 0, 1) := zdal_p dlw_C_2 (i := 12) rfl
theorem d_Law_1035 : decode code 1035 = .ok (.iload_n 3, 1) := zdal_p dlw_C_2 (i := 13) rfl
theorem d_Law_1036 : decode code 1036 = .ok (.iconst 1, 1) := zdal_p dlw_C_2 (i := 14) rfl
theorem d_Law_1037 : decode code 1037 = .ok (.iadd, 1) := zdal_p dlw_C_2 (i := 15) rfl
theorem d_Law_1038 : decode code 1038 = .ok (.iaload, 1) := zdal_p dlw_C_2 (i := 16) rfl
theorem d_Law_1039 : decode code 1039 = .ok (.invokevirtual 129, 3) := zdal_p dlw_C_2 (i := 17) rfl
theorem d_Law_1042 : decode code 1042 = .ok (.pop, 1) := zdal_p dlw_C_2 (i := 18) rfl
theorem d_Law_1043 : decode code 1043 = .ok (.goto 467, 3) := zdal_p dlw_C_2 (i := 19) rfl
theorem d_Law_1046 : decode code 1046 = .ok (.aload_n 1, 1) := zdal_p dlw_C_2 (i := 20) rfl
theorem d_Law_1047 : decode code 1047 = .ok (.aload_n 0, 1) := zdal_p dlw_C_2 (i := 21) rfl
theorem d_Law_1048 : decode code 1048 = .ok (.iload_n 3, 1) := zdal_p dlw_C_2 (i := 22) rfl
theorem d_Law_1049 : decode code 1049 = .ok (.iconst 1, 1) := zdal_p dlw_C_2 (i := 23) rfl
theorem d_Law_1050 : decode code 1050 = .ok (.iadd, 1) := zdal_p dlw_C_2 (i := 24) rfl
theorem d_Law_1051 : decode code 1051 = .ok (.iaload, 1) := zdal_p dlw_C_2 (i := 25) rfl
theorem d_Law_1052 : decode code 1052 = .ok (.invokevirtual 130, 3) := zdal_p dlw_C_2 (i := 26) rfl
theorem d_Law_1055 : decode code 1055 = .ok (.pop, 1) := zdal_p dlw_C_2 (i := 27) rfl
theorem d_Law_1056 : decode code 1056 = .ok (.aload_n 2, 1) := zdal_p dlw_C_2 (i := 28) rfl
theorem d_Law_1057 : decode code 1057 = .ok (.aload_n 0, 1) := zdal_p dlw_C_2 (i := 29) rfl
theorem d_Law_1058 : decode code 1058 = .ok (.iload_n 3, 1) := zdal_p dlw_C_2 (i := 30) rfl
theorem d_Law_1059 : decode code 1059 = .ok (.iconst 1, 1) := zdal_p dlw_C_2 (i := 31) rfl
theorem d_Law_1060 : decode code 1060 = .ok (.iadd, 1) := zdal_p dlw_C_2 (i := 32) rfl
theorem d_Law_1061 : decode code 1061 = .ok (.iaload, 1) := zdal_p dlw_C_2 (i := 33) rfl
theorem d_Law_1062 : decode code 1062 = .ok (.invokevirtual 133, 3) := zdal_p dlw_C_2 (i := 34) rfl
theorem d_Law_1065 : decode code 1065 = .ok (.pop, 1) := zdal_p dlw_C_2 (i := 35) rfl
theorem d_Law_1066 : decode code 1066 = .ok (.goto 444, 3) := zdal_p dlw_C_2 (i := 36) rfl
theorem d_Law_1069 : decode code 1069 = .ok (.aload_n 1, 1) := zdal_p dlw_C_2 (i := 37) rfl
theorem d_Law_1070 : decode code 1070 = .ok (.aload_n 0, 1) := zdal_p dlw_C_2 (i := 38) rfl
theorem d_Law_1071 : decode code 1071 = .ok (.iload_n 3, 1) := zdal_p dlw_C_2 (i := 39) rfl
theorem d_Law_1072 : decode code 1072 = .ok (.iconst 1, 1) := zdal_p dlw_C_2 (i := 40) rfl
theorem d_Law_1073 : decode code 1073 = .ok (.iadd, 1) := zdal_p dlw_C_2 (i := 41) rfl
theorem d_Law_1074 : decode code 1074 = .ok (.iaload, 1) := zdal_p dlw_C_2 (i := 42) rfl
theorem d_Law_1075 : decode code 1075 = .ok (.aload_n 0, 1) := zdal_p dlw_C_2 (i := 43) rfl
theorem d_Law_1076 : decode code 1076 = .ok (.iload_n 3, 1) := zdal_p dlw_C_2 (i := 44) rfl
theorem d_Law_1077 : decode code 1077 = .ok (.iconst 2, 1) := zdal_p dlw_C_2 (i := 45) rfl
theorem d_Law_1078 : decode code 1078 = .ok (.iadd, 1) := zdal_p dlw_C_2 (i := 46) rfl
theorem d_Law_1079 : decode code 1079 = .ok (.iaload, 1) := zdal_p dlw_C_2 (i := 47) rfl
theorem d_Law_1080 : decode code 1080 = .ok (.aload_n 0, 1) := zdal_p dlw_C_2 (i := 48) rfl
theorem d_Law_1081 : decode code 1081 = .ok (.iload_n 3, 1) := zdal_p dlw_C_2 (i := 49) rfl
theorem d_Law_1082 : decode code 1082 = .ok (.iconst 3, 1) := zdal_p dlw_C_2 (i := 50) rfl
theorem d_Law_1083 : decode code 1083 = .ok (.iadd, 1) := zdal_p dlw_C_2 (i := 51) rfl
theorem d_Law_1084 : decode code 1084 = .ok (.iaload, 1) := zdal_p dlw_C_2 (i := 52) rfl
theorem d_Law_1085 : decode code 1085 = .ok (.invokevirtual 134, 3) := zdal_p dlw_C_2 (i := 53) rfl
theorem d_Law_1088 : decode code 1088 = .ok (.pop, 1) := zdal_p dlw_C_2 (i := 54) rfl
theorem d_Law_1089 : decode code 1089 = .ok (.aload_n 2, 1) := zdal_p dlw_C_2 (i := 55) rfl
theorem d_Law_1090 : decode code 1090 = .ok (.aload_n 0, 1) := zdal_p dlw_C_2 (i := 56) rfl
theorem d_Law_1091 : decode code 1091 = .ok (.iload_n 3, 1) := zdal_p dlw_C_2 (i := 57) rfl
theorem d_Law_1092 : decode code 1092 = .ok (.iconst 1, 1) := zdal_p dlw_C_2 (i := 58) rfl
theorem d_Law_1093 : decode code 1093 = .ok (.iadd, 1) := zdal_p dlw_C_2 (i := 59) rfl
theorem d_Law_1094 : decode code 1094 = .ok (.iaload, 1) := zdal_p dlw_C_2 (i := 60) rfl
theorem d_Law_1095 : decode code 1095 = .ok (.aload_n 0, 1) := zdal_p dlw_C_2 (i := 61) rfl
theorem d_Law_1096 : decode code 1096 = .ok (.iload_n 3, 1) := zdal_p dlw_C_2 (i := 62) rfl
theorem d_Law_1097 : decode code 1097 = .ok (.iconst 2, 1) := zdal_p dlw_C_2 (i := 63) rfl
theorem dlw_C_3 : zdal code [(1098, (.iadd, 1)), (1099, (.iaload, 1)), (1100, (.aload_n 0, 1)), (1101, (.iload_n 3, 1)), (1102, (.iconst 3, 1)), (1103, (.iadd, 1)), (1104, (.iaload, 1)), (1105, (.invokevirtual 137, 3)), (1108, (.pop, 1)), (1109, (.goto 401, 3)), (1112, (.aload_n 1, 1)), (1113, (.aload_n 0, 1)), (1114, (.iload_n 3, 1)), (1115, (.iconst 1, 1)), (1116, (.iadd, 1)), (1117, (.iaload, 1)), (1118, (.aload_n 0, 1)), (1119, (.iload_n 3, 1)), (1120, (.iconst 2, 1)), (1121, (.iadd, 1)), (1122, (.iaload, 1)), (1123, (.aload_n 0, 1)), (1124, (.iload_n 3, 1)), (1125, (.iconst 3, 1)), (1126, (.iadd, 1)), (1127, (.iaload, 1)), (1128, (.aload_n 0, 1)), (1129, (.iload_n 3, 1)), (1130, (.iconst 4, 1)), (1131, (.iadd, 1)), (1132, (.iaload, 1)), (1133, (.invokevirtual 138, 3)), (1136, (.pop, 1)), (1137, (.aload_n 2, 1)), (1138, (.aload_n 0, 1)), (1139, (.iload_n 3, 1)), (1140, (.iconst 1, 1)), (1141, (.iadd, 1)), (1142, (.iaload, 1)), (1143, (.aload_n 0, 1)), (1144, (.iload_n 3, 1)), (1145, (.iconst 2, 1)), (1146, (.iadd, 1)), (1147, (.iaload, 1)), (1148, (.aload_n 0, 1)), (1149, (.iload_n 3, 1)), (1150, (.iconst 3, 1)), (1151, (.iadd, 1)), (1152, (.iaload, 1)), (1153, (.aload_n 0, 1)), (1154, (.iload_n 3, 1)), (1155, (.iconst 4, 1)), (1156, (.iadd, 1)), (1157, (.iaload, 1)), (1158, (.invokevirtual 142, 3)), (1161, (.pop, 1)), (1162, (.goto 348, 3)), (1165, (.aload_n 1, 1)), (1166, (.invokevirtual 143, 3)), (1169, (.pop, 1)), (1170, (.aload_n 2, 1)), (1171, (.invokevirtual 146, 3)), (1174, (.pop, 1)), (1175, (.goto 335, 3))] = true := zYQs 1098 (by decide +kernel)
theorem d_Law_1098 : decode code 1098 = .ok (.iadd, 1) := zdal_p dlw_C_3 (i := 0) rfl
theorem d_Law_1099 : decode code 1099 = .ok (.iaload, 1) := zdal_p dlw_C_3 (i := 1) rfl
theorem d_Law_1100 : decode code 1100 = .ok (.aload_n 0, 1) := zdal_p dlw_C_3 (i := 2) rfl
theorem d_Law_1101 : decode code 1101 = .ok (.iload_n 3, 1) := zdal_p dlw_C_3 (i := 3) rfl
theorem d_Law_1102 : decode code 1102 = .ok (.iconst 3, 1) := zdal_p dlw_C_3 (i := 4) rfl
theorem d_Law_1103 : decode code 1103 = .ok (.iadd, 1) := zdal_p dlw_C_3 (i := 5) rfl
theorem d_Law_1104 : decode code 1104 = .ok (.iaload, 1) := zdal_p dlw_C_3 (i := 6) rfl
theorem d_Law_1105 : decode code 1105 = .ok (.invokevirtual 137, 3) := zdal_p dlw_C_3 (i := 7) rfl
theorem d_Law_1108 : decode code 1108 = .ok (.pop, 1) := zdal_p dlw_C_3 (i := 8) rfl
theorem d_Law_1109 : decode code 1109 = .ok (.goto 401, 3) := zdal_p dlw_C_3 (i := 9) rfl
theorem d_Law_1112 : decode code 1112 = .ok (.aload_n 1, 1) := zdal_p dlw_C_3 (i := 10) rfl
theorem d_Law_1113 : decode code 1113 = .ok (.aload_n 0, 1) := zdal_p dlw_C_3 (i := 11) rfl
theorem d_Law_1114 : decode code 1114 = .ok (.iload_n 3, 1) := zdal_p dlw_C_3 (i := 12) rfl
theorem d_Law_1115 : decode code 1115 = .ok (.iconst 1, 1) := zdal_p dlw_C_3 (i := 13) rfl
theorem d_Law_1116 : decode code 1116 = .ok (.iadd, 1) := zdal_p dlw_C_3 (i := 14) rfl
theorem d_Law_1117 : decode code 1117 = .ok (.iaload, 1) := zdal_p dlw_C_3 (i := 15) rfl
theorem d_Law_1118 : decode code 1118 = .ok (.aload_n 0, 1) := zdal_p dlw_C_3 (i := 16) rfl
theorem d_Law_1119 : decode code 1119 = .ok (.iload_n 3, 1) := zdal_p dlw_C_3 (i := 17) rfl
theorem d_Law_1120 : decode code 1120 = .ok (.iconst 2, 1) := zdal_p dlw_C_3 (i := 18) rfl
theorem d_Law_1121 : decode code 1121 = .ok (.iadd, 1) := zdal_p dlw_C_3 (i := 19) rfl
theorem d_Law_1122 : decode code 1122 = .ok (.iaload, 1) := zdal_p dlw_C_3 (i := 20) rfl
theorem d_Law_1123 : decode code 1123 = .ok (.aload_n 0, 1) := zdal_p dlw_C_3 (i := 21) rfl
theorem d_Law_1124 : decode code 1124 = .ok (.iload_n 3, 1) := zdal_p dlw_C_3 (i := 22) rfl
theorem d_Law_1125 : decode code 1125 = .ok (.iconst 3, 1) := zdal_p dlw_C_3 (i := 23) rfl
theorem d_Law_1126 : decode code 1126 = .ok (.iadd, 1) := zdal_p dlw_C_3 (i := 24) rfl
theorem d_Law_1127 : decode code 1127 = .ok (.iaload, 1) := zdal_p dlw_C_3 (i := 25) rfl
theorem d_Law_1128 : decode code 1128 = .ok (.aload_n 0, 1) := zdal_p dlw_C_3 (i := 26) rfl
theorem d_Law_1129 : decode code 1129 = .ok (.iload_n 3, 1) := zdal_p dlw_C_3 (i := 27) rfl
theorem d_Law_1130 : decode code 1130 = .ok (.iconst 4, 1) := zdal_p dlw_C_3 (i := 28) rfl
theorem d_Law_1131 : decode code 1131 = .ok (.iadd, 1) := zdal_p dlw_C_3 (i := 29) rfl
theorem d_Law_1132 : decode code 1132 = .ok (.iaload, 1) := zdal_p dlw_C_3 (i := 30) rfl
theorem d_Law_1133 : decode code 1133 = .ok (.invokevirtual 138, 3) := zdal_p dlw_C_3 (i := 31) rfl
theorem d_Law_1136 : decode code 1136 = .ok (.pop, 1) := zdal_p dlw_C_3 (i := 32) rfl
theorem d_Law_1137 : decode code 1137 = .ok (.aload_n 2, 1) := zdal_p dlw_C_3 (i := 33) rfl
theorem d_Law_1138 : decode code 1138 = .ok (.aload_n 0, 1) := zdal_p dlw_C_3 (i := 34) rfl
theorem d_Law_1139 : decode code 1139 = .ok (.iload_n 3, 1) := zdal_p dlw_C_3 (i := 35) rfl
theorem d_Law_1140 : decode code 1140 = .ok (.iconst 1, 1) := zdal_p dlw_C_3 (i := 36) rfl
theorem d_Law_1141 : decode code 1141 = .ok (.iadd, 1) := zdal_p dlw_C_3 (i := 37) rfl
theorem d_Law_1142 : decode code 1142 = .ok (.iaload, 1) := zdal_p dlw_C_3 (i := 38) rfl
theorem d_Law_1143 : decode code 1143 = .ok (.aload_n 0, 1) := zdal_p dlw_C_3 (i := 39) rfl
theorem d_Law_1144 : decode code 1144 = .ok (.iload_n 3, 1) := zdal_p dlw_C_3 (i := 40) rfl
theorem d_Law_1145 : decode code 1145 = .ok (.iconst 2, 1) := zdal_p dlw_C_3 (i := 41) rfl
theorem d_Law_1146 : decode code 1146 = .ok (.iadd, 1) := zdal_p dlw_C_3 (i := 42) rfl
theorem d_Law_1147 : decode code 1147 = .ok (.iaload, 1) := zdal_p dlw_C_3 (i := 43) rfl
theorem d_Law_1148 : decode code 1148 = .ok (.aload_n 0, 1) := zdal_p dlw_C_3 (i := 44) rfl
theorem d_Law_1149 : decode code 1149 = .ok (.iload_n 3, 1) := zdal_p dlw_C_3 (i := 45) rfl
theorem d_Law_1150 : decode code 1150 = .ok (.iconst 3, 1) := zdal_p dlw_C_3 (i := 46) rfl
theorem d_Law_1151 : decode code 1151 = .ok (.iadd, 1) := zdal_p dlw_C_3 (i := 47) rfl
theorem d_Law_1152 : decode code 1152 = .ok (.iaload, 1) := zdal_p dlw_C_3 (i := 48) rfl
theorem d_Law_1153 : decode code 1153 = .ok (.aload_n 0, 1) := zdal_p dlw_C_3 (i := 49) rfl
theorem d_Law_1154 : decode code 1154 = .ok (.iload_n 3, 1) := zdal_p dlw_C_3 (i := 50) rfl
theorem d_Law_1155 : decode code 1155 = .ok (.iconst 4, 1) := zdal_p dlw_C_3 (i := 51) rfl
theorem d_Law_1156 : decode code 1156 = .ok (.iadd, 1) := zdal_p dlw_C_3 (i := 52) rfl
theorem d_Law_1157 : decode code 1157 = .ok (.iaload, 1) := zdal_p dlw_C_3 (i := 53) rfl
theorem d_Law_1158 : decode code 1158 = .ok (.invokevirtual 142, 3) := zdal_p dlw_C_3 (i := 54) rfl
theorem d_Law_1161 : decode code 1161 = .ok (.pop, 1) := zdal_p dlw_C_3 (i := 55) rfl
theorem d_Law_1162 : decode code 1162 = .ok (.goto 348, 3) := zdal_p dlw_C_3 (i := 56) rfl
theorem d_Law_1165 : decode code 1165 = .ok (.aload_n 1, 1) := zdal_p dlw_C_3 (i := 57) rfl
theorem d_Law_1166 : decode code 1166 = .ok (.invokevirtual 143, 3) := zdal_p dlw_C_3 (i := 58) rfl
theorem d_Law_1169 : decode code 1169 = .ok (.pop, 1) := zdal_p dlw_C_3 (i := 59) rfl
theorem d_Law_1170 : decode code 1170 = .ok (.aload_n 2, 1) := zdal_p dlw_C_3 (i := 60) rfl
theorem d_Law_1171 : decode code 1171 = .ok (.invokevirtual 146, 3) := zdal_p dlw_C_3 (i := 61) rfl
theorem d_Law_1174 : decode code 1174 = .ok (.pop, 1) := zdal_p dlw_C_3 (i := 62) rfl
theorem d_Law_1175 : decode code 1175 = .ok (.goto 335, 3) := zdal_p dlw_C_3 (i := 63) rfl
theorem dlw_C_4 : zdal code [(1178, (.aload_n 1, 1)), (1179, (.aload_n 0, 1)), (1180, (.iload_n 3, 1)), (1181, (.iconst 1, 1))] = true := zYQs 1178 (by decide +kernel)
theorem d_Law_1178 : decode code 1178 = .ok (.aload_n 1, 1) := zdal_p dlw_C_4 (i := 0) rfl
theorem d_Law_1179 : decode code 1179 = .ok (.aload_n 0, 1) := zdal_p dlw_C_4 (i := 1) rfl
theorem d_Law_1180 : decode code 1180 = .ok (.iload_n 3, 1) := zdal_p dlw_C_4 (i := 2) rfl
theorem d_Law_1181 : decode code 1181 = .ok (.iconst 1, 1) := zdal_p dlw_C_4 (i := 3) rfl
theorem dlw_D_0 : zdal code [(1182, (.iadd, 1)), (1183, (.iaload, 1)), (1184, (.aload_n 0, 1)), (1185, (.iload_n 3, 1)), (1186, (.iconst 2, 1)), (1187, (.iadd, 1)), (1188, (.iaload, 1)), (1189, (.invokevirtual 147, 3)), (1192, (.pop, 1)), (1193, (.aload_n 2, 1)), (1194, (.aload_n 0, 1)), (1195, (.iload_n 3, 1)), (1196, (.iconst 1, 1)), (1197, (.iadd, 1)), (1198, (.iaload, 1)), (1199, (.aload_n 0, 1)), (1200, (.iload_n 3, 1)), (1201, (.iconst 2, 1)), (1202, (.iadd, 1)), (1203, (.iaload, 1)), (1204, (.invokevirtual 150, 3)), (1207, (.pop, 1)), (1208, (.goto 302, 3)), (1211, (.aload_n 1, 1)), (1212, (.aload_n 0, 1)), (1213, (.iload_n 3, 1)), (1214, (.iconst 1, 1)), (1215, (.iadd, 1)), (1216, (.iaload, 1)), (1217, (.aload_n 0, 1)), (1218, (.iload_n 3, 1)), (1219, (.iconst 2, 1)), (1220, (.iadd, 1)), (1221, (.iaload, 1)), (1222, (.invokevirtual 151, 3)), (1225, (.pop2, 1)), (1226, (.aload_n 2, 1)), (1227, (.aload_n 0, 1)), (1228, (.iload_n 3, 1)), (1229, (.iconst 1, 1)), (1230, (.iadd, 1)), (1231, (.iaload, 1)), (1232, (.aload_n 0, 1)), (1233, (.iload_n 3, 1)), (1234, (.iconst 2, 1)), (1235, (.iadd, 1)), (1236, (.iaload, 1)), (1237, (.invokevirtual 155, 3)), (1240, (.pop2, 1)), (1241, (.goto 269, 3)), (1244, (.aload_n 1, 1)), (1245, (.aload_n 0, 1)), (1246, (.iload_n 3, 1)), (1247, (.iconst 1, 1)), (1248, (.iadd, 1)), (1249, (.iaload, 1)), (1250, (.invokevirtual 156, 3)), (1253, (.pop2, 1)), (1254, (.aload_n 2, 1)), (1255, (.aload_n 0, 1)), (1256, (.iload_n 3, 1)), (1257, (.iconst 1, 1)), (1258, (.iadd, 1)), (1259, (.iaload, 1))] = true := zYQs 1182 (by decide +kernel)
theorem d_Law_1182 : decode code 1182 = .ok (.iadd, 1) := zdal_p dlw_D_0 (i := 0) rfl
theorem d_Law_1183 : decode code 1183 = .ok (.iaload, 1) := zdal_p dlw_D_0 (i := 1) rfl
theorem d_Law_1184 : decode code 1184 = .ok (.aload_n 0, 1) := zdal_p dlw_D_0 (i := 2) rfl
theorem d_Law_1185 : decode code 1185 = .ok (.iload_n 3, 1) := zdal_p dlw_D_0 (i := 3) rfl
theorem d_Law_1186 : decode code 1186 = .ok (.iconst 2, 1) := zdal_p dlw_D_0 (i := 4) rfl
theorem d_Law_1187 : decode code 1187 = .ok (.iadd, 1) := zdal_p dlw_D_0 (i := 5) rfl
theorem d_Law_1188 : decode code 1188 = .ok (.iaload, 1) := zdal_p dlw_D_0 (i := 6) rfl
theorem d_Law_1189 : decode code 1189 = .ok (.invokevirtual 147, 3) := zdal_p dlw_D_0 (i := 7) rfl
theorem d_Law_1192 : decode code 1192 = .ok (.pop, 1) := zdal_p dlw_D_0 (i := 8) rfl
theorem d_Law_1193 : decode code 1193 = .ok (.aload_n 2, 1) := zdal_p dlw_D_0 (i := 9) rfl
theorem d_Law_1194 : decode code 1194 = .ok (.aload_n 0, 1) := zdal_p dlw_D_0 (i := 10) rfl
theorem d_Law_1195 : decode code 1195 = .ok (.iload_n 3, 1) := zdal_p dlw_D_0 (i := 11) rfl
theorem d_Law_1196 : decode code 1196 = .ok (.iconst 1, 1) := zdal_p dlw_D_0 (i := 12) rfl
theorem d_Law_1197 : decode code 1197 = .ok (.iadd, 1) := zdal_p dlw_D_0 (i := 13) rfl
theorem d_Law_1198 : decode code 1198 = .ok (.iaload, 1) := zdal_p dlw_D_0 (i := 14) rfl
theorem d_Law_1199 : decode code 1199 = .ok (.aload_n 0, 1) := zdal_p dlw_D_0 (i := 15) rfl
theorem d_Law_1200 : decode code 1200 = .ok (.iload_n 3, 1) := zdal_p dlw_D_0 (i := 16) rfl
theorem d_Law_1201 : decode code 1201 = .ok (.iconst 2, 1) := zdal_p dlw_D_0 (i := 17) rfl
theorem d_Law_1202 : decode code 1202 = .ok (.iadd, 1) := zdal_p dlw_D_0 (i := 18) rfl
theorem d_Law_1203 : decode code 1203 = .ok (.iaload, 1) := zdal_p dlw_D_0 (i := 19) rfl
theorem d_Law_1204 : decode code 1204 = .ok (.invokevirtual 150, 3) := zdal_p dlw_D_0 (i := 20) rfl
theorem d_Law_1207 : decode code 1207 = .ok (.pop, 1) := zdal_p dlw_D_0 (i := 21) rfl
theorem d_Law_1208 : decode code 1208 = .ok (.goto 302, 3) := zdal_p dlw_D_0 (i := 22) rfl
theorem d_Law_1211 : decode code 1211 = .ok (.aload_n 1, 1) := zdal_p dlw_D_0 (i := 23) rfl
theorem d_Law_1212 : decode code 1212 = .ok (.aload_n 0, 1) := zdal_p dlw_D_0 (i := 24) rfl
theorem d_Law_1213 : decode code 1213 = .ok (.iload_n 3, 1) := zdal_p dlw_D_0 (i := 25) rfl
theorem d_Law_1214 : decode code 1214 = .ok (.iconst 1, 1) := zdal_p dlw_D_0 (i := 26) rfl
theorem d_Law_1215 : decode code 1215 = .ok (.iadd, 1) := zdal_p dlw_D_0 (i := 27) rfl
theorem d_Law_1216 : decode code 1216 = .ok (.iaload, 1) := zdal_p dlw_D_0 (i := 28) rfl
theorem d_Law_1217 : decode code 1217 = .ok (.aload_n 0, 1) := zdal_p dlw_D_0 (i := 29) rfl
theorem d_Law_1218 : decode code 1218 = .ok (.iload_n 3, 1) := zdal_p dlw_D_0 (i := 30) rfl
theorem d_Law_1219 : decode code 1219 = .ok (.iconst 2, 1) := zdal_p dlw_D_0 (i := 31) rfl
theorem d_Law_1220 : decode code 1220 = .ok (.iadd, 1) := zdal_p dlw_D_0 (i := 32) rfl
theorem d_Law_1221 : decode code 1221 = .ok (.iaload, 1) := zdal_p dlw_D_0 (i := 33) rfl
theorem d_Law_1222 : decode code 1222 = .ok (.invokevirtual 151, 3) := zdal_p dlw_D_0 (i := 34) rfl
theorem d_Law_1225 : decode code 1225 = .ok (.pop2, 1) := zdal_p dlw_D_0 (i := 35) rfl
theorem d_Law_1226 : decode code 1226 = .ok (.aload_n 2, 1) := zdal_p dlw_D_0 (i := 36) rfl
theorem d_Law_1227 : decode code 1227 = .ok (.aload_n 0, 1) := zdal_p dlw_D_0 (i := 37) rfl
theorem d_Law_1228 : decode code 1228 = .ok (.iload_n 3, 1) := zdal_p dlw_D_0 (i := 38) rfl
theorem d_Law_1229 : decode code 1229 = .ok (.iconst 1, 1) := zdal_p dlw_D_0 (i := 39) rfl
theorem d_Law_1230 : decode code 1230 = .ok (.iadd, 1) := zdal_p dlw_D_0 (i := 40) rfl
theorem d_Law_1231 : decode code 1231 = .ok (.iaload, 1) := zdal_p dlw_D_0 (i := 41) rfl
theorem d_Law_1232 : decode code 1232 = .ok (.aload_n 0, 1) := zdal_p dlw_D_0 (i := 42) rfl
theorem d_Law_1233 : decode code 1233 = .ok (.iload_n 3, 1) := zdal_p dlw_D_0 (i := 43) rfl
theorem d_Law_1234 : decode code 1234 = .ok (.iconst 2, 1) := zdal_p dlw_D_0 (i := 44) rfl
theorem d_Law_1235 : decode code 1235 = .ok (.iadd, 1) := zdal_p dlw_D_0 (i := 45) rfl
theorem d_Law_1236 : decode code 1236 = .ok (.iaload, 1) := zdal_p dlw_D_0 (i := 46) rfl
theorem d_Law_1237 : decode code 1237 = .ok (.invokevirtual 155, 3) := zdal_p dlw_D_0 (i := 47) rfl
theorem d_Law_1240 : decode code 1240 = .ok (.pop2, 1) := zdal_p dlw_D_0 (i := 48) rfl
theorem d_Law_1241 : decode code 1241 = .ok (.goto 269, 3) := zdal_p dlw_D_0 (i := 49) rfl
theorem d_Law_1244 : decode code 1244 = .ok (.aload_n 1, 1) := zdal_p dlw_D_0 (i := 50) rfl
theorem d_Law_1245 : decode code 1245 = .ok (.aload_n 0, 1) := zdal_p dlw_D_0 (i := 51) rfl
theorem d_Law_1246 : decode code 1246 = .ok (.iload_n 3, 1) := zdal_p dlw_D_0 (i := 52) rfl
theorem d_Law_1247 : decode code 1247 = .ok (.iconst 1, 1) := zdal_p dlw_D_0 (i := 53) rfl
theorem d_Law_1248 : decode code 1248 = .ok (.iadd, 1) := zdal_p dlw_D_0 (i := 54) rfl
theorem d_Law_1249 : decode code 1249 = .ok (.iaload, 1) := zdal_p dlw_D_0 (i := 55) rfl
theorem d_Law_1250 : decode code 1250 = .ok (.invokevirtual 156, 3) := zdal_p dlw_D_0 (i := 56) rfl
theorem d_Law_1253 : decode code 1253 = .ok (.pop2, 1) := zdal_p dlw_D_0 (i := 57) rfl
theorem d_Law_1254 : decode code 1254 = .ok (.aload_n 2, 1) := zdal_p dlw_D_0 (i := 58) rfl
theorem d_Law_1255 : decode code 1255 = .ok (.aload_n 0, 1) := zdal_p dlw_D_0 (i := 59) rfl
theorem d_Law_1256 : decode code 1256 = .ok (.iload_n 3, 1) := zdal_p dlw_D_0 (i := 60) rfl
theorem d_Law_1257 : decode code 1257 = .ok (.iconst 1, 1) := zdal_p dlw_D_0 (i := 61) rfl
theorem d_Law_1258 : decode code 1258 = .ok (.iadd, 1) := zdal_p dlw_D_0 (i := 62) rfl
theorem d_Law_1259 : decode code 1259 = .ok (.iaload, 1) := zdal_p dlw_D_0 (i := 63) rfl
theorem dlw_D_1 : zdal code [(1260, (.invokevirtual 160, 3)), (1263, (.pop2, 1)), (1264, (.goto 246, 3)), (1267, (.aload_n 1, 1)), (1268, (.aload_n 0, 1)), (1269, (.iload_n 3, 1)), (1270, (.iconst 1, 1)), (1271, (.iadd, 1)), (1272, (.iaload, 1)), (1273, (.invokevirtual 161, 3)), (1276, (.pop2, 1)), (1277, (.aload_n 2, 1)), (1278, (.aload_n 0, 1)), (1279, (.iload_n 3, 1)), (1280, (.iconst 1, 1)), (1281, (.iadd, 1)), (1282, (.iaload, 1)), (1283, (.invokevirtual 164, 3)), (1286, (.pop2, 1)), (1287, (.goto 223, 3)), (1290, (.aload_n 1, 1)), (1291, (.aload_n 0, 1)), (1292, (.iload_n 3, 1)), (1293, (.iconst 1, 1)), (1294, (.iadd, 1)), (1295, (.iaload, 1)), (1296, (.invokevirtual 165, 3)), (1299, (.pop2, 1)), (1300, (.aload_n 2, 1)), (1301, (.aload_n 0, 1)), (1302, (.iload_n 3, 1)), (1303, (.iconst 1, 1)), (1304, (.iadd, 1)), (1305, (.iaload, 1)), (1306, (.invokevirtual 168, 3)), (1309, (.pop2, 1)), (1310, (.goto 200, 3)), (1313, (.aload_n 1, 1)), (1314, (.invokevirtual 169, 3)), (1317, (.pop, 1)), (1318, (.aload_n 2, 1)), (1319, (.invokevirtual 172, 3)), (1322, (.pop, 1)), (1323, (.goto 187, 3)), (1326, (.aload_n 1, 1)), (1327, (.aload_n 0, 1)), (1328, (.iload_n 3, 1)), (1329, (.iconst 1, 1)), (1330, (.iadd, 1)), (1331, (.iaload, 1)), (1332, (.invokevirtual 173, 3)), (1335, (.pop2, 1)), (1336, (.aload_n 2, 1)), (1337, (.aload_n 0, 1)), (1338, (.iload_n 3, 1)), (1339, (.iconst 1, 1)), (1340, (.iadd, 1)), (1341, (.iaload, 1)), (1342, (.invokevirtual 176, 3)), (1345, (.pop2, 1)), (1346, (.goto 164, 3)), (1349, (.aload_n 1, 1)), (1350, (.aload_n 0, 1)), (1351, (.iload_n 3, 1))] = true := zYQs 1260 (by decide +kernel)
theorem d_Law_1260 : decode code 1260 = .ok (.invokevirtual 160, 3) := zdal_p dlw_D_1 (i := 0) rfl
theorem d_Law_1263 : decode code 1263 = .ok (.pop2, 1) := zdal_p dlw_D_1 (i := 1) rfl
theorem d_Law_1264 : decode code 1264 = .ok (.goto 246, 3) := zdal_p dlw_D_1 (i := 2) rfl
theorem d_Law_1267 : decode code 1267 = .ok (.aload_n 1, 1) := zdal_p dlw_D_1 (i := 3) rfl
theorem d_Law_1268 : decode code 1268 = .ok (.aload_n 0, 1) := zdal_p dlw_D_1 (i := 4) rfl
theorem d_Law_1269 : decode code 1269 = .ok (.iload_n 3, 1) := zdal_p dlw_D_1 (i := 5) rfl
theorem d_Law_1270 : decode code 1270 = .ok (.iconst 1, 1) := zdal_p dlw_D_1 (i := 6) rfl
theorem d_Law_1271 : decode code 1271 = .ok (.iadd, 1) := zdal_p dlw_D_1 (i := 7) rfl
theorem d_Law_1272 : decode code 1272 = .ok (.iaload, 1) := zdal_p dlw_D_1 (i := 8) rfl
theorem d_Law_1273 : decode code 1273 = .ok (.invokevirtual 161, 3) := zdal_p dlw_D_1 (i := 9) rfl
theorem d_Law_1276 : decode code 1276 = .ok (.pop2, 1) := zdal_p dlw_D_1 (i := 10) rfl
theorem d_Law_1277 : decode code 1277 = .ok (.aload_n 2, 1) := zdal_p dlw_D_1 (i := 11) rfl
theorem d_Law_1278 : decode code 1278 = .ok (.aload_n 0, 1) := zdal_p dlw_D_1 (i := 12) rfl
theorem d_Law_1279 : decode code 1279 = .ok (.iload_n 3, 1) := zdal_p dlw_D_1 (i := 13) rfl
theorem d_Law_1280 : decode code 1280 = .ok (.iconst 1, 1) := zdal_p dlw_D_1 (i := 14) rfl
theorem d_Law_1281 : decode code 1281 = .ok (.iadd, 1) := zdal_p dlw_D_1 (i := 15) rfl
theorem d_Law_1282 : decode code 1282 = .ok (.iaload, 1) := zdal_p dlw_D_1 (i := 16) rfl
theorem d_Law_1283 : decode code 1283 = .ok (.invokevirtual 164, 3) := zdal_p dlw_D_1 (i := 17) rfl
theorem d_Law_1286 : decode code 1286 = .ok (.pop2, 1) := zdal_p dlw_D_1 (i := 18) rfl
theorem d_Law_1287 : decode code 1287 = .ok (.goto 223, 3) := zdal_p dlw_D_1 (i := 19) rfl
theorem d_Law_1290 : decode code 1290 = .ok (.aload_n 1, 1) := zdal_p dlw_D_1 (i := 20) rfl
theorem d_Law_1291 : decode code 1291 = .ok (.aload_n 0, 1) := zdal_p dlw_D_1 (i := 21) rfl
theorem d_Law_1292 : decode code 1292 = .ok (.iload_n 3, 1) := zdal_p dlw_D_1 (i := 22) rfl
theorem d_Law_1293 : decode code 1293 = .ok (.iconst 1, 1) := zdal_p dlw_D_1 (i := 23) rfl
theorem d_Law_1294 : decode code 1294 = .ok (.iadd, 1) := zdal_p dlw_D_1 (i := 24) rfl
theorem d_Law_1295 : decode code 1295 = .ok (.iaload, 1) := zdal_p dlw_D_1 (i := 25) rfl
theorem d_Law_1296 : decode code 1296 = .ok (.invokevirtual 165, 3) := zdal_p dlw_D_1 (i := 26) rfl
theorem d_Law_1299 : decode code 1299 = .ok (.pop2, 1) := zdal_p dlw_D_1 (i := 27) rfl
theorem d_Law_1300 : decode code 1300 = .ok (.aload_n 2, 1) := zdal_p dlw_D_1 (i := 28) rfl
theorem d_Law_1301 : decode code 1301 = .ok (.aload_n 0, 1) := zdal_p dlw_D_1 (i := 29) rfl
theorem d_Law_1302 : decode code 1302 = .ok (.iload_n 3, 1) := zdal_p dlw_D_1 (i := 30) rfl
theorem d_Law_1303 : decode code 1303 = .ok (.iconst 1, 1) := zdal_p dlw_D_1 (i := 31) rfl
theorem d_Law_1304 : decode code 1304 = .ok (.iadd, 1) := zdal_p dlw_D_1 (i := 32) rfl
theorem d_Law_1305 : decode code 1305 = .ok (.iaload, 1) := zdal_p dlw_D_1 (i := 33) rfl
theorem d_Law_1306 : decode code 1306 = .ok (.invokevirtual 168, 3) := zdal_p dlw_D_1 (i := 34) rfl
theorem d_Law_1309 : decode code 1309 = .ok (.pop2, 1) := zdal_p dlw_D_1 (i := 35) rfl
theorem d_Law_1310 : decode code 1310 = .ok (.goto 200, 3) := zdal_p dlw_D_1 (i := 36) rfl
theorem d_Law_1313 : decode code 1313 = .ok (.aload_n 1, 1) := zdal_p dlw_D_1 (i := 37) rfl
theorem d_Law_1314 : decode code 1314 = .ok (.invokevirtual 169, 3) := zdal_p dlw_D_1 (i := 38) rfl
theorem d_Law_1317 : decode code 1317 = .ok (.pop, 1) := zdal_p dlw_D_1 (i := 39) rfl
theorem d_Law_1318 : decode code 1318 = .ok (.aload_n 2, 1) := zdal_p dlw_D_1 (i := 40) rfl
theorem d_Law_1319 : decode code 1319 = .ok (.invokevirtual 172, 3) := zdal_p dlw_D_1 (i := 41) rfl
theorem d_Law_1322 : decode code 1322 = .ok (.pop, 1) := zdal_p dlw_D_1 (i := 42) rfl
theorem d_Law_1323 : decode code 1323 = .ok (.goto 187, 3) := zdal_p dlw_D_1 (i := 43) rfl
theorem d_Law_1326 : decode code 1326 = .ok (.aload_n 1, 1) := zdal_p dlw_D_1 (i := 44) rfl
theorem d_Law_1327 : decode code 1327 = .ok (.aload_n 0, 1) := zdal_p dlw_D_1 (i := 45) rfl
theorem d_Law_1328 : decode code 1328 = .ok (.iload_n 3, 1) := zdal_p dlw_D_1 (i := 46) rfl
theorem d_Law_1329 : decode code 1329 = .ok (.iconst 1, 1) := zdal_p dlw_D_1 (i := 47) rfl
theorem d_Law_1330 : decode code 1330 = .ok (.iadd, 1) := zdal_p dlw_D_1 (i := 48) rfl
theorem d_Law_1331 : decode code 1331 = .ok (.iaload, 1) := zdal_p dlw_D_1 (i := 49) rfl
theorem d_Law_1332 : decode code 1332 = .ok (.invokevirtual 173, 3) := zdal_p dlw_D_1 (i := 50) rfl
theorem d_Law_1335 : decode code 1335 = .ok (.pop2, 1) := zdal_p dlw_D_1 (i := 51) rfl
theorem d_Law_1336 : decode code 1336 = .ok (.aload_n 2, 1) := zdal_p dlw_D_1 (i := 52) rfl
theorem d_Law_1337 : decode code 1337 = .ok (.aload_n 0, 1) := zdal_p dlw_D_1 (i := 53) rfl
theorem d_Law_1338 : decode code 1338 = .ok (.iload_n 3, 1) := zdal_p dlw_D_1 (i := 54) rfl
theorem d_Law_1339 : decode code 1339 = .ok (.iconst 1, 1) := zdal_p dlw_D_1 (i := 55) rfl
theorem d_Law_1340 : decode code 1340 = .ok (.iadd, 1) := zdal_p dlw_D_1 (i := 56) rfl
theorem d_Law_1341 : decode code 1341 = .ok (.iaload, 1) := zdal_p dlw_D_1 (i := 57) rfl
theorem d_Law_1342 : decode code 1342 = .ok (.invokevirtual 176, 3) := zdal_p dlw_D_1 (i := 58) rfl
theorem d_Law_1345 : decode code 1345 = .ok (.pop2, 1) := zdal_p dlw_D_1 (i := 59) rfl
theorem d_Law_1346 : decode code 1346 = .ok (.goto 164, 3) := zdal_p dlw_D_1 (i := 60) rfl
theorem d_Law_1349 : decode code 1349 = .ok (.aload_n 1, 1) := zdal_p dlw_D_1 (i := 61) rfl
theorem d_Law_1350 : decode code 1350 = .ok (.aload_n 0, 1) := zdal_p dlw_D_1 (i := 62) rfl
theorem d_Law_1351 : decode code 1351 = .ok (.iload_n 3, 1) := zdal_p dlw_D_1 (i := 63) rfl
theorem dlw_D_2 : zdal code [(1352, (.iconst 1, 1)), (1353, (.iadd, 1)), (1354, (.iaload, 1)), (1355, (.invokevirtual 177, 3)), (1358, (.pop, 1)), (1359, (.aload_n 2, 1)), (1360, (.aload_n 0, 1)), (1361, (.iload_n 3, 1)), (1362, (.iconst 1, 1)), (1363, (.iadd, 1)), (1364, (.iaload, 1)), (1365, (.invokevirtual 180, 3)), (1368, (.pop, 1)), (1369, (.goto 141, 3)), (1372, (.aload_n 1, 1)), (1373, (.invokevirtual 181, 3)), (1376, (.pop, 1)), (1377, (.aload_n 2, 1)), (1378, (.invokevirtual 184, 3)), (1381, (.pop, 1)), (1382, (.goto 128, 3)), (1385, (.aload_n 1, 1)), (1386, (.aload_n 0, 1)), (1387, (.iload_n 3, 1)), (1388, (.iconst 1, 1)), (1389, (.iadd, 1)), (1390, (.iaload, 1)), (1391, (.aload_n 0, 1)), (1392, (.iload_n 3, 1)), (1393, (.iconst 2, 1)), (1394, (.iadd, 1)), (1395, (.iaload, 1)), (1396, (.invokevirtual 185, 3)), (1399, (.pop, 1)), (1400, (.aload_n 2, 1)), (1401, (.aload_n 0, 1)), (1402, (.iload_n 3, 1)), (1403, (.iconst 1, 1)), (1404, (.iadd, 1)), (1405, (.iaload, 1)), (1406, (.aload_n 0, 1)), (1407, (.iload_n 3, 1)), (1408, (.iconst 2, 1)), (1409, (.iadd, 1)), (1410, (.iaload, 1)), (1411, (.invokevirtual 188, 3)), (1414, (.pop, 1)), (1415, (.goto 95, 3)), (1418, (.aload_n 1, 1)), (1419, (.invokevirtual 189, 3)), (1422, (.pop, 1)), (1423, (.aload_n 2, 1)), (1424, (.invokevirtual 192, 3)), (1427, (.pop, 1)), (1428, (.goto 82, 3)), (1431, (.aload_n 1, 1)), (1432, (.aload_n 0, 1)), (1433, (.iload_n 3, 1)), (1434, (.iconst 1, 1)), (1435, (.iadd, 1)), (1436, (.iaload, 1)), (1437, (.invokevirtual 193, 3)), (1440, (.pop, 1)), (1441, (.aload_n 2, 1))] = true := zYQs 1352 (by decide +kernel)
theorem d_Law_1352 : decode code 1352 = .ok (.iconst 1, 1) := zdal_p dlw_D_2 (i := 0) rfl
theorem d_Law_1353 : decode code 1353 = .ok (.iadd, 1) := zdal_p dlw_D_2 (i := 1) rfl
theorem d_Law_1354 : decode code 1354 = .ok (.iaload, 1) := zdal_p dlw_D_2 (i := 2) rfl
theorem d_Law_1355 : decode code 1355 = .ok (.invokevirtual 177, 3) := zdal_p dlw_D_2 (i := 3) rfl
theorem d_Law_1358 : decode code 1358 = .ok (.pop, 1) := zdal_p dlw_D_2 (i := 4) rfl
theorem d_Law_1359 : decode code 1359 = .ok (.aload_n 2, 1) := zdal_p dlw_D_2 (i := 5) rfl
theorem d_Law_1360 : decode code 1360 = .ok (.aload_n 0, 1) := zdal_p dlw_D_2 (i := 6) rfl
theorem d_Law_1361 : decode code 1361 = .ok (.iload_n 3, 1) := zdal_p dlw_D_2 (i := 7) rfl
theorem d_Law_1362 : decode code 1362 = .ok (.iconst 1, 1) := zdal_p dlw_D_2 (i := 8) rfl
theorem d_Law_1363 : decode code 1363 = .ok (.iadd, 1) := zdal_p dlw_D_2 (i := 9) rfl
theorem d_Law_1364 : decode code 1364 = .ok (.iaload, 1) := zdal_p dlw_D_2 (i := 10) rfl
theorem d_Law_1365 : decode code 1365 = .ok (.invokevirtual 180, 3) := zdal_p dlw_D_2 (i := 11) rfl
theorem d_Law_1368 : decode code 1368 = .ok (.pop, 1) := zdal_p dlw_D_2 (i := 12) rfl
theorem d_Law_1369 : decode code 1369 = .ok (.goto 141, 3) := zdal_p dlw_D_2 (i := 13) rfl
theorem d_Law_1372 : decode code 1372 = .ok (.aload_n 1, 1) := zdal_p dlw_D_2 (i := 14) rfl
theorem d_Law_1373 : decode code 1373 = .ok (.invokevirtual 181, 3) := zdal_p dlw_D_2 (i := 15) rfl
theorem d_Law_1376 : decode code 1376 = .ok (.pop, 1) := zdal_p dlw_D_2 (i := 16) rfl
theorem d_Law_1377 : decode code 1377 = .ok (.aload_n 2, 1) := zdal_p dlw_D_2 (i := 17) rfl
theorem d_Law_1378 : decode code 1378 = .ok (.invokevirtual 184, 3) := zdal_p dlw_D_2 (i := 18) rfl
theorem d_Law_1381 : decode code 1381 = .ok (.pop, 1) := zdal_p dlw_D_2 (i := 19) rfl
theorem d_Law_1382 : decode code 1382 = .ok (.goto 128, 3) := zdal_p dlw_D_2 (i := 20) rfl
theorem d_Law_1385 : decode code 1385 = .ok (.aload_n 1, 1) := zdal_p dlw_D_2 (i := 21) rfl
theorem d_Law_1386 : decode code 1386 = .ok (.aload_n 0, 1) := zdal_p dlw_D_2 (i := 22) rfl
theorem d_Law_1387 : decode code 1387 = .ok (.iload_n 3, 1) := zdal_p dlw_D_2 (i := 23) rfl
theorem d_Law_1388 : decode code 1388 = .ok (.iconst 1, 1) := zdal_p dlw_D_2 (i := 24) rfl
theorem d_Law_1389 : decode code 1389 = .ok (.iadd, 1) := zdal_p dlw_D_2 (i := 25) rfl
theorem d_Law_1390 : decode code 1390 = .ok (.iaload, 1) := zdal_p dlw_D_2 (i := 26) rfl
theorem d_Law_1391 : decode code 1391 = .ok (.aload_n 0, 1) := zdal_p dlw_D_2 (i := 27) rfl
theorem d_Law_1392 : decode code 1392 = .ok (.iload_n 3, 1) := zdal_p dlw_D_2 (i := 28) rfl
theorem d_Law_1393 : decode code 1393 = .ok (.iconst 2, 1) := zdal_p dlw_D_2 (i := 29) rfl
theorem d_Law_1394 : decode code 1394 = .ok (.iadd, 1) := zdal_p dlw_D_2 (i := 30) rfl
theorem d_Law_1395 : decode code 1395 = .ok (.iaload, 1) := zdal_p dlw_D_2 (i := 31) rfl
theorem d_Law_1396 : decode code 1396 = .ok (.invokevirtual 185, 3) := zdal_p dlw_D_2 (i := 32) rfl
theorem d_Law_1399 : decode code 1399 = .ok (.pop, 1) := zdal_p dlw_D_2 (i := 33) rfl
theorem d_Law_1400 : decode code 1400 = .ok (.aload_n 2, 1) := zdal_p dlw_D_2 (i := 34) rfl
theorem d_Law_1401 : decode code 1401 = .ok (.aload_n 0, 1) := zdal_p dlw_D_2 (i := 35) rfl
theorem d_Law_1402 : decode code 1402 = .ok (.iload_n 3, 1) := zdal_p dlw_D_2 (i := 36) rfl
theorem d_Law_1403 : decode code 1403 = .ok (.iconst 1, 1) := zdal_p dlw_D_2 (i := 37) rfl
theorem d_Law_1404 : decode code 1404 = .ok (.iadd, 1) := zdal_p dlw_D_2 (i := 38) rfl
theorem d_Law_1405 : decode code 1405 = .ok (.iaload, 1) := zdal_p dlw_D_2 (i := 39) rfl
theorem d_Law_1406 : decode code 1406 = .ok (.aload_n 0, 1) := zdal_p dlw_D_2 (i := 40) rfl
theorem d_Law_1407 : decode code 1407 = .ok (.iload_n 3, 1) := zdal_p dlw_D_2 (i := 41) rfl
theorem d_Law_1408 : decode code 1408 = .ok (.iconst 2, 1) := zdal_p dlw_D_2 (i := 42) rfl
theorem d_Law_1409 : decode code 1409 = .ok (.iadd, 1) := zdal_p dlw_D_2 (i := 43) rfl
theorem d_Law_1410 : decode code 1410 = .ok (.iaload, 1) := zdal_p dlw_D_2 (i := 44) rfl
theorem d_Law_1411 : decode code 1411 = .ok (.invokevirtual 188, 3) := zdal_p dlw_D_2 (i := 45) rfl
theorem d_Law_1414 : decode code 1414 = .ok (.pop, 1) := zdal_p dlw_D_2 (i := 46) rfl
theorem d_Law_1415 : decode code 1415 = .ok (.goto 95, 3) := zdal_p dlw_D_2 (i := 47) rfl
theorem d_Law_1418 : decode code 1418 = .ok (.aload_n 1, 1) := zdal_p dlw_D_2 (i := 48) rfl
theorem d_Law_1419 : decode code 1419 = .ok (.invokevirtual 189, 3) := zdal_p dlw_D_2 (i := 49) rfl
theorem d_Law_1422 : decode code 1422 = .ok (.pop, 1) := zdal_p dlw_D_2 (i := 50) rfl
theorem d_Law_1423 : decode code 1423 = .ok (.aload_n 2, 1) := zdal_p dlw_D_2 (i := 51) rfl
theorem d_Law_1424 : decode code 1424 = .ok (.invokevirtual 192, 3) := zdal_p dlw_D_2 (i := 52) rfl
theorem d_Law_1427 : decode code 1427 = .ok (.pop, 1) := zdal_p dlw_D_2 (i := 53) rfl
theorem d_Law_1428 : decode code 1428 = .ok (.goto 82, 3) := zdal_p dlw_D_2 (i := 54) rfl
theorem d_Law_1431 : decode code 1431 = .ok (.aload_n 1, 1) := zdal_p dlw_D_2 (i := 55) rfl
theorem d_Law_1432 : decode code 1432 = .ok (.aload_n 0, 1) := zdal_p dlw_D_2 (i := 56) rfl
theorem d_Law_1433 : decode code 1433 = .ok (.iload_n 3, 1) := zdal_p dlw_D_2 (i := 57) rfl
theorem d_Law_1434 : decode code 1434 = .ok (.iconst 1, 1) := zdal_p dlw_D_2 (i := 58) rfl
theorem d_Law_1435 : decode code 1435 = .ok (.iadd, 1) := zdal_p dlw_D_2 (i := 59) rfl
theorem d_Law_1436 : decode code 1436 = .ok (.iaload, 1) := zdal_p dlw_D_2 (i := 60) rfl
theorem d_Law_1437 : decode code 1437 = .ok (.invokevirtual 193, 3) := zdal_p dlw_D_2 (i := 61) rfl
theorem d_Law_1440 : decode code 1440 = .ok (.pop, 1) := zdal_p dlw_D_2 (i := 62) rfl
theorem d_Law_1441 : decode code 1441 = .ok (.aload_n 2, 1) := zdal_p dlw_D_2 (i := 63) rfl
theorem dlw_D_3 : zdal code [(1442, (.aload_n 0, 1)), (1443, (.iload_n 3, 1)), (1444, (.iconst 1, 1)), (1445, (.iadd, 1)), (1446, (.iaload, 1)), (1447, (.invokevirtual 196, 3)), (1450, (.pop, 1)), (1451, (.goto 59, 3)), (1454, (.aload_n 1, 1)), (1455, (.aload_n 0, 1)), (1456, (.iload_n 3, 1)), (1457, (.iconst 1, 1)), (1458, (.iadd, 1)), (1459, (.iaload, 1)), (1460, (.aload_n 0, 1)), (1461, (.iload_n 3, 1)), (1462, (.iconst 2, 1)), (1463, (.iadd, 1)), (1464, (.iaload, 1)), (1465, (.aload_n 0, 1)), (1466, (.iload_n 3, 1)), (1467, (.iconst 3, 1)), (1468, (.iadd, 1)), (1469, (.iaload, 1)), (1470, (.invokevirtual 197, 3)), (1473, (.pop2, 1)), (1474, (.aload_n 2, 1)), (1475, (.aload_n 0, 1)), (1476, (.iload_n 3, 1)), (1477, (.iconst 1, 1)), (1478, (.iadd, 1)), (1479, (.iaload, 1)), (1480, (.aload_n 0, 1)), (1481, (.iload_n 3, 1)), (1482, (.iconst 2, 1)), (1483, (.iadd, 1)), (1484, (.iaload, 1)), (1485, (.aload_n 0, 1)), (1486, (.iload_n 3, 1)), (1487, (.iconst 3, 1)), (1488, (.iadd, 1)), (1489, (.iaload, 1)), (1490, (.invokevirtual 201, 3)), (1493, (.pop2, 1)), (1494, (.goto 16, 3)), (1497, (.aload_n 1, 1)), (1498, (.invokevirtual 202, 3)), (1501, (.pop, 1)), (1502, (.aload_n 2, 1)), (1503, (.invokevirtual 205, 3)), (1506, (.pop, 1)), (1507, (.goto 3, 3)), (1510, (.iinc 3 6, 3)), (1513, (.goto (-1495), 3)), (1516, (.iconst 1, 1)), (1517, (.ireturn, 1))] = true := zYQs 1442 (by decide +kernel)
theorem d_Law_1442 : decode code 1442 = .ok (.aload_n 0, 1) := zdal_p dlw_D_3 (i := 0) rfl
theorem d_Law_1443 : decode code 1443 = .ok (.iload_n 3, 1) := zdal_p dlw_D_3 (i := 1) rfl
theorem d_Law_1444 : decode code 1444 = .ok (.iconst 1, 1) := zdal_p dlw_D_3 (i := 2) rfl
theorem d_Law_1445 : decode code 1445 = .ok (.iadd, 1) := zdal_p dlw_D_3 (i := 3) rfl
theorem d_Law_1446 : decode code 1446 = .ok (.iaload, 1) := zdal_p dlw_D_3 (i := 4) rfl
theorem d_Law_1447 : decode code 1447 = .ok (.invokevirtual 196, 3) := zdal_p dlw_D_3 (i := 5) rfl
theorem d_Law_1450 : decode code 1450 = .ok (.pop, 1) := zdal_p dlw_D_3 (i := 6) rfl
theorem d_Law_1451 : decode code 1451 = .ok (.goto 59, 3) := zdal_p dlw_D_3 (i := 7) rfl
theorem d_Law_1454 : decode code 1454 = .ok (.aload_n 1, 1) := zdal_p dlw_D_3 (i := 8) rfl
theorem d_Law_1455 : decode code 1455 = .ok (.aload_n 0, 1) := zdal_p dlw_D_3 (i := 9) rfl
theorem d_Law_1456 : decode code 1456 = .ok (.iload_n 3, 1) := zdal_p dlw_D_3 (i := 10) rfl
theorem d_Law_1457 : decode code 1457 = .ok (.iconst 1, 1) := zdal_p dlw_D_3 (i := 11) rfl
theorem d_Law_1458 : decode code 1458 = .ok (.iadd, 1) := zdal_p dlw_D_3 (i := 12) rfl
theorem d_Law_1459 : decode code 1459 = .ok (.iaload, 1) := zdal_p dlw_D_3 (i := 13) rfl
theorem d_Law_1460 : decode code 1460 = .ok (.aload_n 0, 1) := zdal_p dlw_D_3 (i := 14) rfl
theorem d_Law_1461 : decode code 1461 = .ok (.iload_n 3, 1) := zdal_p dlw_D_3 (i := 15) rfl
theorem d_Law_1462 : decode code 1462 = .ok (.iconst 2, 1) := zdal_p dlw_D_3 (i := 16) rfl
theorem d_Law_1463 : decode code 1463 = .ok (.iadd, 1) := zdal_p dlw_D_3 (i := 17) rfl
theorem d_Law_1464 : decode code 1464 = .ok (.iaload, 1) := zdal_p dlw_D_3 (i := 18) rfl
theorem d_Law_1465 : decode code 1465 = .ok (.aload_n 0, 1) := zdal_p dlw_D_3 (i := 19) rfl
theorem d_Law_1466 : decode code 1466 = .ok (.iload_n 3, 1) := zdal_p dlw_D_3 (i := 20) rfl
theorem d_Law_1467 : decode code 1467 = .ok (.iconst 3, 1) := zdal_p dlw_D_3 (i := 21) rfl
theorem d_Law_1468 : decode code 1468 = .ok (.iadd, 1) := zdal_p dlw_D_3 (i := 22) rfl
theorem d_Law_1469 : decode code 1469 = .ok (.iaload, 1) := zdal_p dlw_D_3 (i := 23) rfl
theorem d_Law_1470 : decode code 1470 = .ok (.invokevirtual 197, 3) := zdal_p dlw_D_3 (i := 24) rfl
theorem d_Law_1473 : decode code 1473 = .ok (.pop2, 1) := zdal_p dlw_D_3 (i := 25) rfl
theorem d_Law_1474 : decode code 1474 = .ok (.aload_n 2, 1) := zdal_p dlw_D_3 (i := 26) rfl
theorem d_Law_1475 : decode code 1475 = .ok (.aload_n 0, 1) := zdal_p dlw_D_3 (i := 27) rfl
theorem d_Law_1476 : decode code 1476 = .ok (.iload_n 3, 1) := zdal_p dlw_D_3 (i := 28) rfl
theorem d_Law_1477 : decode code 1477 = .ok (.iconst 1, 1) := zdal_p dlw_D_3 (i := 29) rfl
theorem d_Law_1478 : decode code 1478 = .ok (.iadd, 1) := zdal_p dlw_D_3 (i := 30) rfl
theorem d_Law_1479 : decode code 1479 = .ok (.iaload, 1) := zdal_p dlw_D_3 (i := 31) rfl
theorem d_Law_1480 : decode code 1480 = .ok (.aload_n 0, 1) := zdal_p dlw_D_3 (i := 32) rfl
theorem d_Law_1481 : decode code 1481 = .ok (.iload_n 3, 1) := zdal_p dlw_D_3 (i := 33) rfl
theorem d_Law_1482 : decode code 1482 = .ok (.iconst 2, 1) := zdal_p dlw_D_3 (i := 34) rfl
theorem d_Law_1483 : decode code 1483 = .ok (.iadd, 1) := zdal_p dlw_D_3 (i := 35) rfl
theorem d_Law_1484 : decode code 1484 = .ok (.iaload, 1) := zdal_p dlw_D_3 (i := 36) rfl
theorem d_Law_1485 : decode code 1485 = .ok (.aload_n 0, 1) := zdal_p dlw_D_3 (i := 37) rfl
theorem d_Law_1486 : decode code 1486 = .ok (.iload_n 3, 1) := zdal_p dlw_D_3 (i := 38) rfl
theorem d_Law_1487 : decode code 1487 = .ok (.iconst 3, 1) := zdal_p dlw_D_3 (i := 39) rfl
theorem d_Law_1488 : decode code 1488 = .ok (.iadd, 1) := zdal_p dlw_D_3 (i := 40) rfl
theorem d_Law_1489 : decode code 1489 = .ok (.iaload, 1) := zdal_p dlw_D_3 (i := 41) rfl
theorem d_Law_1490 : decode code 1490 = .ok (.invokevirtual 201, 3) := zdal_p dlw_D_3 (i := 42) rfl
theorem d_Law_1493 : decode code 1493 = .ok (.pop2, 1) := zdal_p dlw_D_3 (i := 43) rfl
theorem d_Law_1494 : decode code 1494 = .ok (.goto 16, 3) := zdal_p dlw_D_3 (i := 44) rfl
theorem d_Law_1497 : decode code 1497 = .ok (.aload_n 1, 1) := zdal_p dlw_D_3 (i := 45) rfl
theorem d_Law_1498 : decode code 1498 = .ok (.invokevirtual 202, 3) := zdal_p dlw_D_3 (i := 46) rfl
theorem d_Law_1501 : decode code 1501 = .ok (.pop, 1) := zdal_p dlw_D_3 (i := 47) rfl
theorem d_Law_1502 : decode code 1502 = .ok (.aload_n 2, 1) := zdal_p dlw_D_3 (i := 48) rfl
theorem d_Law_1503 : decode code 1503 = .ok (.invokevirtual 205, 3) := zdal_p dlw_D_3 (i := 49) rfl
theorem d_Law_1506 : decode code 1506 = .ok (.pop, 1) := zdal_p dlw_D_3 (i := 50) rfl
theorem d_Law_1507 : decode code 1507 = .ok (.goto 3, 3) := zdal_p dlw_D_3 (i := 51) rfl
theorem d_Law_1510 : decode code 1510 = .ok (.iinc 3 6, 3) := zdal_p dlw_D_3 (i := 52) rfl
theorem d_Law_1513 : decode code 1513 = .ok (.goto (-1495), 3) := zdal_p dlw_D_3 (i := 53) rfl
theorem d_Law_1516 : decode code 1516 = .ok (.iconst 1, 1) := zdal_p dlw_D_3 (i := 54) rfl
theorem d_Law_1517 : decode code 1517 = .ok (.ireturn, 1) := zdal_p dlw_D_3 (i := 55) rfl
def mLaw (nm : String) : zMeth := (⟨"TroupeSumsLaw", nm, "([I)Z"⟩, code, 4, ret, 12, 1, 14, 528)
section LAW
variable {p : Program} {l : Launch} {e : Env} {R : Room} {s : State} {m : MethodId} {args : Array Value} {below : List Frame} {meth : Method} {c : Code} {D : va_G} {cI cJ : ClassId} {ad adV : Nat → Nat} {nm : String} {H : Heap} {locs : List Loc} {ls : Array Slot} {M : zMem} {Qm : State → Prop}
theorem lw_callV {k' : zMeth} {Q' : Option Value → zMem → Prop} {ix pc q nn ww : Nat} {st : List Value} {lv : List (Nat × Value)} (C : zCtx p R s m args meth c (mLaw nm)) (I : zI D cI cJ ad adV M s H locs) (hl : lv_has ls 4 lv) (vs rest : List Value) (hl' : zMLV 12 ix k') (hC : zC l k' 0 0 (.ref q :: vs) M Q') (hSt : st = (vs.map (zv ad)).reverse ++ .ref (ad q) :: rest) (hn : vs.length = zna k') (hb : (zsh M q).1 = zo k' + 3) (h12 : zo k' < 12) (hR : zF k' + 1 ≤ 14 ∧ 8 + (zl k' + 11) + zLo k' ≤ 528) (hc8 : (rest.map fun v => v.category).sum ≤ 8) (hd : decode code pc = .ok (.invokevirtual ix, 3)) (hnn : zn M = nn) (hww : zw M = ww) (hRr : nn ≤ R.cells ∧ ww ≤ R.slots)
    (kk : ∀ (r : Option Value) (M' : zMem) (H1 : Heap) (locs1 : List Loc), Q' r M' → zn M' = nn → zw M' = ww → zI D cI cJ ad adV M' s H1 locs1 → W p l e R s m args below meth c H1 locs1 nn ww Qm (F0 m (pc + 3) ls ((r.map (zv ad)).toList ++ rest))) : W p l e R s m args below meth c H locs nn ww Qm (F0 m pc ls st) := by
  subst hSt
  obtain ⟨hlk, hin, hse, hM⟩ := hl'
  have hlt : q < zn M := zOK_lt I.2.2.2.2.2 (t := zo k' + 2) (by omega)
  have he : (zws cI cJ ad M)[q]? = some (ad q, .inr (zo k', zFs ad M q (zo k'))) := by rw [zws_get hlt, zE_obj hb]
  have hrec := va_recv I.1.1 I.2.2.1 (z_cl _ h12) he
  have hPre : PreV s H (zR (zo k')) (ad q) (va_Pc ((.ref q :: vs : List Value).map (zv ad)) (zIe D cI cJ ad adV M)) (vs.map (zv ad)) := ⟨zIe_blind, hrec, fun U hU hW => ⟨rfl, zIe_of I hU hW⟩⟩
  have fin : ∀ (r : Option Value) (M' : zMem) (H1 : Heap) (locs1 : List Loc), Q' r M' → zn M' = zn M + 0 → zw M' = zw M + 0 → zI D cI cJ ad adV M' s H1 locs1 → W p l e R s m args below meth c H1 locs1 (nn + 0) (ww + 0) Qm (F0 m (pc + 3) ls ((r.map (zv ad)).toList ++ rest)) := fun r M' H1 locs1 q1 q2 q3 q4 => kk r M' H1 locs1 q1 (by omega) (by omega) q4
  rcases hlk with hlk | ⟨host, hlk⟩
  · exact z_ran (va_runV (Ts := z_tbl) (C := zR (zo k')) ⟨C.1, C.2.1, C.2.2.1, C.2.2.2.1, C.2.2.2.2.1⟩ (hC D cI cJ ad adV) ⟨z_callB C hlk hM hR, C.2.2.2.2.1 _ hin, C.2.2.2.2.1 _ hse⟩ hPre rfl (by rw [List.length_map]; exact hn) hl.1 rfl (lv_room hc8) hd ⟨by omega, by omega⟩) I fin
  · exact z_ran (va_runVN (Ts := z_tbl) (C := zR (zo k')) ⟨C.1, C.2.1, C.2.2.1, C.2.2.2.1, C.2.2.2.2.1⟩ (hC D cI cJ ad adV) ⟨z_callN C (I.1.2.1 _ hlk) hM hR, C.2.2.2.2.1 _ hin, C.2.2.2.2.1 _ hse⟩ hPre rfl (by rw [List.length_map]; exact hn) hl.1 rfl (lv_room hc8) hd ⟨by omega, by omega⟩) I fin
theorem lw_callI {k' : zMeth} {Q' : Option Value → zMem → Prop} {ix pc q mc ms nn ww : Nat} {st : List Value} {lv : List (Nat × Value)} (C : zCtx p R s m args meth c (mLaw nm)) (I : zI D cI cJ ad adV M s H locs) (hl : lv_has ls 4 lv) (vs rest : List Value) (hl' : zMLI 12 ix k') (hC : zC l k' mc ms (.ref q :: vs) M Q') (hSt : st = (vs.map (zv ad)).reverse ++ .ref (ad q) :: rest) (hn : vs.length = zna k') (hR : zF k' + 1 ≤ 14 ∧ 8 + (zl k' + 11) + zLo k' ≤ 528) (hc8 : (rest.map fun v => v.category).sum ≤ 8) (hd : decode code pc = .ok (.invokespecial ix, 3)) (hnn : zn M = nn) (hww : zw M = ww) (hRr : nn + mc ≤ R.cells ∧ ww + ms ≤ R.slots)
    (kk : ∀ (r : Option Value) (M' : zMem) (H1 : Heap) (locs1 : List Loc), Q' r M' → zn M' = nn + mc → zw M' = ww + ms → zI D cI cJ ad adV M' s H1 locs1 → W p l e R s m args below meth c H1 locs1 (nn + mc) (ww + ms) Qm (F0 m (pc + 3) ls ((r.map (zv ad)).toList ++ rest))) : W p l e R s m args below meth c H locs nn ww Qm (F0 m pc ls st) := by
  subst hSt
  obtain ⟨hlk, hin, hy1, hret, hM⟩ := hl'
  have hPre : PreS s H (va_Pc ((.ref q :: vs : List Value).map (zv ad)) (zIe D cI cJ ad adV M)) (.ref (ad q) :: vs.map (zv ad)) := ⟨zIe_blind, fun U hU hW => ⟨rfl, zIe_of I hU hW⟩⟩
  have fin : ∀ (r : Option Value) (M' : zMem) (H1 : Heap) (locs1 : List Loc), Q' r M' → zn M' = zn M + mc → zw M' = zw M + ms → zI D cI cJ ad adV M' s H1 locs1 → W p l e R s m args below meth c H1 locs1 (nn + mc) (ww + ms) Qm (F0 m (pc + 3) ls ((r.map (zv ad)).toList ++ rest)) := fun r M' H1 locs1 q1 q2 q3 q4 => kk r M' H1 locs1 q1 (by omega) (by omega) q4
  rcases hlk with hlk | ⟨host, hlk⟩
  · have hB := z_callB (mc := mc) (ms := ms) C hlk hM hR
    rw [hret] at hB
    exact z_ran (va_runI (Ts := z_tbl) ⟨C.1, C.2.1, C.2.2.1, C.2.2.2.1, C.2.2.2.2.1⟩ (hC D cI cJ ad adV) ⟨hB, hy1, C.2.2.2.2.1 _ hin⟩ hPre rfl (by rw [List.length_map]; exact hn) hl.1 rfl (lv_room hc8) hd ⟨by omega, by omega⟩) I fin
  · have hB := z_callN (mc := mc) (ms := ms) C (I.1.2.1 _ hlk) hM hR
    rw [hret] at hB
    exact z_ran (va_runIN (Ts := z_tbl) ⟨C.1, C.2.1, C.2.2.1, C.2.2.2.1, C.2.2.2.2.1⟩ (hC D cI cJ ad adV) ⟨hB, hy1, C.2.2.2.2.1 _ hin⟩ hPre rfl (by rw [List.length_map]; exact hn) hl.1 rfl (lv_room hc8) hd ⟨by omega, by omega⟩) I fin
theorem lw_new {ix ci pc nn ww : Nat} {st : List Value} (C : zCtx p R s m args meth c (mLaw nm)) (I : zI D cI cJ ad adV M s H locs) (hci : ci < 12) (hcl : Cond.classLink (zR 12) ix (zR ci) ∈ z_tbl) (hdf : ∀ j, j < zN ci → defaultValue (zY ci j) = if zG ci j = 0 then .int 0 else if zG ci j = 1 then .long 0 else .null) (hd : decode code pc = .ok (.new ix, 3)) (hnn : zn M = nn) (hww : zw M = ww) (hm : nn < 1000000) (hRr : nn + 1 ≤ R.cells ∧ ww + zN ci ≤ R.slots)
    (kk : ∀ H', zI D cI cJ ad adV (zal M (ci + 3) (zN ci)) s H' locs → W p l e R s m args below meth c H' locs (nn + 1) (ww + zN ci) Qm (F0 m (pc + 3) ls (.ref (ad nn) :: st))) : W p l e R s m args below meth c H locs nn ww Qm (F0 m pc ls st) := by
  subst hnn hww
  have hb' : ad (zn M) = H.size := by rw [I.2.2.2.2.2.2.1 _ hm, I.2.2.2.2.1]
  have hsz : zsh (zal M (ci + 3) (zN ci)) (zn M) = (ci + 3, zN ci) := zal_sh
  have hKn := I.1.1.1 ci _ (z_cl ci hci)
  refine W.newcK C.1 C.2.1 C.2.2.2.1 (C.2.2.2.2.1 _ hcl) (C.2.2.2.2.1 _ (z_ia ci hci)) (C.2.2.2.2.1 _ (z_ini ci (by omega))) rfl hd (by omega) (by omega) hKn.2.1 rfl (fun H' kC hkC g1 g2 g3 => ?_)
  have hk := kk H' (zI_push I hm (by
      rw [zE_obj (by rw [hsz])]
      refine ⟨_, z_cl ci hci, (u_born (zY ci) C.2.2.2.2.1 (z_in ci hci) hKn hkC g1 (z_ty ci hci)).to (fun j hj => ?_)⟩
      rw [hdf j hj]
      show _ = (zFs ad _ _ ci).getD j .null
      rw [List.getD_eq_getElem?_getD, zFs_get hj]
      simp [zV, zi, zj, zf, zal, zn, va_rf]) g2 g3)
  rw [hb'] at hk
  exact hk
end LAW
